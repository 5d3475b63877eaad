section
/-! ===== BEGIN words of one list among another's, by their places ===== -/
theorem goodIn_r {big : List Cond} (ws : List Cond) (ps : List Nat) (hp : ws = ps.filterMap (fun i => big[i]?)) (h : ws.all goodWord = true) : GoodIn big ws := by
  intro w hw
  have h1 := List.all_eq_true.mp h w hw
  rw [hp] at hw
  obtain ⟨i, -, hi⟩ := List.mem_filterMap.mp hw
  have hm : w ∈ big := by first | exact List.mem_of_getElem? hi | exact List.getElem?_mem hi
  exact ⟨hm, good_of_word h1⟩
theorem goodIn_app {big a b : List Cond} (ha : GoodIn big a) (hb : GoodIn big b) : GoodIn big (a ++ b) := fun w h => (List.mem_append.mp h).elim (ha w) (hb w)
theorem goodIn_ca {big a b : List Cond} {c : Cond} (ha : GoodIn big (c :: a)) (hb : GoodIn big b) : GoodIn big (c :: (a ++ b)) := fun w h => (List.mem_cons.mp h).elim (fun e => ha w (List.mem_cons.mpr (Or.inl e))) (fun h => (List.mem_append.mp h).elim (fun h => ha w (List.mem_cons.mpr (Or.inr h))) (hb w))
theorem goodIn_sub {big ws : List Cond} (hm : ∀ w ∈ ws, w ∈ big) (h : ws.all goodWord = true) : GoodIn big ws := fun w hw => ⟨hm w hw, good_of_word (List.all_eq_true.mp h w hw)⟩
def shs (s : String) : Nat := s.toByteArray.data.toList.foldl (fun n b => n * 256 + b.toNat) 0
theorem nm_of {T : u_T} {n : Nat} (H : List Nat) (h1 : (List.range n).map (fun k => shs (T k).2.1) = H) (h2 : H.Pairwise (fun a b => a ≠ b)) : ∀ a, a < n → ∀ b, b < n → a ≠ b → (T a).2.1 ≠ (T b).2.1 := by
  intro a ha b hb hab e
  subst h1
  have hp := List.pairwise_iff_getElem.mp h2
  have hg : ∀ i (hi : i < ((List.range n).map (fun k => shs (T k).2.1)).length), ((List.range n).map (fun k => shs (T k).2.1))[i] = shs (T i).2.1 := fun i hi => by rw [List.getElem_map, List.getElem_range]
  have hL : ((List.range n).map (fun k => shs (T k).2.1)).length = n := by rw [List.length_map, List.length_range]
  rcases Nat.lt_or_gt_of_ne hab with h | h
  · exact hp a b (by rw [hL]; exact ha) (by rw [hL]; exact hb) h (by rw [hg, hg, e])
  · exact hp b a (by rw [hL]; exact hb) (by rw [hL]; exact ha) h (by rw [hg, hg, e])
def GpS (l big : List Cond) : Prop := ∀ w, w ∈ l → w ∈ big
theorem gp_n {big : List Cond} : GpS [] big := fun _ h => absurd h List.not_mem_nil
theorem gp_c {big l : List Cond} {c : Cond} (h : c ∈ big) (r : GpS l big) : GpS (c :: l) big := fun w hw => (List.mem_cons.mp hw).elim (fun e => by rw [e]; exact h) (r w)
theorem gp_a {big a b : List Cond} (h1 : GpS a big) (h2 : GpS b big) : GpS (a ++ b) big := fun w hw => (List.mem_append.mp hw).elim (h1 w) (h2 w)
theorem gp_s {big ws : List Cond} (hm : GpS ws big) (h : ws.all goodWord = true) : GoodIn big ws := goodIn_sub (fun w hw => hm w hw) h
theorem gp_h {l : List Cond} {a : Cond} : a ∈ a :: l := List.mem_cons.mpr (Or.inl rfl)
theorem gp_1 {l : List Cond} {a b : Cond} (h : a ∈ l) : a ∈ b :: l := List.mem_cons_of_mem _ h
theorem gp_4 {l : List Cond} {a b c d e : Cond} (h : a ∈ l) : a ∈ b :: c :: d :: e :: l := gp_1 (gp_1 (gp_1 (gp_1 h)))
theorem gp_16 {l : List Cond} {a b0 b1 b2 b3 b4 b5 b6 b7 b8 b9 c0 c1 c2 c3 c4 c5 : Cond} (h : a ∈ l) : a ∈ b0 :: b1 :: b2 :: b3 :: b4 :: b5 :: b6 :: b7 :: b8 :: b9 :: c0 :: c1 :: c2 :: c3 :: c4 :: c5 :: l := gp_4 (gp_4 (gp_4 (gp_4 h)))
theorem gp_v {o : String} {i : Nat} {y z : MethodName} {c : String} : ([.methodLink o i y, .instanceMethod y, .selects c y z, .initialized c] : List Cond).all goodWord = true := rfl
theorem gp_t {o c : String} {i : Nat} {y : MethodName} : ([.methodLink o i y, .static y, .initialized c] : List Cond).all goodWord = true := rfl
/-! ===== END ===== -/

/-! ===== BEGIN exceptions that leave a method, and their catching by the caller (launches without stack traces) ===== -/
section VXA
/-! The laws vx_back, vx_callV, vx_callS, vx_callSW, vx_throw0, vx_throwS follow proofs of the library, with one case more: JvmDerived/Free/Laws.lean (Back.of_free), Shelf42/LK1.lean (callV, callS), Shelf/KitTraced.lean (throwNew0V, throwNewS). -/
/-- where a method has thrown q: the class by its name, the cell, what was written, the world -/
def vx_T (XC : String → State → State → Prop) (st : State) (q : Addr) (t : State) (mc ms : Nat) (free : Addr → Prop) : Prop :=
  ∃ (E : String) (ce : Cell) (L : List Loc), XC E st t ∧ t.heap[q]? = some ce ∧ ce.vm = .none ∧ st.vm.findClass E = some ce.cls ∧ st.WarmedH t.vm ∧ st.sameButNew ({ t with vm := st.vm } : State) L mc ms ∧ ∀ z ∈ L, free z.base
def vx_Q (Qc : Array Value → State → Outcome → State → Prop) (XC : String → State → State → Prop) (mc ms : Nat) (free : Addr → Prop) : Array Value → State → Outcome → State → Prop := fun a st o t =>
  (Qc a st o t ∧ ∃ L, FrameEnd st o t L mc ms ∧ ∀ q ∈ L, free q.base) ∨ ∃ q, o = .threw q ∧ vx_T XC st q t mc ms free
/-- a callee that returns or throws -/
def vx_Met (l : Launch) (y : MethodName) (ws : List Cond) (rm : Room) (Pc : Array Value → State → Prop) (Qc : Array Value → State → Outcome → State → Prop) (XC : String → State → State → Prop) (mc ms : Nat) (free : Addr → Prop) : Prop :=
  MetFree l y (headSpec ws rm) Pc (fun _ _ _ _ _ => True) (vx_Q Qc XC mc ms free)
def vx_Post (XC : String → State → State → Prop) (mc ms : Nat) (free : Addr → Prop) : Pt → Array Value → Addr → Pt → Prop := fun A a q B =>
  ∃ (g : JFrame) (mk : MethodId) (t : State) (L : List Loc) (E : String) (ce : Cell), B.U.heap = t.heap ∧ B.U.vm = t.vm ∧ XC E (A.U.calling g mk a) t ∧ t.heap[q]? = some ce ∧ ce.vm = .none ∧ A.U.vm.findClass E = some ce.cls ∧ B.locs = A.locs ++ L ∧ (∀ z ∈ L, free z.base) ∧ B.cells = A.cells + mc ∧ B.slots = A.slots + ms
def vx_Back (l : Launch) (R : Room) (p : Program) (e : Env) (below : List Frame) (s : State) (sargs : Array Value) (y : MethodName) (len W9 : Nat)
    (Pre : Pt → Array Value → Prop) (Post : Pt → Array Value → Option Value → Pt → Prop) (PostX : Pt → Array Value → Addr → Pt → Prop) : Prop :=
  ∀ (m : MethodId) (meth : Method) (c : Code) (A : Pt) (g : JFrame) (ig : Instr) (mk : MethodId) (a : Array Value),
    Stand p l e R s m sargs below meth c A.U A.locs A.cells A.slots → g.method = m → g.locals.size = c.maxLocals → decode c.code g.pc = .ok (ig, len) →
    2 * g.monitorRoom + (g.stack.map fun v => v.category).sum ≤ W9 → A.U.methodNamed? y = some mk → Pre A a →
    (∃ (v : Option Value) (B : Pt), Stand p l e R s m sargs below meth c B.U B.locs B.cells B.slots ∧ Post A a v B ∧
      Steps p.tables e below (doInvoke e (A.U.setTop g) [] mk a).1 (B.U.setTop { g with pc := g.pc + len, stack := v.toList ++ g.stack })) ∨
    (∃ (q : Addr) (B : Pt), Stand p l e R s m sargs below meth c B.U B.locs B.cells B.slots ∧ PostX A a q B ∧
      Steps p.tables e below (doInvoke e (A.U.setTop g) [] mk a).1 ((B.U.setTop g).pushFrame (.throwing q)))
section Payer
variable {l : Launch} {R : Room} {p : Program} {e : Env} {below : List Frame} {s : State} {sargs : Array Value} {y : MethodName} {len W9 : Nat}
theorem vx_back {ws : List Cond} {rm : Room} {Pc : Array Value → State → Prop} {Qc : Array Value → State → Outcome → State → Prop} {XC : String → State → State → Prop} {mc ms : Nat} {free : Addr → Prop} {bytes : ByteArray} {maxL : Nat} {ret : Option FieldType}
    (hM : vx_Met l y ws rm Pc Qc XC mc ms free) (hblind : FrameBlind Pc) (hrc : rm.cells = mc) (hrs : rm.slots = ms)
    (hframes : rm.frames + 1 ≤ R.frames) (hlocals : W9 + (maxL + 11) + rm.locals ≤ R.locals)
    (hws : ∀ w ∈ ws, ∀ a' U, s.WarmedH U.vm → w.before a' U = true) (hcode : Cond.code y bytes maxL ret ∈ ws) (hinit : ∀ a' U, s.WarmedH U.vm → (Cond.initialized y.cls).before a' U = true) :
    vx_Back l R p e below s sargs y len W9 (PreOf R mc ms Pc) (PostOf Qc mc ms free) (vx_Post XC mc ms free) := by
  intro m meth c A g ig mk a X hg hsize hdg hW hn hp
  have h1 : (headSpec ws rm).pre.before a A.U = true := atoms_intro fun w hw => hws w hw _ _ X.warmed
  have h2 : (Cond.code y bytes maxL ret).before a A.U = true := hws _ hcode _ _ X.warmed
  have h3 : (Cond.initialized y.cls).before a A.U = true := hinit _ _ X.warmed
  have h4 : A.cells + (headSpec ws rm).room.cells ≤ R.cells := by rw [show (headSpec ws rm).room.cells = mc from hrc]; exact hp.1
  have h5 : A.slots + (headSpec ws rm).room.slots ≤ R.slots := by rw [show (headSpec ws rm).room.slots = ms from hrs]; exact hp.2.1
  have hPc : Pc a (A.U.calling g mk a) := hblind _ _ _ _ hp.2.2
  obtain ⟨U, Ls, c0, s0⟩ := A
  dsimp only [Pt.U, Pt.locs, Pt.cells, Pt.slots] at h1 h2 h3 h4 h5 X hn hPc ⊢
  obtain ⟨methY, cY, hmY, hcY, -, hlY, -, -, -, -⟩ := Cond.code_spec hn h2
  obtain ⟨kY, hkY, -⟩ := className_of_methodNamed hn
  have hinitY : kY.init = .initialized := Cond.initialized_spec (findClass_of_methodNamed hn) hkY h3
  have h : At U g.method c below := by rw [hg]; exact X.here
  have hlocals9 : W9 + (maxL + 11) + (headSpec ws rm).room.locals ≤ R.locals := hlocals
  have happ : (headSpec ws rm).appliesLoose y e.platform (U.calling g mk a) = true :=
    Spec.appliesLoose_calling (g := g) h hdg hn hkY hinitY
      (X.room_calling (g := g) (R' := (headSpec ws rm).room) hsize hmY hcY hframes (by rw [hlY]; omega) h4 h5) h1
  obtain ⟨mid, hmid⟩ := h.above
  have hfr : (U.setTop g).frames = (.java g :: mid) ++ below := by rw [State.frames_setTop' g h.top, hmid]; rfl
  obtain ⟨o, s₂, hsteps, -, hend, hq⟩ := Steps.callFree hM p X.admits X.cas X.clock (acts := []) hfr happ hPc trivial
  have hq' : vx_Q Qc XC mc ms free a (U.calling g mk a) o s₂ := hq
  rw [State.frames_setTop' g h.top] at hend
  obtain ⟨g₀, hg0⟩ := Option.isSome_iff_exists.mp h.top
  obtain ⟨r, hr⟩ := State.topJava?_eq_some.mp hg0
  have hr' : (({ U with heap := s₂.heap, slotsUsed := s₂.slotsUsed } : State).setVm s₂.vm).frames = .java g₀ :: r := hr
  rcases hq' with ⟨hqc, L, hfe, hL⟩ | ⟨q, rfl, E, ce, L, hx, hce, hcv, hcl, hW₂, hsm, hL⟩
  · obtain ⟨⟨v, rfl⟩, hW₂, e2, q2, q3, q4, q5, q6⟩ := id hfe
    have e3 : s₂ = ({ (U.calling g mk a).setFrames s₂.frames with heap := s₂.heap, slotsUsed := s₂.slotsUsed } : State).setVm s₂.vm := by
      have : s₂ = ({ s₂ with vm := (U.calling g mk a).vm } : State).setVm s₂.vm := rfl
      rw [e2] at this
      exact this
    obtain ⟨c₂, i₂, len₂, hc₂, hd₂, hf₂⟩ := hend
    have hW' : U.WarmedH s₂.vm := hW₂
    have hcc : c₂ = c := by
      have h1 : s₂.code? g.method = U.code? g.method := by
        rw [State.code?_eq, State.code?_eq, hW'.alike.method?]
      exact Option.some.inj (hc₂.symm.trans (h1.trans h.code))
    subst hcc
    have hlen : len₂ = len := by rw [hdg] at hd₂; cases hd₂; rfl
    subst hlen
    have hs₂ : s₂ = (({ U with heap := s₂.heap, slotsUsed := s₂.slotsUsed } : State).setVm s₂.vm).setTop { g with pc := g.pc + len₂, stack := v.toList ++ g.stack } := by
      refine e3.trans ?_
      rw [hf₂, State.calling_eq h.top, State.setFrames_setFrames, State.setTop_of_frames _ hr', hr]
      rfl
    have hsame : U.sameButNew ({ U with heap := s₂.heap, slotsUsed := s₂.slotsUsed } : State) L mc ms := by
      refine ⟨?_, q2, q3, q4, q5, q6⟩
      obtain ⟨t, ht, -⟩ := State.frames_cons hr
      show ({ U with heap := s₂.heap, slotsUsed := s₂.slotsUsed } : State) = { U.setFrames U.frames with heap := s₂.heap, slotsUsed := s₂.slotsUsed }
      rw [State.setFrames_self ht]
    subst hg
    refine Or.inl ⟨v, ⟨(({ U with heap := s₂.heap, slotsUsed := s₂.slotsUsed } : State).setVm s₂.vm), Ls ++ L, c0 + mc, s0 + ms⟩,
      ⟨X.admits, X.cas, X.clock, X.frames, X.room, X.hears, X.method, X.code, (X.here.setHeapUsed s₂.heap s₂.slotsUsed).setVm hW'.alike, X.tail, State.WarmedH.trans X.warmed hW', X.limits, X.bytes, X.same.trans (hsame.setVm s.vm)⟩,
      ⟨g, mk, s₂, L, rfl, rfl, hqc, rfl, hL, rfl, rfl⟩, ?_⟩
    show Steps p.tables e below _ ((({ U with heap := s₂.heap, slotsUsed := s₂.slotsUsed } : State).setVm s₂.vm).setTop { g with pc := g.pc + len₂, stack := v.toList ++ g.stack })
    rw [← hs₂]
    exact hsteps
  · obtain ⟨e2, q2, q3, q4, q5, q6⟩ := id hsm
    have e3 : s₂ = ({ (U.calling g mk a).setFrames s₂.frames with heap := s₂.heap, slotsUsed := s₂.slotsUsed } : State).setVm s₂.vm := by
      have : s₂ = ({ s₂ with vm := (U.calling g mk a).vm } : State).setVm s₂.vm := rfl
      rw [e2] at this
      exact this
    have hf₂ : s₂.frames = .throwing q :: .java g :: U.frames.tail := hend
    have hW' : U.WarmedH s₂.vm := hW₂
    have hs₂ : s₂ = ((({ U with heap := s₂.heap, slotsUsed := s₂.slotsUsed } : State).setVm s₂.vm).setTop g).pushFrame (.throwing q) := by
      refine e3.trans ?_
      rw [hf₂, State.calling_eq h.top, State.setFrames_setFrames, State.pushFrame, State.frames_setTop _ hr', State.setTop_of_frames _ hr', State.setFrames_setFrames, hr]
      rfl
    have hsame : U.sameButNew ({ U with heap := s₂.heap, slotsUsed := s₂.slotsUsed } : State) L mc ms := by
      refine ⟨?_, q2, q3, q4, q5, q6⟩
      obtain ⟨t, ht, -⟩ := State.frames_cons hr
      show ({ U with heap := s₂.heap, slotsUsed := s₂.slotsUsed } : State) = { U.setFrames U.frames with heap := s₂.heap, slotsUsed := s₂.slotsUsed }
      rw [State.setFrames_self ht]
    subst hg
    refine Or.inr ⟨q, ⟨(({ U with heap := s₂.heap, slotsUsed := s₂.slotsUsed } : State).setVm s₂.vm), Ls ++ L, c0 + mc, s0 + ms⟩,
      ⟨X.admits, X.cas, X.clock, X.frames, X.room, X.hears, X.method, X.code, (X.here.setHeapUsed s₂.heap s₂.slotsUsed).setVm hW'.alike, X.tail, State.WarmedH.trans X.warmed hW', X.limits, X.bytes, X.same.trans (hsame.setVm s.vm)⟩,
      ⟨g, mk, s₂, L, E, ce, rfl, rfl, hx, hce, hcv, hcl, rfl, hL, rfl, rfl⟩, ?_⟩
    show Steps p.tables e below _ (((({ U with heap := s₂.heap, slotsUsed := s₂.slotsUsed } : State).setVm s₂.vm).setTop g).pushFrame (.throwing q))
    rw [← hs₂]
    exact hsteps
end Payer
section Calls
variable {p : Program} {l : Launch} {e : Env} {R : Room} {s : State} {m : MethodId} {args : Array Value} {below : List Frame} {meth : Method} {c : Code} {T : State} {locs : List Loc} {cells slots : Nat}
theorem vx_callV (X : Stand p l e R s m args below meth c T locs cells slots) (hexec : p.tables.exec = Jvm.exec) {own C : String} {index : Nat} {y : MethodName} {bytes : ByteArray} {maxL : Nat} {ret : Option FieldType}
    (hown : s.vm.findClass own = some m.cls) (hlink : (Cond.methodLink own index y).before args s = true) (hinst : (Cond.instanceMethod y).before args s = true) (hsel : (Cond.selects C y y).before args s = true)
    (hcode : (Cond.code y bytes maxL ret).before args s = true) (hy : y.cls ≠ "java/lang/invoke/MethodHandle" ∧ y.cls ≠ "java/lang/invoke/VarHandle")
    {W9 : Nat} {Pre : Pt → Array Value → Prop} {Post : Pt → Array Value → Option Value → Pt → Prop} {PostX : Pt → Array Value → Addr → Pt → Prop} (hK : vx_Back l R p e below s args y 3 W9 Pre Post PostX)
    {b : Addr} {cellB : Cell} (hcell : T.heap[b]? = some cellB) (hobj : cellB.vm.isStatics = false) (hcls : s.vm.findClass C = some cellB.cls)
    {g : JFrame} (hg : g.method = m) (hsize : g.locals.size = c.maxLocals) {argsL rest : List Value} (hlen : ∀ sig, parseMethodDescriptor y.desc = some sig → argsL.length = sig.parameters.length)
    (hstack : g.stack = argsL.reverse ++ .ref b :: rest) (hW : 2 * g.monitorRoom + (rest.map fun v => v.category).sum ≤ W9) (hdg : decode c.code g.pc = .ok (.invokevirtual index, 3))
    (hpre : ∀ vm₁, s.WarmedH vm₁ → Pre ⟨T.setVm vm₁, locs, cells, slots⟩ (Value.ref b :: argsL).toArray) :
    (∃ (v : Option Value) (vm₁ : Vm) (B : Pt), s.WarmedH vm₁ ∧ Stand p l e R s m args below meth c B.U B.locs B.cells B.slots ∧ Post ⟨T.setVm vm₁, locs, cells, slots⟩ (Value.ref b :: argsL).toArray v B ∧
      ∀ target, Steps p.tables e below (B.U.setTop { g with pc := g.pc + 3, stack := v.toList ++ rest }) target → Steps p.tables e below (T.setTop g) target) ∨
    (∃ (q : Addr) (vm₁ : Vm) (B : Pt), s.WarmedH vm₁ ∧ Stand p l e R s m args below meth c B.U B.locs B.cells B.slots ∧ PostX ⟨T.setVm vm₁, locs, cells, slots⟩ (Value.ref b :: argsL).toArray q B ∧
      Steps p.tables e below (T.setTop g) ((B.U.setTop { g with stack := rest }).pushFrame (.throwing q))) := by
  obtain ⟨mk, methM, hnamed, hmethM, hstM, habM⟩ := Cond.instanceMethod_spec hinst
  obtain ⟨methM', cM, hmethM', -, -, -, -, -, -, hsigM⟩ := Cond.code_spec hnamed hcode
  cases hmethM.symm.trans hmethM'
  obtain ⟨c2, r2, m2, q1, q2, q3, q4, kP, hkP, hkPi⟩ := Cond.selects_spec hsel
  cases hcls.symm.trans q1
  cases (State.methodFound?_of_named hnamed hy).symm.trans q2
  cases hnamed.symm.trans q3
  have hselP : selectMethod e.platform s.vm cellB.cls mk = .method mk := by rw [Launch.admits_selectMethod X.admits]; exact q4
  obtain ⟨vm₁, X₁, hstep₁⟩ := X.invokevirtual hexec hown hlink hnamed hmethM hstM hkP hkPi hy (a := b) (cell := cellB) hcell
    (fun z h => by rw [h] at hobj; cases hobj) hselP hmethM habM hkP hkPi (g := g) hg (argsL := argsL) (rest := rest) (hlen _ hsigM) hstack hdg
  rcases hK m meth c ⟨T.setVm vm₁, locs, cells, slots⟩ { g with stack := rest } (.invokevirtual index) mk (Value.ref b :: argsL).toArray X₁ hg hsize hdg hW (X₁.named hnamed) (hpre vm₁ X₁.warmed) with ⟨v, B, X', hpost, hsteps⟩ | ⟨q, B, X', hpost, hsteps⟩
  · exact Or.inl ⟨v, vm₁, B, X₁.warmed, X', hpost, fun target h => hstep₁ _ fun acts => by rw [doInvoke_state]; exact hsteps.trans h⟩
  · exact Or.inr ⟨q, vm₁, B, X₁.warmed, X', hpost, hstep₁ _ fun acts => by rw [doInvoke_state]; exact hsteps⟩
theorem vx_callS (X : Stand p l e R s m args below meth c T locs cells slots) (hexec : p.tables.exec = Jvm.exec) {own : String} {index : Nat} {y : MethodName} {bytes : ByteArray} {maxL : Nat} {ret : Option FieldType}
    (hown : s.vm.findClass own = some m.cls) (hlink : (Cond.methodLink own index y).before args s = true) (hstat : (Cond.static y).before args s = true) (hinit : (Cond.initialized y.cls).before args s = true)
    (hcode : (Cond.code y bytes maxL ret).before args s = true) (hy : y.cls ≠ "java/lang/invoke/MethodHandle" ∧ y.cls ≠ "java/lang/invoke/VarHandle")
    {W9 : Nat} {Pre : Pt → Array Value → Prop} {Post : Pt → Array Value → Option Value → Pt → Prop} {PostX : Pt → Array Value → Addr → Pt → Prop} (hK : vx_Back l R p e below s args y 3 W9 Pre Post PostX)
    {g : JFrame} (hg : g.method = m) (hsize : g.locals.size = c.maxLocals) {argsL rest : List Value} (hlen : ∀ sig, parseMethodDescriptor y.desc = some sig → argsL.length = sig.parameters.length)
    (hstack : g.stack = argsL.reverse ++ rest) (hW : 2 * g.monitorRoom + (rest.map fun v => v.category).sum ≤ W9) (hdg : decode c.code g.pc = .ok (.invokestatic index, 3))
    (hpre : ∀ vm₁, s.WarmedH vm₁ → Pre ⟨T.setVm vm₁, locs, cells, slots⟩ argsL.toArray) :
    (∃ (v : Option Value) (vm₁ : Vm) (B : Pt), s.WarmedH vm₁ ∧ Stand p l e R s m args below meth c B.U B.locs B.cells B.slots ∧ Post ⟨T.setVm vm₁, locs, cells, slots⟩ argsL.toArray v B ∧
      ∀ target, Steps p.tables e below (B.U.setTop { g with pc := g.pc + 3, stack := v.toList ++ rest }) target → Steps p.tables e below (T.setTop g) target) ∨
    (∃ (q : Addr) (vm₁ : Vm) (B : Pt), s.WarmedH vm₁ ∧ Stand p l e R s m args below meth c B.U B.locs B.cells B.slots ∧ PostX ⟨T.setVm vm₁, locs, cells, slots⟩ argsL.toArray q B ∧
      Steps p.tables e below (T.setTop g) ((B.U.setTop { g with stack := rest }).pushFrame (.throwing q))) := by
  obtain ⟨mk, hnamed⟩ := Cond.code_named hcode
  obtain ⟨methM, cM, hmethM, -, -, -, -, -, -, hsigM⟩ := Cond.code_spec hnamed hcode
  have hstatic : methM.isStatic = true := Cond.static_spec hnamed hmethM hstat
  obtain ⟨kP, hkP, -⟩ := className_of_methodNamed hnamed
  have hinitP : kP.init = .initialized := Cond.initialized_spec (findClass_of_methodNamed hnamed) hkP hinit
  obtain ⟨vm₁, X₁, hstep₁⟩ := X.invokestatic hexec hown hlink hnamed hmethM hstatic hkP hinitP hy (g := g) hg (argsL := argsL) (rest := rest) (hlen _ hsigM) hstack hdg
  rcases hK m meth c ⟨T.setVm vm₁, locs, cells, slots⟩ { g with stack := rest } (.invokestatic index) mk argsL.toArray X₁ hg hsize hdg hW (X₁.named hnamed) (hpre vm₁ X₁.warmed) with ⟨v, B, X', hpost, hsteps⟩ | ⟨q, B, X', hpost, hsteps⟩
  · exact Or.inl ⟨v, vm₁, B, X₁.warmed, X', hpost, fun target h => hstep₁ _ fun acts => by rw [doInvoke_state]; exact hsteps.trans h⟩
  · exact Or.inr ⟨q, vm₁, B, X₁.warmed, X', hpost, hstep₁ _ fun acts => by rw [doInvoke_state]; exact hsteps⟩
end Calls
theorem vx_cls {s : State} {T : State} {vm₁ : Vm} {E : String} {k : ClassId} (hW : s.WarmedH vm₁) (h : (T.setVm vm₁).vm.findClass E = some k) : s.vm.findClass E = some k := by
  have h1 : vm₁.findClass E = some k := h
  rw [hW.alike.findClass] at h1
  exact h1
/-- the method's frame g, with q thrown over it -/
def vx_W (p : Program) (l : Launch) (e : Env) (R : Room) (s : State) (m : MethodId) (args : Array Value) (below : List Frame) (meth : Method) (c : Code) (H : Heap) (locs : List Loc) (cells slots : Nat) (Q : State → Prop) (g : JFrame) (q : Addr) : Prop :=
  ∀ T : State, T.heap = H → Stand p l e R s m args below meth c T locs cells slots → ∃ t, Steps p.tables e below ((T.setTop g).pushFrame (.throwing q)) t ∧ Q t
def vx_Run (p : Program) (l : Launch) (e : Env) (R : Room) (s : State) (m : MethodId) (args : Array Value) (below : List Frame) (meth : Method) (c : Code) (H : Heap) (locs : List Loc) (cells slots mc ms : Nat) (g : JFrame) (rest : List Value) (Qa : State → Outcome → State → Prop) (XC : String → State → State → Prop) (free : Addr → Prop) : Prop :=
  ∀ T : State, T.heap = H → Stand p l e R s m args below meth c T locs cells slots →
    (∃ (v : Option Value) (st₀ t T' : State) (L : List Loc), st₀.heap = H ∧ Stand p l e R s m args below meth c T' (locs ++ L) (cells + mc) (slots + ms) ∧ (∀ q ∈ L, free q.base) ∧ T'.heap = t.heap ∧ T'.vm = t.vm ∧ Qa st₀ (.returned v) t ∧
      Goes p e below T g T' { g with pc := g.pc + 3, stack := v.toList ++ rest }) ∨
    (∃ (q : Addr) (st₀ t T' : State) (L : List Loc) (E : String) (ce : Cell), st₀.heap = H ∧ Stand p l e R s m args below meth c T' (locs ++ L) (cells + mc) (slots + ms) ∧ (∀ z ∈ L, free z.base) ∧ T'.heap = t.heap ∧ T'.vm = t.vm ∧ XC E st₀ t ∧ t.heap[q]? = some ce ∧ ce.vm = .none ∧ s.vm.findClass E = some ce.cls ∧
      Steps p.tables e below (T.setTop g) ((T'.setTop { g with stack := rest }).pushFrame (.throwing q)))
def vx_X {S : Type} (px : S → Prop) (B : String → S → State → Prop) (A : Nat → Prop) : String → State → State → Prop := fun E st t => ∃ u : S, px u ∧ B E u t ∧ va_F A st t
section Runs
variable {p : Program} {l : Launch} {e : Env} {R : Room} {s : State} {m : MethodId} {args : Array Value} {below : List Frame} {meth : Method} {c : Code} {H : Heap} {locs : List Loc} {cells slots : Nat}
variable {y : MethodName} {bytes cc : ByteArray} {maxL nL mc ms n index : Nat} {ret : Option FieldType} {ws : List Cond} {rm : Room} {Pc : Array Value → State → Prop} {Qc : Array Value → State → Outcome → State → Prop} {XC : String → State → State → Prop} {free : Addr → Prop} {Ts : List Cond} {own C : String} {b : Addr} {As rest : List Value} {g : JFrame}
theorem vx_callBack (cb : CallB R s args own index y bytes maxL ret ws rm mc ms n) (hM : vx_Met l y ws rm Pc Qc XC mc ms free) (hbl : FrameBlind Pc) : vx_Back l R p e below s args y 3 8 (PreOf R mc ms Pc) (PostOf Qc mc ms free) (vx_Post XC mc ms free) := by
  obtain ⟨hrc, hrs, hfr, hlo, hws, hcw, -, hini, -⟩ := cb
  exact vx_back (bytes := bytes) (maxL := maxL) (ret := ret) hM hbl hrc hrs hfr hlo hws hcw (fun a' U hW => word_at hW (Or.inl (by first | rfl | simp [Cond.onTables, Cond.keeps, Cond.steady])) hini)
theorem vx_runV (S : CallFix p m c cc nL s args Ts own) (hM : vx_Met l y ws rm Pc Qc XC mc ms free) (cw : CallW R s args own C index y bytes maxL ret ws rm mc ms n) (hp : PreV s H C b Pc As)
    (hg : g.method = m) (hn : As.length = n) (hsize : g.locals.size = nL) (hstack : g.stack = As.reverse ++ .ref b :: rest) (hW : 2 * g.monitorRoom + (rest.map fun v => v.category).sum ≤ 8) (hdg : decode cc g.pc = .ok (.invokevirtual index, 3)) (hf : cells + mc ≤ R.cells ∧ slots + ms ≤ R.slots) :
    vx_Run p l e R s m args below meth c H locs cells slots mc ms g rest (Qc (Value.ref b :: As).toArray) XC free := by
  have hK : vx_Back l R p e below s args y 3 8 (PreOf R mc ms Pc) (PostOf Qc mc ms free) (vx_Post XC mc ms free) := vx_callBack cw.1 hM hp.1
  obtain ⟨⟨-, -, -, -, -, -, hcode, -, hy, hlen, hl⟩, hin, hse⟩ := cw
  obtain ⟨hx, hb, hml, ho, -⟩ := S
  obtain ⟨-, ⟨cellB, hcB, hoB, hclB⟩, hPc⟩ := hp
  intro T hT X
  rcases vx_callV X hx (C := C) (bytes := bytes) (maxL := maxL) (ret := ret) ho hl hin hse hcode hy hK (by rw [hT]; exact hcB) hoB hclB hg (hsize.trans hml.symm) (argsL := As) (rest := rest) (fun sig h => hn.trans (hlen sig h)) hstack hW (by rw [hb]; exact hdg)
    (fun vm₁ hW₁ => ⟨hf.1, hf.2, hPc (T.setVm vm₁) hT hW₁⟩) with ⟨v, vm₁, ⟨U', l2, c2, s2⟩, hW₁, X', ⟨g', mk, t, L, e1, e2, hq, h1, hL, h2, h3⟩, st⟩ | ⟨q, vm₁, ⟨U', l2, c2, s2⟩, hW₁, X', ⟨g', mk, t, L, E, ce, e1, e2, hq, hce, hcv, hcl, h1, hL, h2, h3⟩, st⟩
  · dsimp only [Pt.U, Pt.locs, Pt.cells, Pt.slots] at X' e1 e2 h1 h2 h3 st
    subst h1; subst h2; subst h3
    exact Or.inl ⟨v, (T.setVm vm₁).calling g' mk (Value.ref b :: As).toArray, t, U', L, hT, X', hL, e1, e2, hq, st⟩
  · dsimp only [Pt.U, Pt.locs, Pt.cells, Pt.slots] at X' e1 e2 h1 h2 h3 st hcl
    subst h1; subst h2; subst h3
    exact Or.inr ⟨q, (T.setVm vm₁).calling g' mk (Value.ref b :: As).toArray, t, U', L, E, ce, hT, X', hL, e1, e2, hq, hce, hcv, vx_cls hW₁ hcl, st⟩
theorem vx_runS (S : CallFix p m c cc nL s args Ts own) (hM : vx_Met l y ws rm Pc Qc XC mc ms free) (cw : CallB R s args own index y bytes maxL ret ws rm mc ms n ∧ (Cond.static y).before args s = true) (hp : PreS s H Pc As)
    (hg : g.method = m) (hn : As.length = n) (hsize : g.locals.size = nL) (hstack : g.stack = As.reverse ++ rest) (hW : 2 * g.monitorRoom + (rest.map fun v => v.category).sum ≤ 8) (hdg : decode cc g.pc = .ok (.invokestatic index, 3)) (hf : cells + mc ≤ R.cells ∧ slots + ms ≤ R.slots) :
    vx_Run p l e R s m args below meth c H locs cells slots mc ms g rest (Qc As.toArray) XC free := by
  have hK : vx_Back l R p e below s args y 3 8 (PreOf R mc ms Pc) (PostOf Qc mc ms free) (vx_Post XC mc ms free) := vx_callBack cw.1 hM hp.1
  obtain ⟨⟨-, -, -, -, -, -, hcode, hini, hy, hlen, hl⟩, hstt⟩ := cw
  obtain ⟨hx, hb, hml, ho, -⟩ := S
  intro T hT X
  rcases vx_callS X hx (bytes := bytes) (maxL := maxL) (ret := ret) ho hl hstt hini hcode hy hK hg (hsize.trans hml.symm) (argsL := As) (rest := rest) (fun sig h => hn.trans (hlen sig h)) hstack hW (by rw [hb]; exact hdg)
    (fun vm₁ hW₁ => ⟨hf.1, hf.2, hp.2 (T.setVm vm₁) hT hW₁⟩) with ⟨v, vm₁, ⟨U', l2, c2, s2⟩, hW₁, X', ⟨g', mk, t, L, e1, e2, hq, h1, hL, h2, h3⟩, st⟩ | ⟨q, vm₁, ⟨U', l2, c2, s2⟩, hW₁, X', ⟨g', mk, t, L, E, ce, e1, e2, hq, hce, hcv, hcl, h1, hL, h2, h3⟩, st⟩
  · dsimp only [Pt.U, Pt.locs, Pt.cells, Pt.slots] at X' e1 e2 h1 h2 h3 st
    subst h1; subst h2; subst h3
    exact Or.inl ⟨v, (T.setVm vm₁).calling g' mk As.toArray, t, U', L, hT, X', hL, e1, e2, hq, st⟩
  · dsimp only [Pt.U, Pt.locs, Pt.cells, Pt.slots] at X' e1 e2 h1 h2 h3 st hcl
    subst h1; subst h2; subst h3
    exact Or.inr ⟨q, (T.setVm vm₁).calling g' mk As.toArray, t, U', L, E, ce, hT, X', hL, e1, e2, hq, hce, hcv, vx_cls hW₁ hcl, st⟩
end Runs
section Rows
variable {p : Program} {l : Launch} {e : Env} {R : Room} {s : State} {m : MethodId} {args : Array Value} {below : List Frame} {meth : Method} {c : Code} {H : Heap} {locs : List Loc} {cells slots : Nat} {Q : State → Prop}
variable {mc ms : Nat} {free : Addr → Prop} {A0 A1 : Nat → Prop} {H0 : Heap} {a : Array Value} {pc : Nat} {ls : Array Slot} {st0 rest : List Value}
theorem vx_keep {st₀ t T' : State} {L : List Loc} (h0 : st₀.heap = H) (e1 : T'.heap = t.heap) (hS : va_S A0 H0 H locs) (hA : ∀ q, q < H.size → A1 q → A0 q) (hf : ∀ q, free q → A0 q) (hL : ∀ q ∈ L, free q.base) (hF : va_F A1 st₀ t) :
    H.size ≤ T'.heap.size ∧ (∀ q : Nat, q < H.size → ¬ A1 q → T'.heap[q]? = H[q]?) ∧ va_S A0 H0 T'.heap (locs ++ L) := by
  obtain ⟨hz, hk⟩ := hF
  rw [h0] at hz hk
  exact ⟨by rw [e1]; exact hz, fun q h1 h2 => by rw [e1]; exact hk q h1 h2,
    ⟨Nat.le_trans hS.1 (by rw [e1]; exact hz), fun q h1 h2 => by rw [e1, hk q (Nat.lt_of_lt_of_le h1 hS.1) (fun z => h2 (hA q (Nat.lt_of_lt_of_le h1 hS.1) z))]; exact hS.2.1 q h1 h2, fun q hq => by
      rcases List.mem_append.mp hq with h | h
      · exact hS.2.2 q h
      · exact hf _ (hL q h)⟩⟩
theorem vx_calli {S SX : Type} {post : Int32 → S → Prop} {px : SX → Prop} {B : S → State → Prop} {BX : String → SX → State → Prop} {AX : Nat → Prop} (hr : vx_Run p l e R s m args below meth c H locs cells slots mc ms (F0 m pc ls st0) rest (va_Qi post B A1 a) (vx_X px BX AX) free) (hS : va_S A0 H0 H locs) (hA : ∀ q, q < H.size → A1 q → A0 q) (hf : ∀ q, free q → A0 q) (hAX : ∀ q, q < H.size → AX q → A0 q)
    (kx : ∀ (E : String) (ce : Cell) (q9 : Addr) (u : SX) (t : State) (H1 : Heap) (locs1 : List Loc), t.heap = H1 → s.vm.Alike t.vm → px u → BX E u t → H.size ≤ H1.size → (∀ q : Nat, q < H.size → ¬ AX q → H1[q]? = H[q]?) → va_S A0 H0 H1 locs1 → H1[q9]? = some ce → ce.vm = .none → s.vm.findClass E = some ce.cls → vx_W p l e R s m args below meth c H1 locs1 (cells + mc) (slots + ms) Q (F0 m pc ls rest) q9)
    (kk : ∀ (r : Int32) (u : S) (t : State) (H1 : Heap) (locs1 : List Loc), t.heap = H1 → s.vm.Alike t.vm → post r u → B u t → H.size ≤ H1.size → (∀ q : Nat, q < H.size → ¬ A1 q → H1[q]? = H[q]?) → va_S A0 H0 H1 locs1 → W p l e R s m args below meth c H1 locs1 (cells + mc) (slots + ms) Q (F0 m (pc + 3) ls (.int r :: rest))) : W p l e R s m args below meth c H locs cells slots Q (F0 m pc ls st0) := by
  intro T hT X
  rcases hr T hT X with ⟨v, st₀, t, T', L, h0, X', hL, e1, e2, ⟨⟨r, u, hv, hp, hb⟩, hF⟩, st⟩ | ⟨q, st₀, t, T', L, E, ce, h0, X', hL, e1, e2, ⟨u, hp, hb, hF⟩, hce, hcv, hcl, st⟩
  · cases hv
    obtain ⟨k1, k2, k3⟩ := vx_keep h0 e1 hS hA hf hL hF
    obtain ⟨t2, a1, b1⟩ := kk r u t T'.heap (locs ++ L) e1.symm (by rw [← e2]; exact X'.warmed.alike) hp hb k1 k2 k3 T' rfl X'
    exact ⟨t2, st t2 a1, b1⟩
  · obtain ⟨k1, k2, k3⟩ := vx_keep h0 e1 hS hAX hf hL hF
    obtain ⟨t2, a1, b1⟩ := kx E ce q u t T'.heap (locs ++ L) e1.symm (by rw [← e2]; exact X'.warmed.alike) hp hb k1 k2 k3 (by rw [e1]; exact hce) hcv hcl T' rfl X'
    exact ⟨t2, st.trans a1, b1⟩
theorem vx_calll {S SX : Type} {post : Int64 → S → Prop} {px : SX → Prop} {B : S → State → Prop} {BX : String → SX → State → Prop} {AX : Nat → Prop} (hr : vx_Run p l e R s m args below meth c H locs cells slots mc ms (F0 m pc ls st0) rest (va_Ql post B A1 a) (vx_X px BX AX) free) (hS : va_S A0 H0 H locs) (hA : ∀ q, q < H.size → A1 q → A0 q) (hf : ∀ q, free q → A0 q) (hAX : ∀ q, q < H.size → AX q → A0 q)
    (kx : ∀ (E : String) (ce : Cell) (q9 : Addr) (u : SX) (t : State) (H1 : Heap) (locs1 : List Loc), t.heap = H1 → s.vm.Alike t.vm → px u → BX E u t → H.size ≤ H1.size → (∀ q : Nat, q < H.size → ¬ AX q → H1[q]? = H[q]?) → va_S A0 H0 H1 locs1 → H1[q9]? = some ce → ce.vm = .none → s.vm.findClass E = some ce.cls → vx_W p l e R s m args below meth c H1 locs1 (cells + mc) (slots + ms) Q (F0 m pc ls rest) q9)
    (kk : ∀ (r : Int64) (u : S) (t : State) (H1 : Heap) (locs1 : List Loc), t.heap = H1 → s.vm.Alike t.vm → post r u → B u t → H.size ≤ H1.size → (∀ q : Nat, q < H.size → ¬ A1 q → H1[q]? = H[q]?) → va_S A0 H0 H1 locs1 → W p l e R s m args below meth c H1 locs1 (cells + mc) (slots + ms) Q (F0 m (pc + 3) ls (.long r :: rest))) : W p l e R s m args below meth c H locs cells slots Q (F0 m pc ls st0) := by
  intro T hT X
  rcases hr T hT X with ⟨v, st₀, t, T', L, h0, X', hL, e1, e2, ⟨⟨r, u, hv, hp, hb⟩, hF⟩, st⟩ | ⟨q, st₀, t, T', L, E, ce, h0, X', hL, e1, e2, ⟨u, hp, hb, hF⟩, hce, hcv, hcl, st⟩
  · cases hv
    obtain ⟨k1, k2, k3⟩ := vx_keep h0 e1 hS hA hf hL hF
    obtain ⟨t2, a1, b1⟩ := kk r u t T'.heap (locs ++ L) e1.symm (by rw [← e2]; exact X'.warmed.alike) hp hb k1 k2 k3 T' rfl X'
    exact ⟨t2, st t2 a1, b1⟩
  · obtain ⟨k1, k2, k3⟩ := vx_keep h0 e1 hS hAX hf hL hF
    obtain ⟨t2, a1, b1⟩ := kx E ce q u t T'.heap (locs ++ L) e1.symm (by rw [← e2]; exact X'.warmed.alike) hp hb k1 k2 k3 (by rw [e1]; exact hce) hcv hcl T' rfl X'
    exact ⟨t2, st.trans a1, b1⟩
theorem vx_callf {S SX : Type} {post : UInt32 → S → Prop} {px : SX → Prop} {B : S → State → Prop} {BX : String → SX → State → Prop} {AX : Nat → Prop} (hr : vx_Run p l e R s m args below meth c H locs cells slots mc ms (F0 m pc ls st0) rest (va_Qf post B A1 a) (vx_X px BX AX) free) (hS : va_S A0 H0 H locs) (hA : ∀ q, q < H.size → A1 q → A0 q) (hf : ∀ q, free q → A0 q) (hAX : ∀ q, q < H.size → AX q → A0 q)
    (kx : ∀ (E : String) (ce : Cell) (q9 : Addr) (u : SX) (t : State) (H1 : Heap) (locs1 : List Loc), t.heap = H1 → s.vm.Alike t.vm → px u → BX E u t → H.size ≤ H1.size → (∀ q : Nat, q < H.size → ¬ AX q → H1[q]? = H[q]?) → va_S A0 H0 H1 locs1 → H1[q9]? = some ce → ce.vm = .none → s.vm.findClass E = some ce.cls → vx_W p l e R s m args below meth c H1 locs1 (cells + mc) (slots + ms) Q (F0 m pc ls rest) q9)
    (kk : ∀ (r : UInt32) (u : S) (t : State) (H1 : Heap) (locs1 : List Loc), t.heap = H1 → s.vm.Alike t.vm → post r u → B u t → H.size ≤ H1.size → (∀ q : Nat, q < H.size → ¬ A1 q → H1[q]? = H[q]?) → va_S A0 H0 H1 locs1 → W p l e R s m args below meth c H1 locs1 (cells + mc) (slots + ms) Q (F0 m (pc + 3) ls (.float r :: rest))) : W p l e R s m args below meth c H locs cells slots Q (F0 m pc ls st0) := by
  intro T hT X
  rcases hr T hT X with ⟨v, st₀, t, T', L, h0, X', hL, e1, e2, ⟨⟨r, u, hv, hp, hb⟩, hF⟩, st⟩ | ⟨q, st₀, t, T', L, E, ce, h0, X', hL, e1, e2, ⟨u, hp, hb, hF⟩, hce, hcv, hcl, st⟩
  · cases hv
    obtain ⟨k1, k2, k3⟩ := vx_keep h0 e1 hS hA hf hL hF
    obtain ⟨t2, a1, b1⟩ := kk r u t T'.heap (locs ++ L) e1.symm (by rw [← e2]; exact X'.warmed.alike) hp hb k1 k2 k3 T' rfl X'
    exact ⟨t2, st t2 a1, b1⟩
  · obtain ⟨k1, k2, k3⟩ := vx_keep h0 e1 hS hAX hf hL hF
    obtain ⟨t2, a1, b1⟩ := kx E ce q u t T'.heap (locs ++ L) e1.symm (by rw [← e2]; exact X'.warmed.alike) hp hb k1 k2 k3 (by rw [e1]; exact hce) hcv hcl T' rfl X'
    exact ⟨t2, st.trans a1, b1⟩
theorem vx_calld {S SX : Type} {post : UInt64 → S → Prop} {px : SX → Prop} {B : S → State → Prop} {BX : String → SX → State → Prop} {AX : Nat → Prop} (hr : vx_Run p l e R s m args below meth c H locs cells slots mc ms (F0 m pc ls st0) rest (va_Qd post B A1 a) (vx_X px BX AX) free) (hS : va_S A0 H0 H locs) (hA : ∀ q, q < H.size → A1 q → A0 q) (hf : ∀ q, free q → A0 q) (hAX : ∀ q, q < H.size → AX q → A0 q)
    (kx : ∀ (E : String) (ce : Cell) (q9 : Addr) (u : SX) (t : State) (H1 : Heap) (locs1 : List Loc), t.heap = H1 → s.vm.Alike t.vm → px u → BX E u t → H.size ≤ H1.size → (∀ q : Nat, q < H.size → ¬ AX q → H1[q]? = H[q]?) → va_S A0 H0 H1 locs1 → H1[q9]? = some ce → ce.vm = .none → s.vm.findClass E = some ce.cls → vx_W p l e R s m args below meth c H1 locs1 (cells + mc) (slots + ms) Q (F0 m pc ls rest) q9)
    (kk : ∀ (r : UInt64) (u : S) (t : State) (H1 : Heap) (locs1 : List Loc), t.heap = H1 → s.vm.Alike t.vm → post r u → B u t → H.size ≤ H1.size → (∀ q : Nat, q < H.size → ¬ A1 q → H1[q]? = H[q]?) → va_S A0 H0 H1 locs1 → W p l e R s m args below meth c H1 locs1 (cells + mc) (slots + ms) Q (F0 m (pc + 3) ls (.double r :: rest))) : W p l e R s m args below meth c H locs cells slots Q (F0 m pc ls st0) := by
  intro T hT X
  rcases hr T hT X with ⟨v, st₀, t, T', L, h0, X', hL, e1, e2, ⟨⟨r, u, hv, hp, hb⟩, hF⟩, st⟩ | ⟨q, st₀, t, T', L, E, ce, h0, X', hL, e1, e2, ⟨u, hp, hb, hF⟩, hce, hcv, hcl, st⟩
  · cases hv
    obtain ⟨k1, k2, k3⟩ := vx_keep h0 e1 hS hA hf hL hF
    obtain ⟨t2, a1, b1⟩ := kk r u t T'.heap (locs ++ L) e1.symm (by rw [← e2]; exact X'.warmed.alike) hp hb k1 k2 k3 T' rfl X'
    exact ⟨t2, st t2 a1, b1⟩
  · obtain ⟨k1, k2, k3⟩ := vx_keep h0 e1 hS hAX hf hL hF
    obtain ⟨t2, a1, b1⟩ := kx E ce q u t T'.heap (locs ++ L) e1.symm (by rw [← e2]; exact X'.warmed.alike) hp hb k1 k2 k3 (by rw [e1]; exact hce) hcv hcl T' rfl X'
    exact ⟨t2, st.trans a1, b1⟩
theorem vx_callv {S SX : Type} {post : S → Prop} {px : SX → Prop} {B : S → State → Prop} {BX : String → SX → State → Prop} {AX : Nat → Prop} (hr : vx_Run p l e R s m args below meth c H locs cells slots mc ms (F0 m pc ls st0) rest (va_Qv post B A1 a) (vx_X px BX AX) free) (hS : va_S A0 H0 H locs) (hA : ∀ q, q < H.size → A1 q → A0 q) (hf : ∀ q, free q → A0 q) (hAX : ∀ q, q < H.size → AX q → A0 q)
    (kx : ∀ (E : String) (ce : Cell) (q9 : Addr) (u : SX) (t : State) (H1 : Heap) (locs1 : List Loc), t.heap = H1 → s.vm.Alike t.vm → px u → BX E u t → H.size ≤ H1.size → (∀ q : Nat, q < H.size → ¬ AX q → H1[q]? = H[q]?) → va_S A0 H0 H1 locs1 → H1[q9]? = some ce → ce.vm = .none → s.vm.findClass E = some ce.cls → vx_W p l e R s m args below meth c H1 locs1 (cells + mc) (slots + ms) Q (F0 m pc ls rest) q9)
    (kk : ∀ (u : S) (t : State) (H1 : Heap) (locs1 : List Loc), t.heap = H1 → s.vm.Alike t.vm → post u → B u t → H.size ≤ H1.size → (∀ q : Nat, q < H.size → ¬ A1 q → H1[q]? = H[q]?) → va_S A0 H0 H1 locs1 → W p l e R s m args below meth c H1 locs1 (cells + mc) (slots + ms) Q (F0 m (pc + 3) ls (rest))) : W p l e R s m args below meth c H locs cells slots Q (F0 m pc ls st0) := by
  intro T hT X
  rcases hr T hT X with ⟨v, st₀, t, T', L, h0, X', hL, e1, e2, ⟨⟨u, hv, hp, hb⟩, hF⟩, st⟩ | ⟨q, st₀, t, T', L, E, ce, h0, X', hL, e1, e2, ⟨u, hp, hb, hF⟩, hce, hcv, hcl, st⟩
  · cases hv
    obtain ⟨k1, k2, k3⟩ := vx_keep h0 e1 hS hA hf hL hF
    obtain ⟨t2, a1, b1⟩ := kk u t T'.heap (locs ++ L) e1.symm (by rw [← e2]; exact X'.warmed.alike) hp hb k1 k2 k3 T' rfl X'
    exact ⟨t2, st t2 a1, b1⟩
  · obtain ⟨k1, k2, k3⟩ := vx_keep h0 e1 hS hAX hf hL hF
    obtain ⟨t2, a1, b1⟩ := kx E ce q u t T'.heap (locs ++ L) e1.symm (by rw [← e2]; exact X'.warmed.alike) hp hb k1 k2 k3 (by rw [e1]; exact hce) hcv hcl T' rfl X'
    exact ⟨t2, st.trans a1, b1⟩
end Rows
section Ends
variable {p : Program} {l : Launch} {e : Env} {R : Room} {s : State} {m : MethodId} {args : Array Value} {below : List Frame} {meth : Method} {c : Code} {H : Heap} {locs : List Loc} {cells slots : Nat} {Q : State → Prop}
variable {mc ms : Nat} {free : Addr → Prop} {A0 A1 : Nat → Prop} {H0 : Heap} {a : Array Value} {ls : Array Slot} {st0 rest : List Value}
variable {Qc : Array Value → State → Outcome → State → Prop} {XC : String → State → State → Prop}
/-- what a body that may throw owes at its end -/
def vx_MQ (below : List Frame) (Qc : Array Value → State → Outcome → State → Prop) (XC : String → State → State → Prop) (a : Array Value) (s : State) (mc ms : Nat) (free : Addr → Prop) : State → Prop := fun t =>
  ∃ o, t.status = .running ∧ Ended t below o ∧ vx_Q Qc XC mc ms free a s o t
theorem vx_ret {g : JFrame} {mc ms : Nat} (k : W p l e R s m args below meth c H locs cells slots (MQ below Qc args s mc ms free) g) : W p l e R s m args below meth c H locs cells slots (vx_MQ below Qc XC args s mc ms free) g := by
  intro T hT X
  obtain ⟨t, a1, o, b1, b2, b3, b4⟩ := k T hT X
  exact ⟨t, a1, o, b1, b2, Or.inl ⟨b3, b4⟩⟩
/-- not caught here: it goes on to the caller -/
theorem vx_widen {g : JFrame} {q : Addr} {k n : Nat} (h1 : cells ≤ k) (h2 : slots ≤ n) (kk : vx_W p l e R s m args below meth c H locs k n Q g q) : vx_W p l e R s m args below meth c H locs cells slots Q g q := fun T hT X => kk T hT (stand_widen X h1 h2)
theorem vx_out {pc : Nat} {E : String} {ce : Cell} {q : Addr} {mc ms : Nat} (hout : ∀ x ∈ c.exceptionTable.toList, covers x pc = false) (hlocks : meth.locks = false) (hcell : H[q]? = some ce) (hv : ce.vm = .none) (hcl : s.vm.findClass E = some ce.cls)
    (hx : ∀ t : State, t.heap = H → s.vm.Alike t.vm → XC E s t) (hf : ∀ z ∈ locs, free z.base) (hc : cells ≤ mc) (hs : slots ≤ ms) :
    vx_W p l e R s m args below meth c H locs cells slots (vx_MQ below Qc XC args s mc ms free) (F0 m pc ls rest) q := by
  intro T hT X
  obtain ⟨st1, hrun, hend, hW, hsm⟩ := X.leaveThrown q (g := F0 m pc ls rest) rfl rfl rfl hout hlocks
  have hcell9 : (T.setFrames (.throwing q :: below)).heap[q]? = some ce := by
    show T.heap[q]? = some ce
    rw [hT]; exact hcell
  exact ⟨_, st1, .threw q, hrun, hend, Or.inr ⟨q, rfl, E, ce, locs, hx _ hT hW.alike, hcell9, hv, hcl, hW, hsm.mono hc hs, hf⟩⟩
theorem vx_frame {U : State} {k n : Nat} (h : s.sameButNew ({ U with vm := s.vm } : State) locs k n) : s.heap.size ≤ U.heap.size ∧ ∀ q : Nat, q < s.heap.size → (∀ z ∈ locs, z.base ≠ q) → U.heap[q]? = s.heap[q]? := by
  obtain ⟨-, h2, -, -, -, h6⟩ := h
  refine ⟨h2, fun q hq hz => ?_⟩
  obtain ⟨c9, e1, e2, e3, e4⟩ := h6 q _ (Array.getElem?_eq_getElem hq)
  have hs : c9.slots = (s.heap[q]).slots := Array.ext_getElem? fun i => e4 i fun hm => hz _ hm rfl
  have h9 : c9 = s.heap[q] := by
    rw [hs] at e2
    exact e2
  have e5 : U.heap[q]? = some c9 := e1
  rw [e5, h9, Array.getElem?_eq_getElem hq]
/-- the words of a throw but the four that speak of the heap -/
def vx_no (w : Cond) : Bool := decide (w ≠ .isRef (.static Bundle.tN "UNASSIGNED_STACK" Bundle.steD)) && decide (w ≠ .isRef (.static Bundle.tN "SUPPRESSED_SENTINEL" Bundle.listD)) && decide (w ≠ .laysStatic Bundle.tN "UNASSIGNED_STACK" Bundle.steD) && decide (w ≠ .laysStatic Bundle.tN "SUPPRESSED_SENTINEL" Bundle.listD)
def vx_at0 (own : String) (ic : Nat) (X : String) (names : List String) : List Cond := (Bundle.ownAtoms0 own ic X names).filter vx_no
def vx_atS (own : String) (ic : Nat) (X : String) (names : List String) : List Cond := (Bundle.ownAtoms own ic X names).filter vx_no
/-- a word that the tables alone decide, or a good one -/
def vx_ot (w : Cond) : Bool := w.onTables || goodWord w
theorem vx_ot_at {args a' : Array Value} {s U : State} {w : Cond} (hW : s.WarmedH U.vm) (hvm : s.vm = U.vm) (hg : vx_ot w = true) (h : w.before args s = true) : w.before a' U = true := by
  simp only [vx_ot, Bool.or_eq_true] at hg
  rcases hg with hg | hg
  · exact va_tabs hg hvm h
  · exact word_at hW (good_of_word hg) h
/-- a list's words: the good ones out of the method's own list, the others by premises of their own -/
theorem vx_hat {args : Array Value} {s : State} {L B : List Cond} (h1 : ∀ w ∈ L.filter goodWord, w.before args s = true) (h2 : ∀ w ∈ L.filter (fun w => !goodWord w), w ∈ B) (h3 : ∀ w ∈ B, w.before args s = true) : ∀ w ∈ L, w.before args s = true := by
  intro w hw
  by_cases g : goodWord w = true
  · exact h1 w (List.mem_filter.mpr ⟨hw, g⟩)
  · refine h3 w (h2 w (List.mem_filter.mpr ⟨hw, ?_⟩))
    show (!goodWord w) = true
    cases hgw : goodWord w
    · rfl
    · exact absurd hgw g
theorem vx_c {args : Array Value} {s : State} {w : Cond} {B : List Cond} (h : w.before args s = true) (t : ∀ w ∈ B, w.before args s = true) : ∀ w' ∈ w :: B, w'.before args s = true := fun w' h' => (List.mem_cons.mp h').elim (fun e => by rw [e]; exact h) (t w')
theorem vx_n {args : Array Value} {s : State} : ∀ w ∈ ([] : List Cond), w.before args s = true := fun _ h => nomatch h
theorem vx_own {args : Array Value} {s : State} {L : List Cond} (h1 : ∀ w ∈ L.filter vx_no, w.before args s = true)
    (hU : (Cond.isRef (.static Bundle.tN "UNASSIGNED_STACK" Bundle.steD)).before args s = true) (hN : (Cond.isRef (.static Bundle.tN "SUPPRESSED_SENTINEL" Bundle.listD)).before args s = true)
    (lU : (Cond.laysStatic Bundle.tN "UNASSIGNED_STACK" Bundle.steD).before args s = true) (lN : (Cond.laysStatic Bundle.tN "SUPPRESSED_SENTINEL" Bundle.listD).before args s = true) : ∀ w ∈ L, w.before args s = true := by
  intro w hw
  by_cases e1 : w = .isRef (.static Bundle.tN "UNASSIGNED_STACK" Bundle.steD)
  · rw [e1]; exact hU
  · by_cases e2 : w = .isRef (.static Bundle.tN "SUPPRESSED_SENTINEL" Bundle.listD)
    · rw [e2]; exact hN
    · by_cases e3 : w = .laysStatic Bundle.tN "UNASSIGNED_STACK" Bundle.steD
      · rw [e3]; exact lU
      · by_cases e4 : w = .laysStatic Bundle.tN "SUPPRESSED_SENTINEL" Bundle.listD
        · rw [e4]; exact lN
        · exact h1 w (List.mem_filter.mpr ⟨hw, by unfold vx_no; rw [decide_eq_true e1, decide_eq_true e2, decide_eq_true e3, decide_eq_true e4]; rfl⟩)
/-- where a static field lies, its class's statics cell in H -/
def vx_L (C n d : String) (A : Nat → Prop) (U : State) (H : Heap) : Prop := ∃ (c : ClassId) (k : Class) (i : Nat) (f : Field) (a : Nat) (cell : Cell), U.vm.findClass C = some c ∧ U.fieldFound? C n d = some (c, k, i, f) ∧ f.isStatic = true ∧ k.statics = some a ∧ H[a]? = some cell ∧ cell.vm.isStatics = true ∧ cell.cls = c ∧ f.slot < cell.slots.size ∧ k.staticTypes[f.slot]? = some f.type ∧ ¬ A a
theorem vx_L.moved {C n d : String} {A : Nat → Prop} {u U : State} {H : Heap} (hvm : u.vm.Alike U.vm) (h : vx_L C n d A u H) : vx_L C n d A U H := by
  obtain ⟨c, k, i, f, a, cell, h1, h2, h3, h4, h5, h6, h7, h8, h9, h10⟩ := h
  obtain ⟨k', hi', he⟩ := State.fieldFound?_setVm hvm h2
  exact ⟨c, k', i, f, a, cell, by rw [hvm.findClass]; exact h1, hi', h3, by rw [he]; exact h4, h5, h6, h7, h8, by rw [he]; exact h9, h10⟩
theorem vx_L.kept {C n d : String} {A : Nat → Prop} {U : State} {H H1 : Heap} (h : vx_L C n d A U H) (hq : ∀ a : Nat, a < H.size → ¬ A a → H1[a]? = H[a]?) : vx_L C n d A U H1 := by
  obtain ⟨c, k, i, f, a, cell, h1, h2, h3, h4, h5, h6, h7, h8, h9, h10⟩ := h
  exact ⟨c, k, i, f, a, cell, h1, h2, h3, h4, by rw [hq a (Array.getElem?_eq_some_iff.mp h5).1 h10]; exact h5, h6, h7, h8, h9, h10⟩
theorem vx_L.narrow {C n d : String} {A B : Nat → Prop} {U : State} {H : Heap} (h : vx_L C n d A U H) (hAB : ∀ q, B q → A q) : vx_L C n d B U H := by
  obtain ⟨c, k, i, f, a, cell, h1, h2, h3, h4, h5, h6, h7, h8, h9, h10⟩ := h
  exact ⟨c, k, i, f, a, cell, h1, h2, h3, h4, h5, h6, h7, h8, h9, fun z => h10 (hAB _ z)⟩
theorem vx_L.word {C n d : String} {A : Nat → Prop} {s : State} {args : Array Value} (h : vx_L C n d A s s.heap) : (Cond.laysStatic C n d).before args s = true := by
  obtain ⟨c, k, i, f, a, cell, h1, h2, h3, h4, h5, h6, h7, h8, h9, -⟩ := h
  show (Cond.laysStatic C n d).holds args s none s [] = true
  exact Cond.laysStatic_of h1 h2 h3 h4 h5 h6 h7 h8 h9
/-- .. and what it holds: null or some reference -/
def vx_Zq (C n d : String) (A : Nat → Prop) (U : State) (H : Heap) : Prop := va_Zq C n d A U H ∧ vx_L C n d A U H
theorem vx_Zq.moved {C n d : String} {A : Nat → Prop} {u U : State} {H : Heap} (hvm : u.vm.Alike U.vm) (h : vx_Zq C n d A u H) : vx_Zq C n d A U H := ⟨va_Zq.moved hvm h.1, vx_L.moved hvm h.2⟩
theorem vx_Zq.kept {C n d : String} {A : Nat → Prop} {U : State} {H H1 : Heap} (h : vx_Zq C n d A U H) (hq : ∀ a : Nat, a < H.size → ¬ A a → H1[a]? = H[a]?) : vx_Zq C n d A U H1 := ⟨va_Zq.kept h.1 hq, vx_L.kept h.2 hq⟩
theorem vx_Zq.narrow {C n d : String} {A B : Nat → Prop} {U : State} {H : Heap} (h : vx_Zq C n d A U H) (hAB : ∀ q, B q → A q) : vx_Zq C n d B U H := ⟨va_Zq.narrow h.1 hAB, vx_L.narrow h.2 hAB⟩
theorem vx_Zqof {args : Array Value} {s : State} {C n d : String} {A : Nat → Prop} (hl : (Cond.laysStatic C n d).before args s = true) (hini : (Cond.initialized C).before args s = true) (h : (Cond.isRef (.static C n d)).before args s = true) (hA : ∀ a : Nat, a < s.heap.size → ¬ A a) : vx_Zq C n d A s s.heap := by
  refine ⟨va_Zqof hl hini h hA, ?_⟩
  obtain ⟨c, k, i, f, a, cell, h1, h2, h3, h4, h5, h6, h7, h8, h9⟩ := Cond.laysStatic_spec hl
  exact ⟨c, k, i, f, a, cell, h1, h2, h3, h4, h5, h6, h7, h8, h9, hA a (Array.getElem?_eq_some_iff.mp h5).1⟩
theorem vx_isRef {C n d : String} {v : Value} {A : Nat → Prop} {s : State} {args : Array Value} (h : va_Z C n d v A s s.heap) (hv : v.isRef = true) : (Cond.isRef (.static C n d)).before args s = true := by
  obtain ⟨cf, kf, fi, f, a, cell, h1, h2, h3, h4, h5, h6, h7, -⟩ := h
  have he : (Term.static C n d).eval args s none [] s = some v := by
    simp [Term.eval, State.fieldNamed?, h1, h2, h4, h5, h6, h7]
  simp only [Cond.before, Cond.holds, Cond.value, he]
  cases v <;> simp_all [Value.isRef]
theorem vx_isRefq {C n d : String} {A : Nat → Prop} {s : State} {args : Array Value} (h : va_Zq C n d A s s.heap) : (Cond.isRef (.static C n d)).before args s = true := by
  rcases h with h | ⟨t, h⟩
  · exact vx_isRef h rfl
  · exact vx_isRef h rfl
/-- the same frame, seen from here: as if the method were called anew in this heap -/
theorem vx_rebase {T : State} (X : Stand p l e R s m args below meth c T locs cells slots) {R' : Room} (hf : R'.frames ≤ R.frames) (hl : R'.locals ≤ R.locals) (hc : cells + R'.cells ≤ R.cells) (hs : slots + R'.slots ≤ R.slots) :
    Stand p l e R' ((T.setVm s.vm).setFrames (.invoking m args :: below)) m args below meth c T [] 0 0 := by
  have htop : (T.setVm s.vm).topJava?.isSome := X.here.top
  have hF : ((T.setVm s.vm).setFrames (.invoking m args :: below)).frames = .invoking m args :: below := State.frames_setFrames _ (State.cur_lt_of_top htop)
  obtain ⟨g₀, hg0⟩ := Option.isSome_iff_exists.mp htop
  obtain ⟨r, hr⟩ := State.topJava?_eq_some.mp hg0
  have hl9 : e.platform.stackLimits (T.setVm s.vm).me = e.platform.stackLimits s.me := X.limits
  have hb9 : (T.setVm s.vm).me.stackBytes = s.me.stackBytes := X.bytes
  refine ⟨X.admits, X.cas, X.clock, hF, ?_, X.hears, X.method, X.code, X.here, X.tail, X.warmed, ?_, ?_, ?_⟩
  · have h := X.room
    have hU : ((T.setVm s.vm).setFrames (.invoking m args :: below)).localsInUse = s.localsInUse := by
      rw [State.localsInUse_invoking hF (meth := meth) (c := c) X.method X.code, State.localsInUse_invoking X.frames X.method X.code]
    simp only [State.hasRoom, Bool.and_eq_true, decide_eq_true_eq] at h ⊢
    obtain ⟨⟨⟨⟨h1, h2, h3, h4, h5, h6⟩, h7⟩, h8⟩, h9⟩ := h
    rw [X.frames, List.length_cons] at h2 h3
    have q1 := X.heapSize
    have q2 := X.used
    simp only [hF, hU, List.length_cons, State.stackLimits_setFrames, State.stackBytes_setFrames, hl9, hb9]
    refine ⟨⟨⟨⟨by omega, by omega, by omega, by omega, by omega, h6⟩, ?_⟩, ?_⟩, X.book⟩
    · show T.heap.size + R'.cells ≤ e.platform.maxCells
      omega
    · show T.slotsUsed + R'.slots ≤ e.platform.maxSlots
      omega
  · rw [State.stackLimits_setFrames]; rfl
  · rw [State.stackBytes_setFrames]; rfl
  · refine ⟨?_, Nat.le_refl _, Nat.le_refl _, ?_, ?_, fun a c9 h9 => ⟨c9, h9, rfl, rfl, fun _ _ => rfl⟩⟩
    · obtain ⟨t, ht, -⟩ := State.frames_cons hr
      show T.setVm s.vm = { ((T.setVm s.vm).setFrames (.invoking m args :: below)).setFrames (T.setVm s.vm).frames with heap := T.heap, slotsUsed := T.slotsUsed }
      rw [State.setFrames_setFrames, State.setFrames_self ht]
      rfl
    · show T.slotsUsed = T.slotsUsed + ((T.heap.toList.drop T.heap.size).map (·.slots.size)).sum
      rw [List.drop_eq_nil_of_le (Nat.le_of_eq Array.length_toList)]
      rfl
    · show ((T.heap.toList.drop T.heap.size).map (·.slots.size)).sum ≤ 0
      rw [List.drop_eq_nil_of_le (Nat.le_of_eq Array.length_toList)]
      exact Nat.le_refl _
/-- 'throw new E()': new; dup; invokespecial; athrow -/
theorem vx_throw0 {cc : ByteArray} {pc : Nat} (hexec : p.tables.exec = Jvm.exec) (hb : c.code = cc) (hl : l.stackTraces = false) {own cls : String} {names : List String} {ik ic mc ms : Nat} {A : Nat → Prop}
    (hown : s.vm.findClass own = some m.cls) (hcls : Bundle.fit cls = true) (hnames : ∀ n ∈ names, Bundle.fit n = true)
    (hk : (Cond.classLink own ik cls).before args s = true) (hini : (Cond.initialized cls).before args s = true) (hat : ∀ w ∈ vx_at0 own ic cls names, w.before args s = true)
    (hgood : ∀ w ∈ Cond.classLink own ik cls :: Cond.initialized cls :: vx_at0 own ic cls names, vx_ot w = true)
    (hU : vx_Zq Bundle.tN "UNASSIGNED_STACK" Bundle.steD A s s.heap) (hN : vx_Zq Bundle.tN "SUPPRESSED_SENTINEL" Bundle.listD A s s.heap) (hS : va_S A s.heap H locs) (hsize : ls.size = c.maxLocals)
    (d0 : decode cc pc = .ok (.new ik, 3)) (d3 : decode cc (pc + 3) = .ok (.dup, 1)) (d4 : decode cc (pc + 4) = .ok (.invokespecial ic, 3)) (d7 : decode cc (pc + 7) = .ok (.athrow, 1))
    (hout : ∀ x ∈ c.exceptionTable.toList, covers x (pc + 7) = false)
    (hRframes : names.length + 3 < R.frames) (hRlocals : (rest.map fun v => v.category).sum + (13 * (names.length + 1) + 42) ≤ R.locals) (hRcells : cells + 1 ≤ R.cells) (hRslots : slots + 6 ≤ R.slots) (hlocks : meth.locks = false)
    (hx : ∀ t : State, s.vm.Alike t.vm → H.size ≤ t.heap.size → (∀ q : Nat, q < H.size → t.heap[q]? = H[q]?) → XC cls s t)
    (hf : ∀ z ∈ locs, free z.base) (hc : cells + 1 ≤ mc) (hs : slots + 6 ≤ ms) :
    W p l e R s m args below meth c H locs cells slots (vx_MQ below Qc XC args s mc ms free) (F0 m pc ls rest) := by
  intro T hT X
  have htr : e.platform.stackTraces = false := (show e.platform.stackTraces = l.stackTraces by rw [X.admits.platform]).trans hl
  have Y := vx_rebase X (R' := { frames := R.frames, locals := R.locals, cells := 1, slots := 6 }) (Nat.le_refl _) (Nat.le_refl _) hRcells hRslots
  obtain ⟨s', hA⟩ : ∃ z, z = (T.setVm s.vm).setFrames (.invoking m args :: below) := ⟨_, rfl⟩
  rw [← hA] at Y
  have hvm : s'.vm = s.vm := by rw [hA]; rfl
  have hhp : s'.heap = H := by rw [hA]; exact hT
  have hW0 : s.WarmedH s'.vm := by rw [hvm]; exact State.WarmedH.refl s
  have hat' : ∀ w ∈ vx_at0 own ic cls names, w.before args s' = true := fun w hw => vx_ot_at hW0 hvm.symm (hgood w (List.mem_cons_of_mem _ (List.mem_cons_of_mem _ hw))) (hat w hw)
  have hk' : (Cond.classLink own ik cls).before args s' = true := vx_ot_at hW0 hvm.symm (hgood _ List.mem_cons_self) hk
  have hini' : (Cond.initialized cls).before args s' = true := vx_ot_at hW0 hvm.symm (hgood _ (List.mem_cons_of_mem _ List.mem_cons_self)) hini
  have hU' : vx_Zq Bundle.tN "UNASSIGNED_STACK" Bundle.steD A s' s'.heap := by rw [hhp]; exact vx_Zq.moved hW0.alike (hU.kept hS.2.1)
  have hN' : vx_Zq Bundle.tN "SUPPRESSED_SENTINEL" Bundle.listD A s' s'.heap := by rw [hhp]; exact vx_Zq.moved hW0.alike (hN.kept hS.2.1)
  have h : ∀ w ∈ Bundle.ownAtoms0 own ic cls names, w.before args s' = true := vx_own hat' (vx_isRefq hU'.1) (vx_isRefq hN'.1) hU'.2.word hN'.2.word
  have hown' : s'.vm.findClass own = some m.cls := by rw [hvm]; exact hown
  have hins : (Cond.instantiable cls 6).before args s' = true := h _ (by simp [Bundle.ownAtoms0])
  obtain ⟨vm₁, cX, kX, hfX, hkX, -, -, X₁, st1⟩ := Y.newCold hexec (own := own) (C := cls) (index := ik) (n := 6) hown' hk' hins hini'
    (g := F0 m pc ls rest) rfl (by rw [hb]; exact d0) (Nat.le_refl _) (Nat.le_refl _)
  generalize hT1 : (T.setVm vm₁).pushCell { cls := cX, slots := kX.instanceTypes.map defaultValue, vm := .none } = T1 at X₁ st1
  have hcat : (Value.ref T.heap.size).category = 1 := rfl
  have hcellA : T1.heap[T.heap.size]? = some (freshCell cX kX) := by rw [← hT1]; exact State.heap_pushCell_size _ _
  have d3' : decode c.code (pc + 3) = .ok (.dup, 1) := by rw [hb]; exact d3
  obtain ⟨U, hsteps, hrun, hend, hW, hsame, ce, hce, hO⟩ := X₁.ctorThrow0 hexec htr (own := own) (cls := cls) (names := names) (ic := ic) hown' hcls hnames h (fun x hx => nomatch hx) hfX hkX hcellA (by rw [hhp, hT]; exact Nat.le_refl _)
    (g := { method := m, pc := pc + 4, locals := ls, stack := .ref T.heap.size :: .ref T.heap.size :: rest, locked := none }) rfl hsize rfl rfl (rest := rest) rfl
    (by rw [hb]; exact d4) (by rw [hb]; exact d7) hout hRframes (by simp only [List.map_cons, List.sum_cons, hcat]; omega) hlocks
  obtain ⟨f1, f2⟩ := vx_frame hsame
  rw [hhp] at f1 f2
  have hWs : s.WarmedH U.vm := State.WarmedH.trans hW0 hW
  have hcl : s.vm.findClass cls = some ce.cls := by
    have h9 := hO.cls
    rw [hvm] at h9
    exact h9
  have hall : s.sameButNew ({ U with vm := s.vm } : State) locs mc ms := by
    subst hA
    obtain ⟨e1, e2⟩ := hsame
    rw [State.setFrames_setFrames] at e1
    have h2 : (T.setVm s.vm).sameButNew ({ U with vm := s.vm } : State) [] (0 + 1) (0 + 6) := ⟨e1, e2⟩
    have h3 := X.same.trans h2
    rw [List.append_nil] at h3
    exact h3.mono hc hs
  refine ⟨U, ?_, .threw T.heap.size, hrun, hend, Or.inr ⟨T.heap.size, rfl, cls, ce, locs, hx U hWs.alike f1 (fun q hq => f2 q hq (fun z hz => nomatch hz)), hce, hO.vm, hcl, hWs, hall, hf⟩⟩
  refine st1 _ ?_
  show Steps p.tables e below (T1.setTop { method := m, pc := pc + 3, locals := ls, stack := .ref T.heap.size :: rest, locked := none }) _
  jvm_step X₁.here [X₁.here.top, hexec, d3', Value.category]
  exact hsteps
/-- 'throw new E("text")': new; dup; ldc; invokespecial; athrow -/
theorem vx_throwS {cc : ByteArray} {pc : Nat} (hexec : p.tables.exec = Jvm.exec) (hb : c.code = cc) (hl : l.stackTraces = false) {own cls text : String} {names : List String} {ik is ic mc ms sa : Nat} {A : Nat → Prop}
    (hown : s.vm.findClass own = some m.cls) (hcls : Bundle.fit cls = true) (hnames : ∀ n ∈ names, Bundle.fit n = true)
    (hk : (Cond.classLink own ik cls).before args s = true) (hini : (Cond.initialized cls).before args s = true) (hstr : vk_R own is text sa s) (hat : ∀ w ∈ vx_atS own ic cls names, w.before args s = true)
    (hgood : ∀ w ∈ Cond.classLink own ik cls :: Cond.initialized cls :: vx_atS own ic cls names, vx_ot w = true)
    (hU : vx_Zq Bundle.tN "UNASSIGNED_STACK" Bundle.steD A s s.heap) (hN : vx_Zq Bundle.tN "SUPPRESSED_SENTINEL" Bundle.listD A s s.heap) (hS : va_S A s.heap H locs) (hsize : ls.size = c.maxLocals)
    (d0 : decode cc pc = .ok (.new ik, 3)) (d3 : decode cc (pc + 3) = .ok (.dup, 1)) (d4 : decode cc (pc + 4) = .ok (.ldc is, 2)) (d6 : decode cc (pc + 6) = .ok (.invokespecial ic, 3)) (d9 : decode cc (pc + 9) = .ok (.athrow, 1))
    (hout : ∀ x ∈ c.exceptionTable.toList, covers x (pc + 9) = false)
    (hRframes : names.length + 3 < R.frames) (hRlocals : (rest.map fun v => v.category).sum + (13 * (names.length + 1) + 43) ≤ R.locals) (hRcells : cells + 1 ≤ R.cells) (hRslots : slots + 6 ≤ R.slots) (hlocks : meth.locks = false)
    (hx : ∀ t : State, s.vm.Alike t.vm → H.size ≤ t.heap.size → (∀ q : Nat, q < H.size → t.heap[q]? = H[q]?) → XC cls s t)
    (hf : ∀ z ∈ locs, free z.base) (hc : cells + 1 ≤ mc) (hs : slots + 6 ≤ ms) :
    W p l e R s m args below meth c H locs cells slots (vx_MQ below Qc XC args s mc ms free) (F0 m pc ls rest) := by
  intro T hT X
  have htr : e.platform.stackTraces = false := (show e.platform.stackTraces = l.stackTraces by rw [X.admits.platform]).trans hl
  have Y := vx_rebase X (R' := { frames := R.frames, locals := R.locals, cells := 1, slots := 6 }) (Nat.le_refl _) (Nat.le_refl _) hRcells hRslots
  obtain ⟨s', hA⟩ : ∃ z, z = (T.setVm s.vm).setFrames (.invoking m args :: below) := ⟨_, rfl⟩
  rw [← hA] at Y
  have hvm : s'.vm = s.vm := by rw [hA]; rfl
  have hhp : s'.heap = H := by rw [hA]; exact hT
  have hW0 : s.WarmedH s'.vm := by rw [hvm]; exact State.WarmedH.refl s
  have hat' : ∀ w ∈ vx_atS own ic cls names, w.before args s' = true := fun w hw => vx_ot_at hW0 hvm.symm (hgood w (List.mem_cons_of_mem _ (List.mem_cons_of_mem _ hw))) (hat w hw)
  have hk' : (Cond.classLink own ik cls).before args s' = true := vx_ot_at hW0 hvm.symm (hgood _ List.mem_cons_self) hk
  have hini' : (Cond.initialized cls).before args s' = true := vx_ot_at hW0 hvm.symm (hgood _ (List.mem_cons_of_mem _ List.mem_cons_self)) hini
  have hU' : vx_Zq Bundle.tN "UNASSIGNED_STACK" Bundle.steD A s' s'.heap := by rw [hhp]; exact vx_Zq.moved hW0.alike (hU.kept hS.2.1)
  have hN' : vx_Zq Bundle.tN "SUPPRESSED_SENTINEL" Bundle.listD A s' s'.heap := by rw [hhp]; exact vx_Zq.moved hW0.alike (hN.kept hS.2.1)
  have h : ∀ w ∈ Bundle.ownAtoms own ic cls names, w.before args s' = true := vx_own hat' (vx_isRefq hU'.1) (vx_isRefq hN'.1) hU'.2.word hN'.2.word
  have hown' : s'.vm.findClass own = some m.cls := by rw [hvm]; exact hown
  have hins : (Cond.instantiable cls 6).before args s' = true := h _ (by simp [Bundle.ownAtoms])
  obtain ⟨vm₁, cX, kX, hfX, hkX, -, -, X₁, st1⟩ := Y.newCold hexec (own := own) (C := cls) (index := ik) (n := 6) hown' hk' hins hini'
    (g := F0 m pc ls rest) rfl (by rw [hb]; exact d0) (Nat.le_refl _) (Nat.le_refl _)
  generalize hT1 : (T.setVm vm₁).pushCell { cls := cX, slots := kX.instanceTypes.map defaultValue, vm := .none } = T1 at X₁ st1
  have hcat : (Value.ref T.heap.size).category = 1 := rfl
  have hcellA : T1.heap[T.heap.size]? = some (freshCell cX kX) := by rw [← hT1]; exact State.heap_pushCell_size _ _
  have d3' : decode c.code (pc + 3) = .ok (.dup, 1) := by rw [hb]; exact d3
  have d4' : decode c.code (pc + 4) = .ok (.ldc is, 2) := by rw [hb]; exact d4
  have hstr' : vk_R own is text sa s' := vk_R.warm hW0 hstr
  obtain ⟨U, hsteps, hrun, hend, hW, hsame, ce, hce, hO⟩ := X₁.ctorThrowS hexec htr (own := own) (cls := cls) (names := names) (ic := ic) hown' hcls hnames h (fun x hx => nomatch hx) hfX hkX hcellA (by rw [hhp, hT]; exact Nat.le_refl _) (msg := .ref sa) rfl
    (g := { method := m, pc := pc + 6, locals := ls, stack := .ref sa :: .ref T.heap.size :: .ref T.heap.size :: rest, locked := none }) rfl hsize rfl rfl (rest := rest) rfl
    (by rw [hb]; exact d6) (by rw [hb]; exact d9) hout hRframes (by simp only [List.map_cons, List.sum_cons, hcat]; omega) hlocks
  obtain ⟨f1, f2⟩ := vx_frame hsame
  rw [hhp] at f1 f2
  have hWs : s.WarmedH U.vm := State.WarmedH.trans hW0 hW
  have hcl : s.vm.findClass cls = some ce.cls := by
    have h9 := hO.cls
    rw [hvm] at h9
    exact h9
  have hall : s.sameButNew ({ U with vm := s.vm } : State) locs mc ms := by
    subst hA
    obtain ⟨e1, e2⟩ := hsame
    rw [State.setFrames_setFrames] at e1
    have h2 : (T.setVm s.vm).sameButNew ({ U with vm := s.vm } : State) [] (0 + 1) (0 + 6) := ⟨e1, e2⟩
    have h3 := X.same.trans h2
    rw [List.append_nil] at h3
    exact h3.mono hc hs
  refine ⟨U, ?_, .threw T.heap.size, hrun, hend, Or.inr ⟨T.heap.size, rfl, cls, ce, locs, hx U hWs.alike f1 (fun q hq => f2 q hq (fun z hz => nomatch hz)), hce, hO.vm, hcl, hWs, hall, hf⟩⟩
  refine st1 _ ?_
  show Steps p.tables e below (T1.setTop { method := m, pc := pc + 3, locals := ls, stack := .ref T.heap.size :: rest, locked := none }) _
  jvm_step X₁.here [X₁.here.top, hexec, d3', Value.category]
  exact X₁.ldcString hexec (own := own) (text := text) (index := is) (a := sa) hown' hstr'.1 hstr'.2
    (g := { method := m, pc := pc + 4, locals := ls, stack := .ref T.heap.size :: .ref T.heap.size :: rest, locked := none }) rfl d4' _ hsteps
/-- 'throw new E("text")', the text by a wide index -/
theorem vx_throwSW {cc : ByteArray} {pc : Nat} (hexec : p.tables.exec = Jvm.exec) (hb : c.code = cc) (hl : l.stackTraces = false) {own cls text : String} {names : List String} {ik is ic mc ms sa : Nat} {A : Nat → Prop}
    (hown : s.vm.findClass own = some m.cls) (hcls : Bundle.fit cls = true) (hnames : ∀ n ∈ names, Bundle.fit n = true)
    (hk : (Cond.classLink own ik cls).before args s = true) (hini : (Cond.initialized cls).before args s = true) (hstr : vk_R own is text sa s) (hat : ∀ w ∈ vx_atS own ic cls names, w.before args s = true)
    (hgood : ∀ w ∈ Cond.classLink own ik cls :: Cond.initialized cls :: vx_atS own ic cls names, vx_ot w = true)
    (hU : vx_Zq Bundle.tN "UNASSIGNED_STACK" Bundle.steD A s s.heap) (hN : vx_Zq Bundle.tN "SUPPRESSED_SENTINEL" Bundle.listD A s s.heap) (hS : va_S A s.heap H locs) (hsize : ls.size = c.maxLocals)
    (d0 : decode cc pc = .ok (.new ik, 3)) (d3 : decode cc (pc + 3) = .ok (.dup, 1)) (d4 : decode cc (pc + 4) = .ok (.ldc_w is, 3)) (d7 : decode cc (pc + 7) = .ok (.invokespecial ic, 3)) (d10 : decode cc (pc + 10) = .ok (.athrow, 1))
    (hout : ∀ x ∈ c.exceptionTable.toList, covers x (pc + 10) = false)
    (hRframes : names.length + 3 < R.frames) (hRlocals : (rest.map fun v => v.category).sum + (13 * (names.length + 1) + 43) ≤ R.locals) (hRcells : cells + 1 ≤ R.cells) (hRslots : slots + 6 ≤ R.slots) (hlocks : meth.locks = false)
    (hx : ∀ t : State, s.vm.Alike t.vm → H.size ≤ t.heap.size → (∀ q : Nat, q < H.size → t.heap[q]? = H[q]?) → XC cls s t)
    (hf : ∀ z ∈ locs, free z.base) (hc : cells + 1 ≤ mc) (hs : slots + 6 ≤ ms) :
    W p l e R s m args below meth c H locs cells slots (vx_MQ below Qc XC args s mc ms free) (F0 m pc ls rest) := by
  intro T hT X
  have htr : e.platform.stackTraces = false := (show e.platform.stackTraces = l.stackTraces by rw [X.admits.platform]).trans hl
  have Y := vx_rebase X (R' := { frames := R.frames, locals := R.locals, cells := 1, slots := 6 }) (Nat.le_refl _) (Nat.le_refl _) hRcells hRslots
  obtain ⟨s', hA⟩ : ∃ z, z = (T.setVm s.vm).setFrames (.invoking m args :: below) := ⟨_, rfl⟩
  rw [← hA] at Y
  have hvm : s'.vm = s.vm := by rw [hA]; rfl
  have hhp : s'.heap = H := by rw [hA]; exact hT
  have hW0 : s.WarmedH s'.vm := by rw [hvm]; exact State.WarmedH.refl s
  have hat' : ∀ w ∈ vx_atS own ic cls names, w.before args s' = true := fun w hw => vx_ot_at hW0 hvm.symm (hgood w (List.mem_cons_of_mem _ (List.mem_cons_of_mem _ hw))) (hat w hw)
  have hk' : (Cond.classLink own ik cls).before args s' = true := vx_ot_at hW0 hvm.symm (hgood _ List.mem_cons_self) hk
  have hini' : (Cond.initialized cls).before args s' = true := vx_ot_at hW0 hvm.symm (hgood _ (List.mem_cons_of_mem _ List.mem_cons_self)) hini
  have hU' : vx_Zq Bundle.tN "UNASSIGNED_STACK" Bundle.steD A s' s'.heap := by rw [hhp]; exact vx_Zq.moved hW0.alike (hU.kept hS.2.1)
  have hN' : vx_Zq Bundle.tN "SUPPRESSED_SENTINEL" Bundle.listD A s' s'.heap := by rw [hhp]; exact vx_Zq.moved hW0.alike (hN.kept hS.2.1)
  have h : ∀ w ∈ Bundle.ownAtoms own ic cls names, w.before args s' = true := vx_own hat' (vx_isRefq hU'.1) (vx_isRefq hN'.1) hU'.2.word hN'.2.word
  have hown' : s'.vm.findClass own = some m.cls := by rw [hvm]; exact hown
  have hins : (Cond.instantiable cls 6).before args s' = true := h _ (by simp [Bundle.ownAtoms])
  obtain ⟨vm₁, cX, kX, hfX, hkX, -, -, X₁, st1⟩ := Y.newCold hexec (own := own) (C := cls) (index := ik) (n := 6) hown' hk' hins hini'
    (g := F0 m pc ls rest) rfl (by rw [hb]; exact d0) (Nat.le_refl _) (Nat.le_refl _)
  generalize hT1 : (T.setVm vm₁).pushCell { cls := cX, slots := kX.instanceTypes.map defaultValue, vm := .none } = T1 at X₁ st1
  have hcat : (Value.ref T.heap.size).category = 1 := rfl
  have hcellA : T1.heap[T.heap.size]? = some (freshCell cX kX) := by rw [← hT1]; exact State.heap_pushCell_size _ _
  have d3' : decode c.code (pc + 3) = .ok (.dup, 1) := by rw [hb]; exact d3
  have d4' : decode c.code (pc + 4) = .ok (.ldc_w is, 3) := by rw [hb]; exact d4
  have hstr' : vk_R own is text sa s' := vk_R.warm hW0 hstr
  obtain ⟨U, hsteps, hrun, hend, hW, hsame, ce, hce, hO⟩ := X₁.ctorThrowS hexec htr (own := own) (cls := cls) (names := names) (ic := ic) hown' hcls hnames h (fun x hx => nomatch hx) hfX hkX hcellA (by rw [hhp, hT]; exact Nat.le_refl _) (msg := .ref sa) rfl
    (g := { method := m, pc := pc + 7, locals := ls, stack := .ref sa :: .ref T.heap.size :: .ref T.heap.size :: rest, locked := none }) rfl hsize rfl rfl (rest := rest) rfl
    (by rw [hb]; exact d7) (by rw [hb]; exact d10) hout hRframes (by simp only [List.map_cons, List.sum_cons, hcat]; omega) hlocks
  obtain ⟨f1, f2⟩ := vx_frame hsame
  rw [hhp] at f1 f2
  have hWs : s.WarmedH U.vm := State.WarmedH.trans hW0 hW
  have hcl : s.vm.findClass cls = some ce.cls := by
    have h9 := hO.cls
    rw [hvm] at h9
    exact h9
  have hall : s.sameButNew ({ U with vm := s.vm } : State) locs mc ms := by
    subst hA
    obtain ⟨e1, e2⟩ := hsame
    rw [State.setFrames_setFrames] at e1
    have h2 : (T.setVm s.vm).sameButNew ({ U with vm := s.vm } : State) [] (0 + 1) (0 + 6) := ⟨e1, e2⟩
    have h3 := X.same.trans h2
    rw [List.append_nil] at h3
    exact h3.mono hc hs
  refine ⟨U, ?_, .threw T.heap.size, hrun, hend, Or.inr ⟨T.heap.size, rfl, cls, ce, locs, hx U hWs.alike f1 (fun q hq => f2 q hq (fun z hz => nomatch hz)), hce, hO.vm, hcl, hWs, hall, hf⟩⟩
  refine st1 _ ?_
  show Steps p.tables e below (T1.setTop { method := m, pc := pc + 3, locals := ls, stack := .ref T.heap.size :: rest, locked := none }) _
  jvm_step X₁.here [X₁.here.top, hexec, d3', Value.category]
  exact X₁.ldcStringW hexec (own := own) (text := text) (index := is) (a := sa) hown' hstr'.1 hstr'.2
    (g := { method := m, pc := pc + 4, locals := ls, stack := .ref T.heap.size :: .ref T.heap.size :: rest, locked := none }) rfl d4' _ hsteps
end Ends
section Bodies
variable {l : Launch}
theorem vx_ofW {y : MethodName} {ws ws' : List Cond} {rm : Room} {Pc : Array Value → State → Prop} {Qc : Array Value → State → Outcome → State → Prop} {XC : String → State → State → Prop} {mc ms : Nat} {free : Addr → Prop} {cc : ByteArray} {maxL : Nat} {ret : Option FieldType}
    (hy : plainName y.cls = true) (hw : ws = Cond.code y cc maxL ret :: ws')
    (body : ∀ p e s m args below meth c s₁, BodyLoose p l y (headSpec ws rm) cc maxL ret e s m args below meth c s₁ → c.maxLocals = maxL → (∀ x ∈ c.exceptionTable.toList, False) → Pc args s →
      W p l e (headSpec ws rm).room s m args below meth c s.heap [] 0 0 (vx_MQ below Qc XC args s mc ms free) (entryFrame m args maxL)) : vx_Met l y ws rm Pc Qc XC mc ms free := by
  refine MetFree.of_bodyS (code := cc) (maxLocals := maxL) (ret := ret) hy ?_ ?_
  · intro args s m h hn
    obtain ⟨meth, c, h1, h2, h3, h4, h5, h6, -, -⟩ := Cond.code_spec hn (atoms_spec (ws := ws) h _ (by rw [hw]; exact List.mem_cons_self))
    exact ⟨meth, c, h1, h2, h3, h4, h5, h6⟩
  · intro p e s m args below meth c s₁ B hml hP _
    have hh0 : s₁.heap = s.heap := by rw [B.state]; rfl
    have ht : ∀ x ∈ c.exceptionTable.toList, False := by
      obtain ⟨meth9, c9, h1, h2, -, -, -, -, h7, -⟩ := Cond.code_spec B.named (atoms_spec (ws := ws) B.pre _ (by rw [hw]; exact List.mem_cons_self))
      cases Option.some.inj (h1.symm.trans B.method)
      cases Option.some.inj (h2.symm.trans (Stand.of_body B).code)
      intro x hx
      rw [Array.isEmpty_iff.mp h7] at hx
      cases hx
    obtain ⟨t, a1, o, b1, b2, b3⟩ := body p e s m args below meth c s₁ B hml ht hP s₁ hh0 (Stand.of_body B)
    exact ⟨t, o, a1, b1, b2, b3⟩
/-- the table of a body with handlers -/
theorem vx_table {p : Program} {x y : MethodName} {S : Spec} {cc bytes : ByteArray} {maxL maxL' : Nat} {ret ret' : Option FieldType} {e : Env} {s s₁ : State} {m : MethodId} {args : Array Value} {below : List Frame} {meth : Method} {c : Code} {hh : List (Nat × Nat × Nat × Nat)}
    (B : BodyLoose p l y S cc maxL ret e s m args below meth c s₁) (h : (Cond.codeWith y bytes maxL' ret' hh).before args s = true) : c.exceptionTable.toList = tableOf hh := by
  obtain ⟨m9, meth9, c9, hn9, h1, h2, -, -, h6, -⟩ := Cond.codeWith_spec h
  cases Option.some.inj (hn9.symm.trans B.named)
  cases Option.some.inj (h1.symm.trans B.method)
  cases Option.some.inj (h2.symm.trans (Stand.of_body B).code)
  rw [← h6, table_eq]
end Bodies
end VXA
/-! ===== END ===== -/
/-! ===== BEGIN a static call of a method with an exception table ===== -/
section VXS
variable {p : Program} {l : Launch} {e : Env} {R : Room} {s : State} {m : MethodId} {args : Array Value} {below : List Frame} {meth : Method} {c : Code} {T : State} {H : Heap} {locs : List Loc} {cells slots : Nat}
abbrev vx_CSW (R : Room) (s : State) (args : Array Value) (own : String) (index : Nat) (y : MethodName) (bytes : ByteArray) (maxL : Nat) (ret : Option FieldType) (hh : List (Nat × Nat × Nat × Nat)) (ws : List Cond) (rm : Room) (mc ms n : Nat) : Prop :=
  (rm.cells = mc ∧ rm.slots = ms ∧ rm.frames + 1 ≤ R.frames ∧ 8 + (maxL + 11) + rm.locals ≤ R.locals ∧ (∀ w ∈ ws, ∀ (a' : Array Value) (U : State), s.WarmedH U.vm → w.before a' U = true) ∧ Cond.codeWith y bytes maxL ret hh ∈ ws) ∧
  (Cond.codeWith y bytes maxL ret hh).before args s = true ∧ (Cond.initialized y.cls).before args s = true ∧ (y.cls ≠ "java/lang/invoke/MethodHandle" ∧ y.cls ≠ "java/lang/invoke/VarHandle") ∧
  (∀ sig, parseMethodDescriptor y.desc = some sig → n = sig.parameters.length) ∧ (Cond.methodLink own index y).before args s = true ∧ (Cond.static y).before args s = true
theorem vx_cwSW {own : String} {index maxL mc ms : Nat} {y : MethodName} {bytes : ByteArray} {ret : Option FieldType} {hh : List (Nat × Nat × Nat × Nat)} {Ts ws ws' : List Cond} {rm : Room} (n : Nat) (ht : ∀ w ∈ Ts, w.before args s = true) (hT : GoodIn Ts (va_wsS own index y ws)) (hw : ws = Cond.codeWith y bytes maxL ret hh :: ws') (hrc : rm.cells = mc) (hrs : rm.slots = ms)
    (hd : y.cls ≠ "java/lang/invoke/MethodHandle" ∧ y.cls ≠ "java/lang/invoke/VarHandle" ∧ (parseMethodDescriptor y.desc).map (fun d => d.parameters.length) = some n) (hR : rm.frames + 1 ≤ R.frames ∧ 8 + (maxL + 11) + rm.locals ≤ R.locals) :
    vx_CSW R s args own index y bytes maxL ret hh ws rm mc ms n := by
  have ok : ∀ w ∈ va_wsS own index y ws, w.before args s = true := fun w h => ht w (hT w h).1
  have hG : GoodIn Ts ws := fun w h => hT w (by unfold va_wsS; exact List.mem_append_right _ h)
  have hc : Cond.codeWith y bytes maxL ret hh ∈ ws := by rw [hw]; exact List.mem_cons_self
  refine ⟨⟨hrc, hrs, hR.1, hR.2, pay_in ht hG, hc⟩, ht _ (hG _ hc).1, ok _ (by simp [va_wsS]), ⟨hd.1, hd.2.1⟩, fun sig h => ?_, ok _ (by simp [va_wsS]), ok _ (by simp [va_wsS])⟩
  have h2 := hd.2.2
  rw [h] at h2
  exact (Option.some.inj h2).symm
theorem vx_callSW (X : Stand p l e R s m args below meth c T locs cells slots) (hexec : p.tables.exec = Jvm.exec) {own : String} {index : Nat} {y : MethodName} {bytes : ByteArray} {maxL : Nat} {ret : Option FieldType} {hh : List (Nat × Nat × Nat × Nat)}
    (hown : s.vm.findClass own = some m.cls) (hlink : (Cond.methodLink own index y).before args s = true) (hstat : (Cond.static y).before args s = true) (hinit : (Cond.initialized y.cls).before args s = true)
    (hcode : (Cond.codeWith y bytes maxL ret hh).before args s = true) (hy : y.cls ≠ "java/lang/invoke/MethodHandle" ∧ y.cls ≠ "java/lang/invoke/VarHandle")
    {W9 : Nat} {Pre : Pt → Array Value → Prop} {Post : Pt → Array Value → Option Value → Pt → Prop} (hK : Back l R p e below s args y 3 W9 Pre Post)
    {g : JFrame} (hg : g.method = m) (hsize : g.locals.size = c.maxLocals) {argsL rest : List Value} (hlen : ∀ sig, parseMethodDescriptor y.desc = some sig → argsL.length = sig.parameters.length)
    (hstack : g.stack = argsL.reverse ++ rest) (hW : 2 * g.monitorRoom + (rest.map fun v => v.category).sum ≤ W9) (hdg : decode c.code g.pc = .ok (.invokestatic index, 3))
    (hpre : ∀ vm₁, s.WarmedH vm₁ → Pre ⟨T.setVm vm₁, locs, cells, slots⟩ argsL.toArray) :
    ∃ (v : Option Value) (vm₁ : Vm) (B : Pt), s.WarmedH vm₁ ∧ Stand p l e R s m args below meth c B.U B.locs B.cells B.slots ∧ Post ⟨T.setVm vm₁, locs, cells, slots⟩ argsL.toArray v B ∧
      ∀ target, Steps p.tables e below (B.U.setTop { g with pc := g.pc + 3, stack := v.toList ++ rest }) target → Steps p.tables e below (T.setTop g) target := by
  obtain ⟨mk, methM, cM, hnamed, hmethM, -, -, -, -, -, -, hsigM⟩ := Cond.codeWith_spec hcode
  have hstatic : methM.isStatic = true := Cond.static_spec hnamed hmethM hstat
  obtain ⟨kP, hkP, -⟩ := className_of_methodNamed hnamed
  have hinitP : kP.init = .initialized := Cond.initialized_spec (findClass_of_methodNamed hnamed) hkP hinit
  obtain ⟨vm₁, X₁, hstep₁⟩ := X.invokestatic hexec hown hlink hnamed hmethM hstatic hkP hinitP hy (g := g) hg (argsL := argsL) (rest := rest) (hlen _ hsigM) hstack hdg
  obtain ⟨v, B, X', hpost, hsteps⟩ := hK m meth c ⟨T.setVm vm₁, locs, cells, slots⟩ { g with stack := rest } (.invokestatic index) mk argsL.toArray X₁ hg hsize hdg hW (X₁.named hnamed) (hpre vm₁ X₁.warmed)
  exact ⟨v, vm₁, B, X₁.warmed, X', hpost, fun target h => hstep₁ _ fun acts => by rw [doInvoke_state]; exact hsteps.trans h⟩
theorem vx_runSW {y : MethodName} {bytes cc : ByteArray} {maxL nL mc ms n index : Nat} {ret : Option FieldType} {hh : List (Nat × Nat × Nat × Nat)} {ws : List Cond} {rm : Room} {Pc : Array Value → State → Prop} {Qc : Array Value → State → Outcome → State → Prop} {free : Addr → Prop} {Ts : List Cond} {own : String} {As rest : List Value} {g : JFrame}
    (S : CallFix p m c cc nL s args Ts own) (hM : Met l y ws rm Pc Qc mc ms free) (cw : vx_CSW R s args own index y bytes maxL ret hh ws rm mc ms n) (hp : PreS s H Pc As)
    (hg : g.method = m) (hn : As.length = n) (hsize : g.locals.size = nL) (hstack : g.stack = As.reverse ++ rest) (hW : 2 * g.monitorRoom + (rest.map fun v => v.category).sum ≤ 8) (hdg : decode cc g.pc = .ok (.invokestatic index, 3)) (hf : cells + mc ≤ R.cells ∧ slots + ms ≤ R.slots) :
    va_Run p l e R s m args below meth c H locs cells slots mc ms g rest (Qc As.toArray) (free) := by
  obtain ⟨⟨hrc, hrs, hfr, hlo, hws, hcw⟩, hcode, hini, hy, hlen, hl, hstt⟩ := cw
  have hK : Back l R p e below s args y 3 8 (PreOf R mc ms Pc) (PostOf Qc mc ms free) := va_backW (hh := hh) (bytes := bytes) (maxL := maxL) (ret := ret) hM hp.1 hrc hrs hfr hlo hws hcw (fun a' U hW => word_at hW (Or.inl (by first | rfl | simp [Cond.onTables, Cond.keeps, Cond.steady])) hini)
  obtain ⟨hx, hb, hml, ho, -⟩ := S
  intro T hT X
  obtain ⟨v, vm₁, ⟨U', l2, c2, s2⟩, hW₁, X', ⟨g', mk, t, L, e1, e2, hq, h1, hL, h2, h3⟩, st⟩ := vx_callSW X hx (hh := hh) (bytes := bytes) (maxL := maxL) (ret := ret) ho hl hstt hini hcode hy hK hg (hsize.trans hml.symm) (argsL := As) (rest := rest) (fun sig h => hn.trans (hlen sig h)) hstack hW (by rw [hb]; exact hdg)
    (fun vm₁ hW₁ => ⟨hf.1, hf.2, hp.2 (T.setVm vm₁) hT hW₁⟩)
  dsimp only [Pt.U, Pt.locs, Pt.cells, Pt.slots] at X' e1 e2 h1 h2 h3 st
  subst h1; subst h2; subst h3
  exact ⟨v, (T.setVm vm₁).calling g' mk As.toArray, t, U', L, hT, X', hL, e1, e2, hq, st⟩
/-- a thing of a world lies in the heap -/
theorem vx_lt {D : va_G} {cl : List vw_C} {ws : va_W} {H1 : Heap} (h : va_P D cl ws H1) {k : Nat} {q : Nat × va_E} (hk : ws[k]? = some q) : q.1 < H1.size := (h k q hk).lt
end VXS
/-! ===== END ===== -/
/-! ===== BEGIN methods with a table of their own: called by a name, returning or throwing ===== -/
section VXH
/-! vx_backW, vx_callVX, vx_callSX, vx_callVW, vx_runVW, vx_runVX, vx_runSX, vx_ofWH follow the same proofs as their sisters above (Free/Laws.lean, Shelf42/LK1.lean); vx_outP calls Shelf42/NT130.lean (outThrough). -/
section
variable {l : Launch} {R : Room} {p : Program} {e : Env} {below : List Frame} {s : State} {sargs : Array Value} {y : MethodName} {len W9 : Nat}
theorem vx_backW {ws : List Cond} {rm : Room} {Pc : Array Value → State → Prop} {Qc : Array Value → State → Outcome → State → Prop} {XC : String → State → State → Prop} {mc ms : Nat} {free : Addr → Prop} {bytes : ByteArray} {maxL : Nat} {ret : Option FieldType} {hh : List (Nat × Nat × Nat × Nat)}
    (hM : vx_Met l y ws rm Pc Qc XC mc ms free) (hblind : FrameBlind Pc) (hrc : rm.cells = mc) (hrs : rm.slots = ms)
    (hframes : rm.frames + 1 ≤ R.frames) (hlocals : W9 + (maxL + 11) + rm.locals ≤ R.locals)
    (hws : ∀ w ∈ ws, ∀ a' U, s.WarmedH U.vm → w.before a' U = true) (hcode : Cond.codeWith y bytes maxL ret hh ∈ ws) (hinit : ∀ a' U, s.WarmedH U.vm → (Cond.initialized y.cls).before a' U = true) :
    vx_Back l R p e below s sargs y len W9 (PreOf R mc ms Pc) (PostOf Qc mc ms free) (vx_Post XC mc ms free) := by
  intro m meth c A g ig mk a X hg hsize hdg hW hn hp
  have h1 : (headSpec ws rm).pre.before a A.U = true := atoms_intro fun w hw => hws w hw _ _ X.warmed
  have h2 : (Cond.codeWith y bytes maxL ret hh).before a A.U = true := hws _ hcode _ _ X.warmed
  have h3 : (Cond.initialized y.cls).before a A.U = true := hinit _ _ X.warmed
  have h4 : A.cells + (headSpec ws rm).room.cells ≤ R.cells := by rw [show (headSpec ws rm).room.cells = mc from hrc]; exact hp.1
  have h5 : A.slots + (headSpec ws rm).room.slots ≤ R.slots := by rw [show (headSpec ws rm).room.slots = ms from hrs]; exact hp.2.1
  have hPc : Pc a (A.U.calling g mk a) := hblind _ _ _ _ hp.2.2
  obtain ⟨U, Ls, c0, s0⟩ := A
  dsimp only [Pt.U, Pt.locs, Pt.cells, Pt.slots] at h1 h2 h3 h4 h5 X hn hPc ⊢
  obtain ⟨m9, methY, cY, hn9, hmY, hcY, -, hlY, -⟩ := Cond.codeWith_spec h2
  cases Option.some.inj (hn9.symm.trans hn)
  obtain ⟨kY, hkY, -⟩ := className_of_methodNamed hn
  have hinitY : kY.init = .initialized := Cond.initialized_spec (findClass_of_methodNamed hn) hkY h3
  have h : At U g.method c below := by rw [hg]; exact X.here
  have hlocals9 : W9 + (maxL + 11) + (headSpec ws rm).room.locals ≤ R.locals := hlocals
  have happ : (headSpec ws rm).appliesLoose y e.platform (U.calling g mk a) = true :=
    Spec.appliesLoose_calling (g := g) h hdg hn hkY hinitY
      (X.room_calling (g := g) (R' := (headSpec ws rm).room) hsize hmY hcY hframes (by rw [hlY]; omega) h4 h5) h1
  obtain ⟨mid, hmid⟩ := h.above
  have hfr : (U.setTop g).frames = (.java g :: mid) ++ below := by rw [State.frames_setTop' g h.top, hmid]; rfl
  obtain ⟨o, s₂, hsteps, -, hend, hq⟩ := Steps.callFree hM p X.admits X.cas X.clock (acts := []) hfr happ hPc trivial
  have hq' : vx_Q Qc XC mc ms free a (U.calling g mk a) o s₂ := hq
  rw [State.frames_setTop' g h.top] at hend
  obtain ⟨g₀, hg0⟩ := Option.isSome_iff_exists.mp h.top
  obtain ⟨r, hr⟩ := State.topJava?_eq_some.mp hg0
  have hr' : (({ U with heap := s₂.heap, slotsUsed := s₂.slotsUsed } : State).setVm s₂.vm).frames = .java g₀ :: r := hr
  rcases hq' with ⟨hqc, L, hfe, hL⟩ | ⟨q, rfl, E, ce, L, hx, hce, hcv, hcl, hW₂, hsm, hL⟩
  · obtain ⟨⟨v, rfl⟩, hW₂, e2, q2, q3, q4, q5, q6⟩ := id hfe
    have e3 : s₂ = ({ (U.calling g mk a).setFrames s₂.frames with heap := s₂.heap, slotsUsed := s₂.slotsUsed } : State).setVm s₂.vm := by
      have : s₂ = ({ s₂ with vm := (U.calling g mk a).vm } : State).setVm s₂.vm := rfl
      rw [e2] at this
      exact this
    obtain ⟨c₂, i₂, len₂, hc₂, hd₂, hf₂⟩ := hend
    have hW' : U.WarmedH s₂.vm := hW₂
    have hcc : c₂ = c := by
      have h1 : s₂.code? g.method = U.code? g.method := by
        rw [State.code?_eq, State.code?_eq, hW'.alike.method?]
      exact Option.some.inj (hc₂.symm.trans (h1.trans h.code))
    subst hcc
    have hlen : len₂ = len := by rw [hdg] at hd₂; cases hd₂; rfl
    subst hlen
    have hs₂ : s₂ = (({ U with heap := s₂.heap, slotsUsed := s₂.slotsUsed } : State).setVm s₂.vm).setTop { g with pc := g.pc + len₂, stack := v.toList ++ g.stack } := by
      refine e3.trans ?_
      rw [hf₂, State.calling_eq h.top, State.setFrames_setFrames, State.setTop_of_frames _ hr', hr]
      rfl
    have hsame : U.sameButNew ({ U with heap := s₂.heap, slotsUsed := s₂.slotsUsed } : State) L mc ms := by
      refine ⟨?_, q2, q3, q4, q5, q6⟩
      obtain ⟨t, ht, -⟩ := State.frames_cons hr
      show ({ U with heap := s₂.heap, slotsUsed := s₂.slotsUsed } : State) = { U.setFrames U.frames with heap := s₂.heap, slotsUsed := s₂.slotsUsed }
      rw [State.setFrames_self ht]
    subst hg
    refine Or.inl ⟨v, ⟨(({ U with heap := s₂.heap, slotsUsed := s₂.slotsUsed } : State).setVm s₂.vm), Ls ++ L, c0 + mc, s0 + ms⟩,
      ⟨X.admits, X.cas, X.clock, X.frames, X.room, X.hears, X.method, X.code, (X.here.setHeapUsed s₂.heap s₂.slotsUsed).setVm hW'.alike, X.tail, State.WarmedH.trans X.warmed hW', X.limits, X.bytes, X.same.trans (hsame.setVm s.vm)⟩,
      ⟨g, mk, s₂, L, rfl, rfl, hqc, rfl, hL, rfl, rfl⟩, ?_⟩
    show Steps p.tables e below _ ((({ U with heap := s₂.heap, slotsUsed := s₂.slotsUsed } : State).setVm s₂.vm).setTop { g with pc := g.pc + len₂, stack := v.toList ++ g.stack })
    rw [← hs₂]
    exact hsteps
  · obtain ⟨e2, q2, q3, q4, q5, q6⟩ := id hsm
    have e3 : s₂ = ({ (U.calling g mk a).setFrames s₂.frames with heap := s₂.heap, slotsUsed := s₂.slotsUsed } : State).setVm s₂.vm := by
      have : s₂ = ({ s₂ with vm := (U.calling g mk a).vm } : State).setVm s₂.vm := rfl
      rw [e2] at this
      exact this
    have hf₂ : s₂.frames = .throwing q :: .java g :: U.frames.tail := hend
    have hW' : U.WarmedH s₂.vm := hW₂
    have hs₂ : s₂ = ((({ U with heap := s₂.heap, slotsUsed := s₂.slotsUsed } : State).setVm s₂.vm).setTop g).pushFrame (.throwing q) := by
      refine e3.trans ?_
      rw [hf₂, State.calling_eq h.top, State.setFrames_setFrames, State.pushFrame, State.frames_setTop _ hr', State.setTop_of_frames _ hr', State.setFrames_setFrames, hr]
      rfl
    have hsame : U.sameButNew ({ U with heap := s₂.heap, slotsUsed := s₂.slotsUsed } : State) L mc ms := by
      refine ⟨?_, q2, q3, q4, q5, q6⟩
      obtain ⟨t, ht, -⟩ := State.frames_cons hr
      show ({ U with heap := s₂.heap, slotsUsed := s₂.slotsUsed } : State) = { U.setFrames U.frames with heap := s₂.heap, slotsUsed := s₂.slotsUsed }
      rw [State.setFrames_self ht]
    subst hg
    refine Or.inr ⟨q, ⟨(({ U with heap := s₂.heap, slotsUsed := s₂.slotsUsed } : State).setVm s₂.vm), Ls ++ L, c0 + mc, s0 + ms⟩,
      ⟨X.admits, X.cas, X.clock, X.frames, X.room, X.hears, X.method, X.code, (X.here.setHeapUsed s₂.heap s₂.slotsUsed).setVm hW'.alike, X.tail, State.WarmedH.trans X.warmed hW', X.limits, X.bytes, X.same.trans (hsame.setVm s.vm)⟩,
      ⟨g, mk, s₂, L, E, ce, rfl, rfl, hx, hce, hcv, hcl, rfl, hL, rfl, rfl⟩, ?_⟩
    show Steps p.tables e below _ (((({ U with heap := s₂.heap, slotsUsed := s₂.slotsUsed } : State).setVm s₂.vm).setTop g).pushFrame (.throwing q))
    rw [← hs₂]
    exact hsteps
end
variable {p : Program} {l : Launch} {e : Env} {R : Room} {s : State} {m : MethodId} {args : Array Value} {below : List Frame} {meth : Method} {c : Code} {T : State} {H : Heap} {locs : List Loc} {cells slots : Nat}
theorem vx_callVX (X : Stand p l e R s m args below meth c T locs cells slots) (hexec : p.tables.exec = Jvm.exec) {own C : String} {index : Nat} {y : MethodName} {bytes : ByteArray} {maxL : Nat} {ret : Option FieldType} {hh : List (Nat × Nat × Nat × Nat)}
    (hown : s.vm.findClass own = some m.cls) (hlink : (Cond.methodLink own index y).before args s = true) (hinst : (Cond.instanceMethod y).before args s = true) (hsel : (Cond.selects C y y).before args s = true)
    (hcode : (Cond.codeWith y bytes maxL ret hh).before args s = true) (hy : y.cls ≠ "java/lang/invoke/MethodHandle" ∧ y.cls ≠ "java/lang/invoke/VarHandle")
    {W9 : Nat} {Pre : Pt → Array Value → Prop} {Post : Pt → Array Value → Option Value → Pt → Prop} {PostX : Pt → Array Value → Addr → Pt → Prop} (hK : vx_Back l R p e below s args y 3 W9 Pre Post PostX)
    {b : Addr} {cellB : Cell} (hcell : T.heap[b]? = some cellB) (hobj : cellB.vm.isStatics = false) (hcls : s.vm.findClass C = some cellB.cls)
    {g : JFrame} (hg : g.method = m) (hsize : g.locals.size = c.maxLocals) {argsL rest : List Value} (hlen : ∀ sig, parseMethodDescriptor y.desc = some sig → argsL.length = sig.parameters.length)
    (hstack : g.stack = argsL.reverse ++ .ref b :: rest) (hW : 2 * g.monitorRoom + (rest.map fun v => v.category).sum ≤ W9) (hdg : decode c.code g.pc = .ok (.invokevirtual index, 3))
    (hpre : ∀ vm₁, s.WarmedH vm₁ → Pre ⟨T.setVm vm₁, locs, cells, slots⟩ (Value.ref b :: argsL).toArray) :
    (∃ (v : Option Value) (vm₁ : Vm) (B : Pt), s.WarmedH vm₁ ∧ Stand p l e R s m args below meth c B.U B.locs B.cells B.slots ∧ Post ⟨T.setVm vm₁, locs, cells, slots⟩ (Value.ref b :: argsL).toArray v B ∧
      ∀ target, Steps p.tables e below (B.U.setTop { g with pc := g.pc + 3, stack := v.toList ++ rest }) target → Steps p.tables e below (T.setTop g) target) ∨
    (∃ (q : Addr) (vm₁ : Vm) (B : Pt), s.WarmedH vm₁ ∧ Stand p l e R s m args below meth c B.U B.locs B.cells B.slots ∧ PostX ⟨T.setVm vm₁, locs, cells, slots⟩ (Value.ref b :: argsL).toArray q B ∧
      Steps p.tables e below (T.setTop g) ((B.U.setTop { g with stack := rest }).pushFrame (.throwing q))) := by
  obtain ⟨mk, methM, hnamed, hmethM, hstM, habM⟩ := Cond.instanceMethod_spec hinst
  obtain ⟨m8, methM', cM, hn8, hmethM', -, -, -, -, -, -, hsigM⟩ := Cond.codeWith_spec hcode
  cases Option.some.inj (hn8.symm.trans hnamed)
  cases hmethM.symm.trans hmethM'
  obtain ⟨c2, r2, m2, q1, q2, q3, q4, kP, hkP, hkPi⟩ := Cond.selects_spec hsel
  cases hcls.symm.trans q1
  cases (State.methodFound?_of_named hnamed hy).symm.trans q2
  cases hnamed.symm.trans q3
  have hselP : selectMethod e.platform s.vm cellB.cls mk = .method mk := by rw [Launch.admits_selectMethod X.admits]; exact q4
  obtain ⟨vm₁, X₁, hstep₁⟩ := X.invokevirtual hexec hown hlink hnamed hmethM hstM hkP hkPi hy (a := b) (cell := cellB) hcell
    (fun z h => by rw [h] at hobj; cases hobj) hselP hmethM habM hkP hkPi (g := g) hg (argsL := argsL) (rest := rest) (hlen _ hsigM) hstack hdg
  rcases hK m meth c ⟨T.setVm vm₁, locs, cells, slots⟩ { g with stack := rest } (.invokevirtual index) mk (Value.ref b :: argsL).toArray X₁ hg hsize hdg hW (X₁.named hnamed) (hpre vm₁ X₁.warmed) with ⟨v, B, X', hpost, hsteps⟩ | ⟨q, B, X', hpost, hsteps⟩
  · exact Or.inl ⟨v, vm₁, B, X₁.warmed, X', hpost, fun target h => hstep₁ _ fun acts => by rw [doInvoke_state]; exact hsteps.trans h⟩
  · exact Or.inr ⟨q, vm₁, B, X₁.warmed, X', hpost, hstep₁ _ fun acts => by rw [doInvoke_state]; exact hsteps⟩
theorem vx_callSX (X : Stand p l e R s m args below meth c T locs cells slots) (hexec : p.tables.exec = Jvm.exec) {own : String} {index : Nat} {y : MethodName} {bytes : ByteArray} {maxL : Nat} {ret : Option FieldType} {hh : List (Nat × Nat × Nat × Nat)}
    (hown : s.vm.findClass own = some m.cls) (hlink : (Cond.methodLink own index y).before args s = true) (hstat : (Cond.static y).before args s = true) (hinit : (Cond.initialized y.cls).before args s = true)
    (hcode : (Cond.codeWith y bytes maxL ret hh).before args s = true) (hy : y.cls ≠ "java/lang/invoke/MethodHandle" ∧ y.cls ≠ "java/lang/invoke/VarHandle")
    {W9 : Nat} {Pre : Pt → Array Value → Prop} {Post : Pt → Array Value → Option Value → Pt → Prop} {PostX : Pt → Array Value → Addr → Pt → Prop} (hK : vx_Back l R p e below s args y 3 W9 Pre Post PostX)
    {g : JFrame} (hg : g.method = m) (hsize : g.locals.size = c.maxLocals) {argsL rest : List Value} (hlen : ∀ sig, parseMethodDescriptor y.desc = some sig → argsL.length = sig.parameters.length)
    (hstack : g.stack = argsL.reverse ++ rest) (hW : 2 * g.monitorRoom + (rest.map fun v => v.category).sum ≤ W9) (hdg : decode c.code g.pc = .ok (.invokestatic index, 3))
    (hpre : ∀ vm₁, s.WarmedH vm₁ → Pre ⟨T.setVm vm₁, locs, cells, slots⟩ argsL.toArray) :
    (∃ (v : Option Value) (vm₁ : Vm) (B : Pt), s.WarmedH vm₁ ∧ Stand p l e R s m args below meth c B.U B.locs B.cells B.slots ∧ Post ⟨T.setVm vm₁, locs, cells, slots⟩ argsL.toArray v B ∧
      ∀ target, Steps p.tables e below (B.U.setTop { g with pc := g.pc + 3, stack := v.toList ++ rest }) target → Steps p.tables e below (T.setTop g) target) ∨
    (∃ (q : Addr) (vm₁ : Vm) (B : Pt), s.WarmedH vm₁ ∧ Stand p l e R s m args below meth c B.U B.locs B.cells B.slots ∧ PostX ⟨T.setVm vm₁, locs, cells, slots⟩ argsL.toArray q B ∧
      Steps p.tables e below (T.setTop g) ((B.U.setTop { g with stack := rest }).pushFrame (.throwing q))) := by
  obtain ⟨mk, methM, cM, hnamed, hmethM, -, -, -, -, -, -, hsigM⟩ := Cond.codeWith_spec hcode
  have hstatic : methM.isStatic = true := Cond.static_spec hnamed hmethM hstat
  obtain ⟨kP, hkP, -⟩ := className_of_methodNamed hnamed
  have hinitP : kP.init = .initialized := Cond.initialized_spec (findClass_of_methodNamed hnamed) hkP hinit
  obtain ⟨vm₁, X₁, hstep₁⟩ := X.invokestatic hexec hown hlink hnamed hmethM hstatic hkP hinitP hy (g := g) hg (argsL := argsL) (rest := rest) (hlen _ hsigM) hstack hdg
  rcases hK m meth c ⟨T.setVm vm₁, locs, cells, slots⟩ { g with stack := rest } (.invokestatic index) mk argsL.toArray X₁ hg hsize hdg hW (X₁.named hnamed) (hpre vm₁ X₁.warmed) with ⟨v, B, X', hpost, hsteps⟩ | ⟨q, B, X', hpost, hsteps⟩
  · exact Or.inl ⟨v, vm₁, B, X₁.warmed, X', hpost, fun target h => hstep₁ _ fun acts => by rw [doInvoke_state]; exact hsteps.trans h⟩
  · exact Or.inr ⟨q, vm₁, B, X₁.warmed, X', hpost, hstep₁ _ fun acts => by rw [doInvoke_state]; exact hsteps⟩
theorem vx_callVW (X : Stand p l e R s m args below meth c T locs cells slots) (hexec : p.tables.exec = Jvm.exec) {own C : String} {index : Nat} {y : MethodName} {bytes : ByteArray} {maxL : Nat} {ret : Option FieldType} {hh : List (Nat × Nat × Nat × Nat)}
    (hown : s.vm.findClass own = some m.cls) (hlink : (Cond.methodLink own index y).before args s = true) (hinst : (Cond.instanceMethod y).before args s = true) (hsel : (Cond.selects C y y).before args s = true)
    (hcode : (Cond.codeWith y bytes maxL ret hh).before args s = true) (hy : y.cls ≠ "java/lang/invoke/MethodHandle" ∧ y.cls ≠ "java/lang/invoke/VarHandle")
    {W9 : Nat} {Pre : Pt → Array Value → Prop} {Post : Pt → Array Value → Option Value → Pt → Prop} (hK : Back l R p e below s args y 3 W9 Pre Post)
    {b : Addr} {cellB : Cell} (hcell : T.heap[b]? = some cellB) (hobj : cellB.vm.isStatics = false) (hcls : s.vm.findClass C = some cellB.cls)
    {g : JFrame} (hg : g.method = m) (hsize : g.locals.size = c.maxLocals) {argsL rest : List Value} (hlen : ∀ sig, parseMethodDescriptor y.desc = some sig → argsL.length = sig.parameters.length)
    (hstack : g.stack = argsL.reverse ++ .ref b :: rest) (hW : 2 * g.monitorRoom + (rest.map fun v => v.category).sum ≤ W9) (hdg : decode c.code g.pc = .ok (.invokevirtual index, 3))
    (hpre : ∀ vm₁, s.WarmedH vm₁ → Pre ⟨T.setVm vm₁, locs, cells, slots⟩ (Value.ref b :: argsL).toArray) :
    ∃ (v : Option Value) (vm₁ : Vm) (B : Pt), s.WarmedH vm₁ ∧ Stand p l e R s m args below meth c B.U B.locs B.cells B.slots ∧ Post ⟨T.setVm vm₁, locs, cells, slots⟩ (Value.ref b :: argsL).toArray v B ∧
      ∀ target, Steps p.tables e below (B.U.setTop { g with pc := g.pc + 3, stack := v.toList ++ rest }) target → Steps p.tables e below (T.setTop g) target := by
  obtain ⟨mk, methM, hnamed, hmethM, hstM, habM⟩ := Cond.instanceMethod_spec hinst
  obtain ⟨m8, methM', cM, hn8, hmethM', -, -, -, -, -, -, hsigM⟩ := Cond.codeWith_spec hcode
  cases Option.some.inj (hn8.symm.trans hnamed)
  cases hmethM.symm.trans hmethM'
  obtain ⟨c2, r2, m2, q1, q2, q3, q4, kP, hkP, hkPi⟩ := Cond.selects_spec hsel
  cases hcls.symm.trans q1
  cases (State.methodFound?_of_named hnamed hy).symm.trans q2
  cases hnamed.symm.trans q3
  have hselP : selectMethod e.platform s.vm cellB.cls mk = .method mk := by rw [Launch.admits_selectMethod X.admits]; exact q4
  obtain ⟨vm₁, X₁, hstep₁⟩ := X.invokevirtual hexec hown hlink hnamed hmethM hstM hkP hkPi hy (a := b) (cell := cellB) hcell
    (fun z h => by rw [h] at hobj; cases hobj) hselP hmethM habM hkP hkPi (g := g) hg (argsL := argsL) (rest := rest) (hlen _ hsigM) hstack hdg
  obtain ⟨v, B, X', hpost, hsteps⟩ := hK m meth c ⟨T.setVm vm₁, locs, cells, slots⟩ { g with stack := rest } (.invokevirtual index) mk (Value.ref b :: argsL).toArray X₁ hg hsize hdg hW (X₁.named hnamed) (hpre vm₁ X₁.warmed)
  exact ⟨v, vm₁, B, X₁.warmed, X', hpost, fun target h => hstep₁ _ fun acts => by rw [doInvoke_state]; exact hsteps.trans h⟩
abbrev vx_CVW (R : Room) (s : State) (args : Array Value) (own C : String) (index : Nat) (y : MethodName) (bytes : ByteArray) (maxL : Nat) (ret : Option FieldType) (hh : List (Nat × Nat × Nat × Nat)) (ws : List Cond) (rm : Room) (mc ms n : Nat) : Prop :=
  (rm.cells = mc ∧ rm.slots = ms ∧ rm.frames + 1 ≤ R.frames ∧ 8 + (maxL + 11) + rm.locals ≤ R.locals ∧ (∀ w ∈ ws, ∀ (a' : Array Value) (U : State), s.WarmedH U.vm → w.before a' U = true) ∧ Cond.codeWith y bytes maxL ret hh ∈ ws) ∧
  (Cond.codeWith y bytes maxL ret hh).before args s = true ∧ (Cond.initialized y.cls).before args s = true ∧ (y.cls ≠ "java/lang/invoke/MethodHandle" ∧ y.cls ≠ "java/lang/invoke/VarHandle") ∧
  (∀ sig, parseMethodDescriptor y.desc = some sig → n = sig.parameters.length) ∧ (Cond.methodLink own index y).before args s = true ∧ (Cond.instanceMethod y).before args s = true ∧ (Cond.selects C y y).before args s = true
theorem vx_cwVW {own C : String} {index maxL mc ms : Nat} {y : MethodName} {bytes : ByteArray} {ret : Option FieldType} {hh : List (Nat × Nat × Nat × Nat)} {Ts ws ws' : List Cond} {rm : Room} (n : Nat) (ht : ∀ w ∈ Ts, w.before args s = true) (hT : GoodIn Ts (wsV own index C y ws)) (hw : ws = Cond.codeWith y bytes maxL ret hh :: ws') (hrc : rm.cells = mc) (hrs : rm.slots = ms)
    (hd : y.cls = C ∧ y.cls ≠ "java/lang/invoke/MethodHandle" ∧ y.cls ≠ "java/lang/invoke/VarHandle" ∧ (parseMethodDescriptor y.desc).map (fun d => d.parameters.length) = some n) (hR : rm.frames + 1 ≤ R.frames ∧ 8 + (maxL + 11) + rm.locals ≤ R.locals) :
    vx_CVW R s args own C index y bytes maxL ret hh ws rm mc ms n := by
  obtain ⟨hC, hd⟩ := hd
  subst hC
  have ok : ∀ w ∈ wsV own index y.cls y ws, w.before args s = true := fun w h => ht w (hT w h).1
  have hG : GoodIn Ts ws := fun w h => hT w (by unfold wsV; exact List.mem_append_right _ h)
  have hc : Cond.codeWith y bytes maxL ret hh ∈ ws := by rw [hw]; exact List.mem_cons_self
  refine ⟨⟨hrc, hrs, hR.1, hR.2, pay_in ht hG, hc⟩, ht _ (hG _ hc).1, ok _ (by simp [wsV]), ⟨hd.1, hd.2.1⟩, fun sig h => ?_, ok _ (by simp [wsV]), ok _ (by simp [wsV]), ok _ (by simp [wsV])⟩
  have h2 := hd.2.2
  rw [h] at h2
  exact (Option.some.inj h2).symm
theorem vx_runVW {y : MethodName} {bytes cc : ByteArray} {maxL nL mc ms n index : Nat} {ret : Option FieldType} {hh : List (Nat × Nat × Nat × Nat)} {ws : List Cond} {rm : Room} {Pc : Array Value → State → Prop} {Qc : Array Value → State → Outcome → State → Prop} {free : Addr → Prop} {Ts : List Cond} {own C : String} {b : Addr} {As rest : List Value} {g : JFrame}
    (S : CallFix p m c cc nL s args Ts own) (hM : Met l y ws rm Pc Qc mc ms free) (cw : vx_CVW R s args own C index y bytes maxL ret hh ws rm mc ms n) (hp : PreV s H C b Pc As)
    (hg : g.method = m) (hn : As.length = n) (hsize : g.locals.size = nL) (hstack : g.stack = As.reverse ++ .ref b :: rest) (hW : 2 * g.monitorRoom + (rest.map fun v => v.category).sum ≤ 8) (hdg : decode cc g.pc = .ok (.invokevirtual index, 3)) (hf : cells + mc ≤ R.cells ∧ slots + ms ≤ R.slots) :
    va_Run p l e R s m args below meth c H locs cells slots mc ms g rest (Qc (Value.ref b :: As).toArray) free := by
  obtain ⟨⟨hrc, hrs, hfr, hlo, hws, hcw⟩, hcode, hini, hy, hlen, hl, hin, hse⟩ := cw
  have hK : Back l R p e below s args y 3 8 (PreOf R mc ms Pc) (PostOf Qc mc ms free) := va_backW (hh := hh) (bytes := bytes) (maxL := maxL) (ret := ret) hM hp.1 hrc hrs hfr hlo hws hcw (fun a' U hW => word_at hW (Or.inl (by first | rfl | simp [Cond.onTables, Cond.keeps, Cond.steady])) hini)
  obtain ⟨hx, hb, hml, ho, -⟩ := S
  obtain ⟨-, ⟨cellB, hcB, hoB, hclB⟩, hPc⟩ := hp
  intro T hT X
  obtain ⟨v, vm₁, ⟨U', l2, c2, s2⟩, hW₁, X', ⟨g', mk, t, L, e1, e2, hq, h1, hL, h2, h3⟩, st⟩ := vx_callVW X hx (C := C) (hh := hh) (bytes := bytes) (maxL := maxL) (ret := ret) ho hl hin hse hcode hy hK (by rw [hT]; exact hcB) hoB hclB hg (hsize.trans hml.symm) (argsL := As) (rest := rest) (fun sig h => hn.trans (hlen sig h)) hstack hW (by rw [hb]; exact hdg)
    (fun vm₁ hW₁ => ⟨hf.1, hf.2, hPc (T.setVm vm₁) hT hW₁⟩)
  dsimp only [Pt.U, Pt.locs, Pt.cells, Pt.slots] at X' e1 e2 h1 h2 h3 st
  subst h1; subst h2; subst h3
  exact ⟨v, (T.setVm vm₁).calling g' mk (Value.ref b :: As).toArray, t, U', L, hT, X', hL, e1, e2, hq, st⟩
section
variable {y : MethodName} {bytes cc : ByteArray} {maxL nL mc ms n index : Nat} {ret : Option FieldType} {ws : List Cond} {rm : Room} {Pc : Array Value → State → Prop} {Qc : Array Value → State → Outcome → State → Prop} {XC : String → State → State → Prop} {free : Addr → Prop} {Ts : List Cond} {own C : String} {b : Addr} {As rest : List Value} {g : JFrame}
theorem vx_runVX {hh : List (Nat × Nat × Nat × Nat)} (S : CallFix p m c cc nL s args Ts own) (hM : vx_Met l y ws rm Pc Qc XC mc ms free) (cw : vx_CVW R s args own C index y bytes maxL ret hh ws rm mc ms n) (hp : PreV s H C b Pc As)
    (hg : g.method = m) (hn : As.length = n) (hsize : g.locals.size = nL) (hstack : g.stack = As.reverse ++ .ref b :: rest) (hW : 2 * g.monitorRoom + (rest.map fun v => v.category).sum ≤ 8) (hdg : decode cc g.pc = .ok (.invokevirtual index, 3)) (hf : cells + mc ≤ R.cells ∧ slots + ms ≤ R.slots) :
    vx_Run p l e R s m args below meth c H locs cells slots mc ms g rest (Qc (Value.ref b :: As).toArray) XC free := by
  obtain ⟨⟨hrc, hrs, hfr, hlo, hws, hcw⟩, hcode, hini, hy, hlen, hl, hin, hse⟩ := cw
  have hK : vx_Back l R p e below s args y 3 8 (PreOf R mc ms Pc) (PostOf Qc mc ms free) (vx_Post XC mc ms free) := vx_backW (hh := hh) (bytes := bytes) (maxL := maxL) (ret := ret) hM hp.1 hrc hrs hfr hlo hws hcw (fun a' U hW => word_at hW (Or.inl (by first | rfl | simp [Cond.onTables, Cond.keeps, Cond.steady])) hini)
  obtain ⟨hx, hb, hml, ho, -⟩ := S
  obtain ⟨-, ⟨cellB, hcB, hoB, hclB⟩, hPc⟩ := hp
  intro T hT X
  rcases vx_callVX X hx (C := C) (hh := hh) (bytes := bytes) (maxL := maxL) (ret := ret) ho hl hin hse hcode hy hK (by rw [hT]; exact hcB) hoB hclB hg (hsize.trans hml.symm) (argsL := As) (rest := rest) (fun sig h => hn.trans (hlen sig h)) hstack hW (by rw [hb]; exact hdg)
    (fun vm₁ hW₁ => ⟨hf.1, hf.2, hPc (T.setVm vm₁) hT hW₁⟩) with ⟨v, vm₁, ⟨U', l2, c2, s2⟩, hW₁, X', ⟨g', mk, t, L, e1, e2, hq, h1, hL, h2, h3⟩, st⟩ | ⟨q, vm₁, ⟨U', l2, c2, s2⟩, hW₁, X', ⟨g', mk, t, L, E, ce, e1, e2, hq, hce, hcv, hcl, h1, hL, h2, h3⟩, st⟩
  · dsimp only [Pt.U, Pt.locs, Pt.cells, Pt.slots] at X' e1 e2 h1 h2 h3 st
    subst h1; subst h2; subst h3
    exact Or.inl ⟨v, (T.setVm vm₁).calling g' mk (Value.ref b :: As).toArray, t, U', L, hT, X', hL, e1, e2, hq, st⟩
  · dsimp only [Pt.U, Pt.locs, Pt.cells, Pt.slots] at X' e1 e2 h1 h2 h3 st hcl
    subst h1; subst h2; subst h3
    exact Or.inr ⟨q, (T.setVm vm₁).calling g' mk (Value.ref b :: As).toArray, t, U', L, E, ce, hT, X', hL, e1, e2, hq, hce, hcv, vx_cls hW₁ hcl, st⟩
theorem vx_runSX {hh : List (Nat × Nat × Nat × Nat)} (S : CallFix p m c cc nL s args Ts own) (hM : vx_Met l y ws rm Pc Qc XC mc ms free) (cw : vx_CSW R s args own index y bytes maxL ret hh ws rm mc ms n) (hp : PreS s H Pc As)
    (hg : g.method = m) (hn : As.length = n) (hsize : g.locals.size = nL) (hstack : g.stack = As.reverse ++ rest) (hW : 2 * g.monitorRoom + (rest.map fun v => v.category).sum ≤ 8) (hdg : decode cc g.pc = .ok (.invokestatic index, 3)) (hf : cells + mc ≤ R.cells ∧ slots + ms ≤ R.slots) :
    vx_Run p l e R s m args below meth c H locs cells slots mc ms g rest (Qc As.toArray) XC free := by
  obtain ⟨⟨hrc, hrs, hfr, hlo, hws, hcw⟩, hcode, hini, hy, hlen, hl, hstt⟩ := cw
  have hK : vx_Back l R p e below s args y 3 8 (PreOf R mc ms Pc) (PostOf Qc mc ms free) (vx_Post XC mc ms free) := vx_backW (hh := hh) (bytes := bytes) (maxL := maxL) (ret := ret) hM hp.1 hrc hrs hfr hlo hws hcw (fun a' U hW => word_at hW (Or.inl (by first | rfl | simp [Cond.onTables, Cond.keeps, Cond.steady])) hini)
  obtain ⟨hx, hb, hml, ho, -⟩ := S
  intro T hT X
  rcases vx_callSX X hx (hh := hh) (bytes := bytes) (maxL := maxL) (ret := ret) ho hl hstt hini hcode hy hK hg (hsize.trans hml.symm) (argsL := As) (rest := rest) (fun sig h => hn.trans (hlen sig h)) hstack hW (by rw [hb]; exact hdg)
    (fun vm₁ hW₁ => ⟨hf.1, hf.2, hp.2 (T.setVm vm₁) hT hW₁⟩) with ⟨v, vm₁, ⟨U', l2, c2, s2⟩, hW₁, X', ⟨g', mk, t, L, e1, e2, hq, h1, hL, h2, h3⟩, st⟩ | ⟨q, vm₁, ⟨U', l2, c2, s2⟩, hW₁, X', ⟨g', mk, t, L, E, ce, e1, e2, hq, hce, hcv, hcl, h1, hL, h2, h3⟩, st⟩
  · dsimp only [Pt.U, Pt.locs, Pt.cells, Pt.slots] at X' e1 e2 h1 h2 h3 st
    subst h1; subst h2; subst h3
    exact Or.inl ⟨v, (T.setVm vm₁).calling g' mk As.toArray, t, U', L, hT, X', hL, e1, e2, hq, st⟩
  · dsimp only [Pt.U, Pt.locs, Pt.cells, Pt.slots] at X' e1 e2 h1 h2 h3 st hcl
    subst h1; subst h2; subst h3
    exact Or.inr ⟨q, (T.setVm vm₁).calling g' mk As.toArray, t, U', L, E, ce, hT, X', hL, e1, e2, hq, hce, hcv, vx_cls hW₁ hcl, st⟩
end
end VXH
theorem vx_ofWH {l : Launch} {y : MethodName} {ws ws' : List Cond} {rm : Room} {Pc : Array Value → State → Prop} {Qc : Array Value → State → Outcome → State → Prop} {XC : String → State → State → Prop} {mc ms : Nat} {free : Addr → Prop} {cc : ByteArray} {maxL : Nat} {ret : Option FieldType} {hh : List (Nat × Nat × Nat × Nat)}
    (hy : plainName y.cls = true) (hw : ws = Cond.codeWith y cc maxL ret hh :: ws')
    (body : ∀ p e s m args below meth c s₁, BodyLoose p l y (headSpec ws rm) cc maxL ret e s m args below meth c s₁ → c.maxLocals = maxL → Pc args s →
      W p l e (headSpec ws rm).room s m args below meth c s.heap [] 0 0 (vx_MQ below Qc XC args s mc ms free) (entryFrame m args maxL)) : vx_Met l y ws rm Pc Qc XC mc ms free := by
  refine MetFree.of_bodyS (code := cc) (maxLocals := maxL) (ret := ret) hy ?_ ?_
  · intro args s m h hn
    obtain ⟨m9, meth, c, hn9, h1, h2, h3, h4, -, h5, h6, -⟩ := Cond.codeWith_spec (atoms_spec (ws := ws) h _ (by rw [hw]; exact List.mem_cons_self))
    cases hn.symm.trans hn9
    exact ⟨meth, c, h1, h2, h3, h4, h5, h6⟩
  · intro p e s m args below meth c s₁ B hml hP _
    have hh0 : s₁.heap = s.heap := by rw [B.state]; rfl
    obtain ⟨t, a1, o, b1, b2, b3⟩ := body p e s m args below meth c s₁ B hml hP s₁ hh0 (Stand.of_body B)
    exact ⟨t, o, a1, b1, b2, b3⟩
/-! ===== END ===== -/
end
section
/-! ===== BEGIN printed: names, fields, word lists, decode rows ===== -/
def RX0 : String := "StateRecords$Check"
def TX0 : u_T := fun k => match k with
  | 0 => ("StateRecords$Check", "kind", "I", true)
  | 1 => ("StateRecords$Check", "a", "I", true)
  | 2 => ("StateRecords$Check", "b", "I", true)
  | _ => ("StateRecords$Check", "v", "J", true)
def tyX0 : Nat → FieldType := fun k => match k with
  | 0 => .int
  | 1 => .int
  | 2 => .int
  | _ => .long
abbrev wsX00 : List Cond := u_ws RX0 TX0 4
theorem nmX0 : ∀ a, a < 4 → ∀ b, b < 4 → a ≠ b → (TX0 a).2.1 ≠ (TX0 b).2.1 := by decide +kernel
theorem tyX0_ok : ∀ k, k < 4 → parseFieldDescriptor (TX0 k).2.2.1 = some (tyX0 k) := by decide +kernel
abbrev cX0_init : ByteArray := prog_2_method_1_code
def yX0_init : MethodName := ⟨RX0, "<init>", "(IIIJ)V"⟩
def RX1 : String := "StateRecords$Fault"
def TX1 : u_T := fun k => match k with
  | 0 => ("StateRecords$Fault", "isTold", "Z", false)
  | 1 => ("StateRecords$Fault", "record", "I", false)
  | 2 => ("StateRecords$Fault", "name", "I", false)
  | _ => ("StateRecords$Fault", "check", "I", false)
def tyX1 : Nat → FieldType := fun k => match k with
  | 0 => .boolean
  | 1 => .int
  | 2 => .int
  | _ => .int
abbrev wsX10 : List Cond := u_ws RX1 TX1 4
theorem nmX1 : ∀ a, a < 4 → ∀ b, b < 4 → a ≠ b → (TX1 a).2.1 ≠ (TX1 b).2.1 := by decide +kernel
theorem tyX1_ok : ∀ k, k < 4 → parseFieldDescriptor (TX1 k).2.2.1 = some (tyX1 k) := by decide +kernel
abbrev cX1_init : ByteArray := prog_3_method_1_code
def yX1_init : MethodName := ⟨RX1, "<init>", "()V"⟩
abbrev cX1_tell : ByteArray := prog_3_method_2_code
def yX1_tell : MethodName := ⟨RX1, "tell", "(III)V"⟩
def RX2 : String := "StateRecords$Journal"
def TX2 : u_T := fun k => match k with
  | 0 => ("StateRecords$Journal", "notes", "[LStateRecords$Note;", true)
  | 1 => ("StateRecords$Journal", "noteCount", "I", false)
  | 2 => ("StateRecords$Journal", "starts", "[I", true)
  | _ => ("StateRecords$Journal", "markCount", "I", false)
def tyX2 : Nat → FieldType := fun k => match k with
  | 0 => .array (.object "StateRecords$Note")
  | 1 => .int
  | 2 => .array .int
  | _ => .int
abbrev wsX20 : List Cond := u_ws RX2 TX2 4
theorem nmX2 : ∀ a, a < 4 → ∀ b, b < 4 → a ≠ b → (TX2 a).2.1 ≠ (TX2 b).2.1 := by decide +kernel
theorem tyX2_ok : ∀ k, k < 4 → parseFieldDescriptor (TX2 k).2.2.1 = some (tyX2 k) := by decide +kernel
abbrev cX2_init : ByteArray := prog_4_method_1_code
def yX2_init : MethodName := ⟨RX2, "<init>", "()V"⟩
abbrev cX2_isFull : ByteArray := prog_4_method_2_code
def yX2_isFull : MethodName := ⟨RX2, "isFull", "()Z"⟩
abbrev cX2_noteField : ByteArray := prog_4_method_3_code
def yX2_noteField : MethodName := ⟨RX2, "noteField", "(LStateRecords$Thing;I)V"⟩
abbrev cX2_noteItem : ByteArray := prog_4_method_4_code
def yX2_noteItem : MethodName := ⟨RX2, "noteItem", "(LStateRecords$Row;I)V"⟩
abbrev cX2_write : ByteArray := prog_4_method_5_code
def yX2_write : MethodName := ⟨RX2, "write", "(LStateRecords$Thing;IJLStateRecords$Row;)V"⟩
abbrev cX2_addMark : ByteArray := prog_4_method_6_code
def yX2_addMark : MethodName := ⟨RX2, "addMark", "()V"⟩
abbrev cX2_undoLatestMark : ByteArray := prog_4_method_7_code
def yX2_undoLatestMark : MethodName := ⟨RX2, "undoLatestMark", "()I"⟩
def RX3 : String := "StateRecords$Note"
def TX3 : u_T := fun k => match k with
  | 0 => ("StateRecords$Note", "thing", "LStateRecords$Thing;", false)
  | 1 => ("StateRecords$Note", "index", "I", false)
  | 2 => ("StateRecords$Note", "value", "J", false)
  | _ => ("StateRecords$Note", "row", "LStateRecords$Row;", false)
def tyX3 : Nat → FieldType := fun k => match k with
  | 0 => .object "StateRecords$Thing"
  | 1 => .int
  | 2 => .long
  | _ => .object "StateRecords$Row"
abbrev wsX30 : List Cond := u_ws RX3 TX3 4
theorem nmX3 : ∀ a, a < 4 → ∀ b, b < 4 → a ≠ b → (TX3 a).2.1 ≠ (TX3 b).2.1 := by decide +kernel
theorem tyX3_ok : ∀ k, k < 4 → parseFieldDescriptor (TX3 k).2.2.1 = some (tyX3 k) := by decide +kernel
abbrev cX3_init : ByteArray := prog_5_method_1_code
def yX3_init : MethodName := ⟨RX3, "<init>", "()V"⟩
abbrev cX3_takeBack : ByteArray := prog_5_method_2_code
def yX3_takeBack : MethodName := ⟨RX3, "takeBack", "()V"⟩
def RX4 : String := "StateRecords$Records"
def TX4 : u_T := fun k => match k with
  | 0 => ("StateRecords$Records", "recordCount", "I", false)
  | 1 => ("StateRecords$Records", "types", "[I", true)
  | 2 => ("StateRecords$Records", "fieldCounts", "[I", true)
  | 3 => ("StateRecords$Records", "names", "[I", true)
  | 4 => ("StateRecords$Records", "lanes", "[I", true)
  | 5 => ("StateRecords$Records", "values", "[J", true)
  | 6 => ("StateRecords$Records", "rowCount", "I", false)
  | 7 => ("StateRecords$Records", "rowLengths", "[I", true)
  | _ => ("StateRecords$Records", "items", "[J", true)
def tyX4 : Nat → FieldType := fun k => match k with
  | 0 => .int
  | 1 => .array .int
  | 2 => .array .int
  | 3 => .array .int
  | 4 => .array .int
  | 5 => .array .long
  | 6 => .int
  | 7 => .array .int
  | _ => .array .long
abbrev wsX40 : List Cond := u_ws RX4 TX4 9
theorem nmX4 : ∀ a, a < 9 → ∀ b, b < 9 → a ≠ b → (TX4 a).2.1 ≠ (TX4 b).2.1 := nm_of [138296336709092183679266420, 500253615475, 123808153012986732990067827, 474080961907, 465491092851, 130160803538291, 8245940574255148660, 540405963996634914515059, 452924370291] (by decide +kernel) (by decide +kernel)
theorem tyX4_ok : ∀ k, k < 9 → parseFieldDescriptor (TX4 k).2.2.1 = some (tyX4 k) := by decide +kernel
abbrev cX4_init : ByteArray := prog_6_method_1_code
def yX4_init : MethodName := ⟨RX4, "<init>", "()V"⟩
abbrev cX4_numberOf : ByteArray := prog_6_method_2_code
def yX4_numberOf : MethodName := ⟨RX4, "numberOf", "(LStateRecords$Row;)I"⟩
abbrev cX4_copyOfRow : ByteArray := prog_6_method_3_code
def yX4_copyOfRow : MethodName := ⟨RX4, "copyOfRow", "(I)LStateRecords$Row;"⟩
abbrev cX4_hasShapeOf : ByteArray := prog_6_method_4_code
def yX4_hasShapeOf : MethodName := ⟨RX4, "hasShapeOf", "(LStateRecords$Records;I)Z"⟩
abbrev cX4_hasValueOf : ByteArray := prog_6_method_5_code
def yX4_hasValueOf : MethodName := ⟨RX4, "hasValueOf", "(LStateRecords$Records;I)Z"⟩
abbrev cX4_hasItemsOf : ByteArray := prog_6_method_6_code
def yX4_hasItemsOf : MethodName := ⟨RX4, "hasItemsOf", "(LStateRecords$Records;I)Z"⟩
def RX5 : String := "StateRecords$Row"
def TX5 : u_T := fun k => match k with
  | 0 => ("StateRecords$Row", "items", "[J", true)
  | _ => ("StateRecords$Row", "number", "I", false)
def tyX5 : Nat → FieldType := fun k => match k with
  | 0 => .array .long
  | _ => .int
abbrev wsX50 : List Cond := u_ws RX5 TX5 2
theorem nmX5 : ∀ a, a < 2 → ∀ b, b < 2 → a ≠ b → (TX5 a).2.1 ≠ (TX5 b).2.1 := by decide +kernel
theorem tyX5_ok : ∀ k, k < 2 → parseFieldDescriptor (TX5 k).2.2.1 = some (tyX5 k) := by decide +kernel
abbrev cX5_init : ByteArray := prog_7_method_1_code
def yX5_init : MethodName := ⟨RX5, "<init>", "(I)V"⟩
def RX6 : String := "StateRecords$Thing"
def TX6 : u_T := fun k => match k with
  | 0 => ("StateRecords$Thing", "type", "LStateRecords$Type;", false)
  | 1 => ("StateRecords$Thing", "values", "[J", true)
  | 2 => ("StateRecords$Thing", "rows", "[LStateRecords$Row;", true)
  | _ => ("StateRecords$Thing", "recordNumber", "I", false)
def tyX6 : Nat → FieldType := fun k => match k with
  | 0 => .object "StateRecords$Type"
  | 1 => .array .long
  | 2 => .array (.object "StateRecords$Row")
  | _ => .int
abbrev wsX60 : List Cond := u_ws RX6 TX6 4
theorem nmX6 : ∀ a, a < 4 → ∀ b, b < 4 → a ≠ b → (TX6 a).2.1 ≠ (TX6 b).2.1 := by decide +kernel
theorem tyX6_ok : ∀ k, k < 4 → parseFieldDescriptor (TX6 k).2.2.1 = some (tyX6 k) := by decide +kernel
abbrev cX6_init : ByteArray := prog_8_method_1_code
def yX6_init : MethodName := ⟨RX6, "<init>", "()V"⟩
abbrev cX6_become : ByteArray := prog_8_method_2_code
def yX6_become : MethodName := ⟨RX6, "become", "(LStateRecords$Type;)V"⟩
abbrev cX6_setDefault : ByteArray := prog_8_method_3_code
def yX6_setDefault : MethodName := ⟨RX6, "setDefault", "(I)V"⟩
abbrev cX6_removeField : ByteArray := prog_8_method_4_code
def yX6_removeField : MethodName := ⟨RX6, "removeField", "(I)V"⟩
abbrev cX6_forgetNumbers : ByteArray := prog_8_method_5_code
def yX6_forgetNumbers : MethodName := ⟨RX6, "forgetNumbers", "()V"⟩
def RX7 : String := "StateRecords$Type"
def TX7 : u_T := fun k => match k with
  | 0 => ("StateRecords$Type", "number", "I", true)
  | 1 => ("StateRecords$Type", "fieldCount", "I", false)
  | 2 => ("StateRecords$Type", "names", "[I", true)
  | 3 => ("StateRecords$Type", "lanes", "[I", true)
  | 4 => ("StateRecords$Type", "defaults", "[J", true)
  | 5 => ("StateRecords$Type", "shuts", "[Z", true)
  | 6 => ("StateRecords$Type", "checkCount", "I", false)
  | _ => ("StateRecords$Type", "checks", "[LStateRecords$Check;", true)
def tyX7 : Nat → FieldType := fun k => match k with
  | 0 => .int
  | 1 => .int
  | 2 => .array .int
  | 3 => .array .int
  | 4 => .array .long
  | 5 => .array .boolean
  | 6 => .int
  | _ => .array (.object "StateRecords$Check")
abbrev wsX70 : List Cond := u_ws RX7 TX7 8
theorem nmX7 : ∀ a, a < 8 → ∀ b, b < 8 → a ≠ b → (TX7 a).2.1 ≠ (TX7 b).2.1 := nm_of [121450625394034, 483625597706979425742452, 474080961907, 465491092851, 7234300945208472691, 495673767027, 469440048988718571548276, 109300028762995] (by decide +kernel) (by decide +kernel)
theorem tyX7_ok : ∀ k, k < 8 → parseFieldDescriptor (TX7 k).2.2.1 = some (tyX7 k) := by decide +kernel
abbrev cX7_init : ByteArray := prog_9_method_1_code
def yX7_init : MethodName := ⟨RX7, "<init>", "(I)V"⟩
abbrev cX7_hasField : ByteArray := prog_9_method_2_code
def yX7_hasField : MethodName := ⟨RX7, "hasField", "(I)Z"⟩
abbrev cX7_hasLane : ByteArray := prog_9_method_3_code
def yX7_hasLane : MethodName := ⟨RX7, "hasLane", "(II)Z"⟩
abbrev cX7_hasRowLane : ByteArray := prog_9_method_4_code
def yX7_hasRowLane : MethodName := ⟨RX7, "hasRowLane", "(I)Z"⟩
abbrev cX7_fieldNamed : ByteArray := prog_9_method_5_code
def yX7_fieldNamed : MethodName := ⟨RX7, "fieldNamed", "(I)I"⟩
abbrev cX7_addField : ByteArray := prog_9_method_6_code
def yX7_addField : MethodName := ⟨RX7, "addField", "(IIJ)I"⟩
abbrev cX7_removeField : ByteArray := prog_9_method_7_code
def yX7_removeField : MethodName := ⟨RX7, "removeField", "(I)V"⟩
def RX8 : String := "StateRecords"
def TX8 : u_T := fun k => match k with
  | 0 => ("StateRecords", "types", "[LStateRecords$Type;", true)
  | 1 => ("StateRecords", "typeCount", "I", false)
  | 2 => ("StateRecords", "things", "[LStateRecords$Thing;", true)
  | 3 => ("StateRecords", "thingCount", "I", false)
  | 4 => ("StateRecords", "wordsInUse", "[Z", true)
  | 5 => ("StateRecords", "saves", "[LStateRecords$Records;", true)
  | 6 => ("StateRecords", "spare", "LStateRecords$Records;", false)
  | 7 => ("StateRecords", "secondSpare", "LStateRecords$Records;", true)
  | 8 => ("StateRecords", "recorded", "[LStateRecords$Thing;", true)
  | 9 => ("StateRecords", "rowsPutBack", "[LStateRecords$Row;", true)
  | 10 => ("StateRecords", "journal", "LStateRecords$Journal;", true)
  | _ => ("StateRecords", "latestFault", "LStateRecords$Fault;", true)
def tyX8 : Nat → FieldType := fun k => match k with
  | 0 => .array (.object "StateRecords$Type")
  | 1 => .int
  | 2 => .array (.object "StateRecords$Thing")
  | 3 => .int
  | 4 => .array .boolean
  | 5 => .array (.object "StateRecords$Records")
  | 6 => .object "StateRecords$Records"
  | 7 => .object "StateRecords$Records"
  | 8 => .array (.object "StateRecords$Thing")
  | 9 => .array (.object "StateRecords$Row")
  | 10 => .object "StateRecords$Journal"
  | _ => .object "StateRecords$Fault"
abbrev wsX80 : List Cond := u_ws RX8 TX8 12
theorem nmX8 : ∀ a, a < 12 → ∀ b, b < 12 → a ≠ b → (TX8 a).2.1 ≠ (TX8 b).2.1 := nm_of [500253615475, 2148572917966596042356, 127991794263923, 549720570519705389198964, 564017442893646756410213, 495556388211, 495806673509, 139505262527580981682074213, 8243104023283262820, 138343929587481482660766571, 29958897753022828, 131024205199845322546048116] (by decide +kernel) (by decide +kernel)
theorem tyX8_ok : ∀ k, k < 12 → parseFieldDescriptor (TX8 k).2.2.1 = some (tyX8 k) := by decide +kernel
abbrev cX8_init : ByteArray := prog_1_method_1_code
def yX8_init : MethodName := ⟨RX8, "<init>", "()V"⟩
abbrev cX8_type : ByteArray := prog_1_method_2_code
def yX8_type : MethodName := ⟨RX8, "type", "()I"⟩
abbrev cX8_field : ByteArray := prog_1_method_3_code
def yX8_field : MethodName := ⟨RX8, "field", "(IIIJ)I"⟩
abbrev cX8_drop : ByteArray := prog_1_method_4_code
def yX8_drop : MethodName := ⟨RX8, "drop", "(II)I"⟩
abbrev cX8_shut : ByteArray := prog_1_method_5_code
def yX8_shut : MethodName := ⟨RX8, "shut", "(IIZ)I"⟩
abbrev cX8_check : ByteArray := prog_1_method_6_code
def yX8_check : MethodName := ⟨RX8, "check", "(IIIIJ)I"⟩
abbrev cX8_unchecked : ByteArray := prog_1_method_7_code
def yX8_unchecked : MethodName := ⟨RX8, "unchecked", "(I)I"⟩
abbrev cX8_word : ByteArray := prog_1_method_8_code
def yX8_word : MethodName := ⟨RX8, "word", "(IZ)I"⟩
abbrev cX8_thing : ByteArray := prog_1_method_9_code
def yX8_thing : MethodName := ⟨RX8, "thing", "(I)I"⟩
abbrev cX8_put : ByteArray := prog_1_method_10_code
def yX8_put : MethodName := ⟨RX8, "put", "(IIJ)I"⟩
abbrev cX8_refer : ByteArray := prog_1_method_11_code
def yX8_refer : MethodName := ⟨RX8, "refer", "(III)I"⟩
abbrev cX8_row : ByteArray := prog_1_method_12_code
def yX8_row : MethodName := ⟨RX8, "row", "(III)I"⟩
abbrev cX8_share : ByteArray := prog_1_method_13_code
def yX8_share : MethodName := ⟨RX8, "share", "(IIII)I"⟩
abbrev cX8_item : ByteArray := prog_1_method_14_code
def yX8_item : MethodName := ⟨RX8, "item", "(IIIJ)I"⟩
abbrev cX8_at : ByteArray := prog_1_method_15_code
def yX8_at : MethodName := ⟨RX8, "at", "(II)J"⟩
abbrev cX8_itemAt : ByteArray := prog_1_method_16_code
def yX8_itemAt : MethodName := ⟨RX8, "itemAt", "(III)J"⟩
abbrev cX8_forget : ByteArray := prog_1_method_17_code
def yX8_forget : MethodName := ⟨RX8, "forget", "()I"⟩
abbrev cX8_told : ByteArray := prog_1_method_18_code
def yX8_told : MethodName := ⟨RX8, "told", "(II)I"⟩
abbrev cX8_judge : ByteArray := prog_1_method_19_code
def yX8_judge : MethodName := ⟨RX8, "judge", "(I)I"⟩
abbrev cX8_save : ByteArray := prog_1_method_20_code
def yX8_save : MethodName := ⟨RX8, "save", "(II)I"⟩
abbrev cX8_saved : ByteArray := prog_1_method_21_code
def yX8_saved : MethodName := ⟨RX8, "saved", "(II)I"⟩
abbrev cX8_restore : ByteArray := prog_1_method_22_code
def yX8_restore : MethodName := ⟨RX8, "restore", "(II)I"⟩
abbrev cX8_fault : ByteArray := prog_1_method_23_code
def yX8_fault : MethodName := ⟨RX8, "fault", "(I)I"⟩
abbrev cX8_like : ByteArray := prog_1_method_24_code
def yX8_like : MethodName := ⟨RX8, "like", "(II)I"⟩
abbrev cX8_differs : ByteArray := prog_1_method_25_code
def yX8_differs : MethodName := ⟨RX8, "differs", "(II)I"⟩
abbrev cX8_mark : ByteArray := prog_1_method_26_code
def yX8_mark : MethodName := ⟨RX8, "mark", "()I"⟩
abbrev cX8_undo : ByteArray := prog_1_method_27_code
def yX8_undo : MethodName := ⟨RX8, "undo", "()I"⟩
abbrev cX8_count : ByteArray := prog_1_method_28_code
def yX8_count : MethodName := ⟨RX8, "count", "(I)I"⟩
abbrev cX8_isBelow : ByteArray := prog_1_method_29_code
def yX8_isBelow : MethodName := ⟨RX8, "isBelow", "(II)Z"⟩
abbrev cX8_isRowLane : ByteArray := prog_1_method_30_code
def yX8_isRowLane : MethodName := ⟨RX8, "isRowLane", "(I)Z"⟩
abbrev cX8_failed : ByteArray := prog_1_method_31_code
def yX8_failed : MethodName := ⟨RX8, "failed", "(I)I"⟩
abbrev cX8_isWordInUse : ByteArray := prog_1_method_32_code
def yX8_isWordInUse : MethodName := ⟨RX8, "isWordInUse", "(J)Z"⟩
abbrev cX8_typeNumbered : ByteArray := prog_1_method_33_code
def yX8_typeNumbered : MethodName := ⟨RX8, "typeNumbered", "(I)LStateRecords$Type;"⟩
abbrev cX8_thingNumbered : ByteArray := prog_1_method_34_code
def yX8_thingNumbered : MethodName := ⟨RX8, "thingNumbered", "(J)LStateRecords$Thing;"⟩
abbrev cX8_thingWithField : ByteArray := prog_1_method_35_code
def yX8_thingWithField : MethodName := ⟨RX8, "thingWithField", "(II)LStateRecords$Thing;"⟩
abbrev cX8_lowestBits : ByteArray := prog_1_method_36_code
def yX8_lowestBits : MethodName := ⟨RX8, "lowestBits", "(JI)J"⟩
abbrev cX8_changeValue : ByteArray := prog_1_method_37_code
def yX8_changeValue : MethodName := ⟨RX8, "changeValue", "(LStateRecords$Thing;IJ)I"⟩
abbrev cX8_changeRow : ByteArray := prog_1_method_38_code
def yX8_changeRow : MethodName := ⟨RX8, "changeRow", "(LStateRecords$Thing;ILStateRecords$Row;)I"⟩
abbrev cX8_firstFailingCheck : ByteArray := prog_1_method_39_code
def yX8_firstFailingCheck : MethodName := ⟨RX8, "firstFailingCheck", "(LStateRecords$Thing;)I"⟩
abbrev cX8_failureOf : ByteArray := prog_1_method_40_code
def yX8_failureOf : MethodName := ⟨RX8, "failureOf", "(LStateRecords$Thing;LStateRecords$Check;)I"⟩
abbrev cX8_failureOfDivides : ByteArray := prog_1_method_41_code
def yX8_failureOfDivides : MethodName := ⟨RX8, "failureOfDivides", "(LStateRecords$Thing;LStateRecords$Check;)I"⟩
abbrev cX8_failureOfMeets : ByteArray := prog_1_method_42_code
def yX8_failureOfMeets : MethodName := ⟨RX8, "failureOfMeets", "(LStateRecords$Thing;LStateRecords$Check;)I"⟩
abbrev cX8_failureOfHas : ByteArray := prog_1_method_43_code
def yX8_failureOfHas : MethodName := ⟨RX8, "failureOfHas", "(LStateRecords$Thing;LStateRecords$Check;)I"⟩
abbrev cX8_failureOfHolds : ByteArray := prog_1_method_44_code
def yX8_failureOfHolds : MethodName := ⟨RX8, "failureOfHolds", "(LStateRecords$Thing;LStateRecords$Check;)I"⟩
abbrev cX8_failureOfLeast : ByteArray := prog_1_method_45_code
def yX8_failureOfLeast : MethodName := ⟨RX8, "failureOfLeast", "(LStateRecords$Thing;LStateRecords$Check;)I"⟩
abbrev cX8_failureOfLeads : ByteArray := prog_1_method_46_code
def yX8_failureOfLeads : MethodName := ⟨RX8, "failureOfLeads", "(LStateRecords$Thing;LStateRecords$Check;)I"⟩
abbrev cX8_recordFrom : ByteArray := prog_1_method_47_code
def yX8_recordFrom : MethodName := ⟨RX8, "recordFrom", "(LStateRecords$Thing;LStateRecords$Records;)V"⟩
abbrev cX8_forgetNumbers : ByteArray := prog_1_method_48_code
def yX8_forgetNumbers : MethodName := ⟨RX8, "forgetNumbers", "()V"⟩
abbrev cX8_recordNumberOf : ByteArray := prog_1_method_49_code
def yX8_recordNumberOf : MethodName := ⟨RX8, "recordNumberOf", "(LStateRecords$Thing;LStateRecords$Records;)I"⟩
abbrev cX8_recordFields : ByteArray := prog_1_method_50_code
def yX8_recordFields : MethodName := ⟨RX8, "recordFields", "(LStateRecords$Thing;ILStateRecords$Records;)V"⟩
abbrev cX8_recordedValue : ByteArray := prog_1_method_51_code
def yX8_recordedValue : MethodName := ⟨RX8, "recordedValue", "(LStateRecords$Thing;ILStateRecords$Records;)J"⟩
abbrev cX8_firstShutSlot : ByteArray := prog_1_method_52_code
def yX8_firstShutSlot : MethodName := ⟨RX8, "firstShutSlot", "(LStateRecords$Records;)I"⟩
abbrev cX8_firstDifference : ByteArray := prog_1_method_53_code
def yX8_firstDifference : MethodName := ⟨RX8, "firstDifference", "(LStateRecords$Records;LStateRecords$Records;)I"⟩
abbrev cX8_addThings : ByteArray := prog_1_method_54_code
def yX8_addThings : MethodName := ⟨RX8, "addThings", "(LStateRecords$Records;)V"⟩
abbrev cX8_fillThings : ByteArray := prog_1_method_55_code
def yX8_fillThings : MethodName := ⟨RX8, "fillThings", "(LStateRecords$Records;II)I"⟩
abbrev cX8_fillField : ByteArray := prog_1_method_56_code
def yX8_fillField : MethodName := ⟨RX8, "fillField", "(LStateRecords$Thing;LStateRecords$Records;III)I"⟩
abbrev cX8_mayCome : ByteArray := prog_1_method_57_code
def yX8_mayCome : MethodName := ⟨RX8, "mayCome", "(II)Z"⟩
abbrev cX8_rowPutBack : ByteArray := prog_1_method_58_code
def yX8_rowPutBack : MethodName := ⟨RX8, "rowPutBack", "(LStateRecords$Records;II)LStateRecords$Row;"⟩
abbrev cX8_judgeThings : ByteArray := prog_1_method_59_code
def yX8_judgeThings : MethodName := ⟨RX8, "judgeThings", "(I)I"⟩
def RX9 : String := "StateRecordsModel"
def TX9 : u_T := fun k => match k with
  | 0 => ("StateRecordsModel", "code", "I", false)
  | 1 => ("StateRecordsModel", "isOut", "[Z", true)
  | 2 => ("StateRecordsModel", "types", "I", false)
  | 3 => ("StateRecordsModel", "fMany", "[I", true)
  | 4 => ("StateRecordsModel", "fName", "[I", true)
  | 5 => ("StateRecordsModel", "fLane", "[I", true)
  | 6 => ("StateRecordsModel", "fFirst", "[J", true)
  | 7 => ("StateRecordsModel", "fShut", "[Z", true)
  | 8 => ("StateRecordsModel", "cMany", "[I", true)
  | 9 => ("StateRecordsModel", "cKind", "[I", true)
  | 10 => ("StateRecordsModel", "cA", "[I", true)
  | 11 => ("StateRecordsModel", "cB", "[I", true)
  | 12 => ("StateRecordsModel", "cV", "[J", true)
  | 13 => ("StateRecordsModel", "things", "I", false)
  | 14 => ("StateRecordsModel", "xType", "[I", true)
  | 15 => ("StateRecordsModel", "xVal", "[J", true)
  | 16 => ("StateRecordsModel", "rLane", "[I", true)
  | 17 => ("StateRecordsModel", "rMany", "[I", true)
  | 18 => ("StateRecordsModel", "rItems", "[J", true)
  | 19 => ("StateRecordsModel", "rUsed", "[Z", true)
  | 20 => ("StateRecordsModel", "marks", "I", false)
  | 21 => ("StateRecordsModel", "markAt", "[I", true)
  | 22 => ("StateRecordsModel", "notes", "I", false)
  | 23 => ("StateRecordsModel", "noteThing", "[I", true)
  | 24 => ("StateRecordsModel", "noteField", "[I", true)
  | 25 => ("StateRecordsModel", "noteRow", "[I", true)
  | 26 => ("StateRecordsModel", "noteItem", "[I", true)
  | 27 => ("StateRecordsModel", "noteWas", "[J", true)
  | 28 => ("StateRecordsModel", "checkAt", "I", false)
  | 29 => ("StateRecordsModel", "sMany", "[I", true)
  | 30 => ("StateRecordsModel", "sType", "[I", true)
  | 31 => ("StateRecordsModel", "sFields", "[I", true)
  | 32 => ("StateRecordsModel", "sName", "[I", true)
  | 33 => ("StateRecordsModel", "sLane", "[I", true)
  | 34 => ("StateRecordsModel", "sVal", "[J", true)
  | 35 => ("StateRecordsModel", "sRows", "[I", true)
  | 36 => ("StateRecordsModel", "sRowLane", "[I", true)
  | 37 => ("StateRecordsModel", "sRowMany", "[I", true)
  | 38 => ("StateRecordsModel", "sRowItems", "[J", true)
  | 39 => ("StateRecordsModel", "order", "[I", true)
  | 40 => ("StateRecordsModel", "rowOrder", "[I", true)
  | 41 => ("StateRecordsModel", "faultRecord", "I", false)
  | 42 => ("StateRecordsModel", "faultName", "I", false)
  | 43 => ("StateRecordsModel", "faultCheck", "I", false)
  | 44 => ("StateRecordsModel", "back", "[I", true)
  | 45 => ("StateRecordsModel", "mate", "[I", true)
  | 46 => ("StateRecordsModel", "mateBack", "[I", true)
  | 47 => ("StateRecordsModel", "rowMate", "[I", true)
  | 48 => ("StateRecordsModel", "rowMateBack", "[I", true)
  | 49 => ("StateRecordsModel", "queue", "[I", true)
  | _ => ("StateRecordsModel", "queued", "I", false)
def tyX9 : Nat → FieldType := fun k => match k with
  | 0 => .int
  | 1 => .array .boolean
  | 2 => .int
  | 3 => .array .int
  | 4 => .array .int
  | 5 => .array .int
  | 6 => .array .long
  | 7 => .array .boolean
  | 8 => .array .int
  | 9 => .array .int
  | 10 => .array .int
  | 11 => .array .int
  | 12 => .array .long
  | 13 => .int
  | 14 => .array .int
  | 15 => .array .long
  | 16 => .array .int
  | 17 => .array .int
  | 18 => .array .long
  | 19 => .array .boolean
  | 20 => .int
  | 21 => .array .int
  | 22 => .int
  | 23 => .array .int
  | 24 => .array .int
  | 25 => .array .int
  | 26 => .array .int
  | 27 => .array .long
  | 28 => .int
  | 29 => .array .int
  | 30 => .array .int
  | 31 => .array .int
  | 32 => .array .int
  | 33 => .array .int
  | 34 => .array .long
  | 35 => .array .int
  | 36 => .array .int
  | 37 => .array .int
  | 38 => .array .long
  | 39 => .array .int
  | 40 => .array .int
  | 41 => .int
  | 42 => .int
  | 43 => .int
  | 44 => .array .int
  | 45 => .array .int
  | 46 => .array .int
  | 47 => .array .int
  | 48 => .array .int
  | 49 => .array .int
  | _ => .int
abbrev wsX90 : List Cond := u_ws RX9 TX9 51
theorem nmX9 : ∀ a, a < 51 → ∀ b, b < 51 → a ≠ b → (TX9 a).2.1 ≠ (TX9 b).2.1 := nm_of [1668244581, 452906153332, 500253615475, 439384895097, 439401672037, 439368117861, 112452602852212, 439486018932, 426499993209, 426466963044, 25409, 25410, 25430, 127991794263923, 516813320293, 2018926956, 490907725413, 490924502649, 125659810983283, 491059897700, 469786323827, 120265298887028, 474316301683, 2037173003556762512999, 2037173003496649485412, 31084793144962935, 7957707044959839597, 31084793145287027, 27980807363314036, 495219469945, 495338483813, 32447040808838259, 495236246885, 495202692709, 1935040876, 495304275827, 8309826820625231461, 8309826820642008697, 2127315666067492531571, 478660552050, 8245940625843971442, 123770669233549004231373412, 1888590533959115435365, 483479176693486423729003, 1650549611, 1835103333, 7881708801129276267, 32210705535038565, 138343926854076819887448939, 487300887909, 124749027304804] (by decide +kernel) (by decide +kernel)
theorem tyX9_ok : ∀ k, k < 51 → parseFieldDescriptor (TX9 k).2.2.1 = some (tyX9 k) := by decide +kernel
abbrev cX9_init : ByteArray := prog_11_method_1_code
def yX9_init : MethodName := ⟨RX9, "<init>", "()V"⟩
abbrev cX9_isType : ByteArray := prog_11_method_3_code
def yX9_isType : MethodName := ⟨RX9, "isType", "(I)Z"⟩
abbrev cX9_isThing : ByteArray := prog_11_method_4_code
def yX9_isThing : MethodName := ⟨RX9, "isThing", "(I)Z"⟩
abbrev cX9_isField : ByteArray := prog_11_method_5_code
def yX9_isField : MethodName := ⟨RX9, "isField", "(II)Z"⟩
abbrev cX9_lane : ByteArray := prog_11_method_6_code
def yX9_lane : MethodName := ⟨RX9, "lane", "(II)I"⟩
abbrev cX9_named : ByteArray := prog_11_method_7_code
def yX9_named : MethodName := ⟨RX9, "named", "(II)I"⟩
abbrev cX9_type : ByteArray := prog_11_method_8_code
def yX9_type : MethodName := ⟨RX9, "type", "()I"⟩
abbrev cX9_field : ByteArray := prog_11_method_9_code
def yX9_field : MethodName := ⟨RX9, "field", "(IIIJ)I"⟩
abbrev cX9_drop : ByteArray := prog_11_method_10_code
def yX9_drop : MethodName := ⟨RX9, "drop", "(II)I"⟩
abbrev cX9_shut : ByteArray := prog_11_method_11_code
def yX9_shut : MethodName := ⟨RX9, "shut", "(IIZ)I"⟩
abbrev cX9_check : ByteArray := prog_11_method_12_code
def yX9_check : MethodName := ⟨RX9, "check", "(IIIIJ)I"⟩
abbrev cX9_unchecked : ByteArray := prog_11_method_13_code
def yX9_unchecked : MethodName := ⟨RX9, "unchecked", "(I)I"⟩
abbrev cX9_word : ByteArray := prog_11_method_14_code
def yX9_word : MethodName := ⟨RX9, "word", "(IZ)I"⟩
abbrev cX9_newRow : ByteArray := prog_11_method_15_code
def yX9_newRow : MethodName := ⟨RX9, "newRow", "(II)I"⟩
abbrev cX9_cut : ByteArray := prog_11_method_16_code
def yX9_cut : MethodName := ⟨RX9, "cut", "(IJ)J"⟩
abbrev cX9_thing : ByteArray := prog_11_method_17_code
def yX9_thing : MethodName := ⟨RX9, "thing", "(I)I"⟩
abbrev cX9_isFull : ByteArray := prog_11_method_18_code
def yX9_isFull : MethodName := ⟨RX9, "isFull", "()Z"⟩
abbrev cX9_becomes : ByteArray := prog_11_method_19_code
def yX9_becomes : MethodName := ⟨RX9, "becomes", "(IIJ)V"⟩
abbrev cX9_put : ByteArray := prog_11_method_20_code
def yX9_put : MethodName := ⟨RX9, "put", "(IIJ)I"⟩
abbrev cX9_refer : ByteArray := prog_11_method_21_code
def yX9_refer : MethodName := ⟨RX9, "refer", "(III)I"⟩
abbrev cX9_row : ByteArray := prog_11_method_22_code
def yX9_row : MethodName := ⟨RX9, "row", "(III)I"⟩
abbrev cX9_share : ByteArray := prog_11_method_23_code
def yX9_share : MethodName := ⟨RX9, "share", "(IIII)I"⟩
abbrev cX9_item : ByteArray := prog_11_method_24_code
def yX9_item : MethodName := ⟨RX9, "item", "(IIIJ)I"⟩
abbrev cX9_at : ByteArray := prog_11_method_25_code
def yX9_at : MethodName := ⟨RX9, "at", "(II)J"⟩
abbrev cX9_itemAt : ByteArray := prog_11_method_26_code
def yX9_itemAt : MethodName := ⟨RX9, "itemAt", "(III)J"⟩
abbrev cX9_forget : ByteArray := prog_11_method_27_code
def yX9_forget : MethodName := ⟨RX9, "forget", "()I"⟩
abbrev cX9_told : ByteArray := prog_11_method_28_code
def yX9_told : MethodName := ⟨RX9, "told", "(II)I"⟩
abbrev cX9_isLane : ByteArray := prog_11_method_29_code
def yX9_isLane : MethodName := ⟨RX9, "isLane", "(IIII)Z"⟩
abbrev cX9_checked : ByteArray := prog_11_method_30_code
def yX9_checked : MethodName := ⟨RX9, "checked", "(II)I"⟩
abbrev cX9_judged : ByteArray := prog_11_method_31_code
def yX9_judged : MethodName := ⟨RX9, "judged", "(I)I"⟩
abbrev cX9_judge : ByteArray := prog_11_method_32_code
def yX9_judge : MethodName := ⟨RX9, "judge", "(I)I"⟩
abbrev cX9_faulty : ByteArray := prog_11_method_33_code
def yX9_faulty : MethodName := ⟨RX9, "faulty", "(IIII)I"⟩
abbrev cX9_recordOf : ByteArray := prog_11_method_34_code
def yX9_recordOf : MethodName := ⟨RX9, "recordOf", "(II)I"⟩
abbrev cX9_rowOf : ByteArray := prog_11_method_35_code
def yX9_rowOf : MethodName := ⟨RX9, "rowOf", "(II)I"⟩
abbrev cX9_saves : ByteArray := prog_11_method_36_code
def yX9_saves : MethodName := ⟨RX9, "saves", "(IZ)I"⟩
abbrev cX9_isSave : ByteArray := prog_11_method_37_code
def yX9_isSave : MethodName := ⟨RX9, "isSave", "(I)Z"⟩
abbrev cX9_save : ByteArray := prog_11_method_38_code
def yX9_save : MethodName := ⟨RX9, "save", "(II)I"⟩
abbrev cX9_saved : ByteArray := prog_11_method_39_code
def yX9_saved : MethodName := ⟨RX9, "saved", "(II)I"⟩
abbrev cX9_goes : ByteArray := prog_11_method_40_code
def yX9_goes : MethodName := ⟨RX9, "goes", "(II)Z"⟩
abbrev cX9_rowBack : ByteArray := prog_11_method_41_code
def yX9_rowBack : MethodName := ⟨RX9, "rowBack", "(III)I"⟩
abbrev cX9_fieldsBack : ByteArray := prog_11_method_42_code
def yX9_fieldsBack : MethodName := ⟨RX9, "fieldsBack", "(IIII)I"⟩
abbrev cX9_restore : ByteArray := prog_11_method_43_code
def yX9_restore : MethodName := ⟨RX9, "restore", "(II)I"⟩
abbrev cX9_fault : ByteArray := prog_11_method_44_code
def yX9_fault : MethodName := ⟨RX9, "fault", "(I)I"⟩
abbrev cX9_meets : ByteArray := prog_11_method_45_code
def yX9_meets : MethodName := ⟨RX9, "meets", "(II)Z"⟩
abbrev cX9_rowsMeet : ByteArray := prog_11_method_46_code
def yX9_rowsMeet : MethodName := ⟨RX9, "rowsMeet", "(II)Z"⟩
abbrev cX9_like : ByteArray := prog_11_method_47_code
def yX9_like : MethodName := ⟨RX9, "like", "(II)I"⟩
abbrev cX9_rowsDiffer : ByteArray := prog_11_method_48_code
def yX9_rowsDiffer : MethodName := ⟨RX9, "rowsDiffer", "(II)Z"⟩
abbrev cX9_differs : ByteArray := prog_11_method_49_code
def yX9_differs : MethodName := ⟨RX9, "differs", "(II)I"⟩
abbrev cX9_mark : ByteArray := prog_11_method_50_code
def yX9_mark : MethodName := ⟨RX9, "mark", "()I"⟩
abbrev cX9_undo : ByteArray := prog_11_method_51_code
def yX9_undo : MethodName := ⟨RX9, "undo", "()I"⟩
abbrev cX9_count : ByteArray := prog_11_method_52_code
def yX9_count : MethodName := ⟨RX9, "count", "(I)I"⟩
def RJ9 : String := "java/lang/Math"
def TJ9 : u_T := fun k => match k with
  | _ => ("", "", "", false)
def tyJ9 : Nat → FieldType := fun k => match k with
  | _ => .int
abbrev wsJ90 : List Cond := u_ws RJ9 TJ9 0
theorem nmJ9 : ∀ a, a < 0 → ∀ b, b < 0 → a ≠ b → (TJ9 a).2.1 ≠ (TJ9 b).2.1 := by decide +kernel
theorem tyJ9_ok : ∀ k, k < 0 → parseFieldDescriptor (TJ9 k).2.2.1 = some (tyJ9 k) := by decide +kernel
abbrev cJ9_max_7cf53 : ByteArray := prog_16_method_65_code
def yJ9_max_7cf53 : MethodName := ⟨RJ9, "max", "(II)I"⟩
def RJ0 : String := "java/lang/String"
def TJ0 : u_T := fun k => match k with
  | _ => ("", "", "", false)
def tyJ0 : Nat → FieldType := fun k => match k with
  | _ => .int
abbrev wsJ00 : List Cond := u_ws RJ0 TJ0 0
theorem nmJ0 : ∀ a, a < 0 → ∀ b, b < 0 → a ≠ b → (TJ0 a).2.1 ≠ (TJ0 b).2.1 := by decide +kernel
theorem tyJ0_ok : ∀ k, k < 0 → parseFieldDescriptor (TJ0 k).2.2.1 = some (tyJ0 k) := by decide +kernel
def RL : String := "StateRecordsLaw"
abbrev cL_at : ByteArray := method_3_code
def yL_at : MethodName := ⟨RL, "at", "(LStateRecords;II[J)I"⟩
abbrev cL_itemAt : ByteArray := method_4_code
def yL_itemAt : MethodName := ⟨RL, "itemAt", "(LStateRecords;III[J)I"⟩
abbrev cL_law : ByteArray := code
def yL_law : MethodName := ⟨RL, "law", "([I)Z"⟩
noncomputable def wsX0_init : List Cond := .code yX0_init cX0_init 6 none :: (([.methodLink RX0 1 objectInit, .instanceMethod objectInit, .code objectInit ⟨#[0xb1]⟩ 1 none, .fieldLink RX0 7 "StateRecords$Check" "kind" "I", .fieldLink RX0 13 "StateRecords$Check" "a" "I", .fieldLink RX0 16 "StateRecords$Check" "b" "I", .fieldLink RX0 19 "StateRecords$Check" "v" "J"] : List Cond) ++ wsX00)
noncomputable def wsX1_init : List Cond := .code yX1_init cX1_init 1 none :: ([.methodLink RX1 1 objectInit, .instanceMethod objectInit, .code objectInit ⟨#[0xb1]⟩ 1 none])
noncomputable def wsX1_tell : List Cond := .code yX1_tell cX1_tell 4 none :: (([.fieldLink RX1 7 "StateRecords$Fault" "isTold" "Z", .fieldLink RX1 13 "StateRecords$Fault" "record" "I", .fieldLink RX1 17 "StateRecords$Fault" "name" "I", .fieldLink RX1 20 "StateRecords$Fault" "check" "I"] : List Cond) ++ wsX10)
noncomputable def wsX3_init : List Cond := .code yX3_init cX3_init 1 none :: ([.methodLink RX3 1 objectInit, .instanceMethod objectInit, .code objectInit ⟨#[0xb1]⟩ 1 none])
noncomputable def wsX2_init : List Cond := .code yX2_init cX2_init 2 none :: (([.methodLink RX2 3 objectInit, .instanceMethod objectInit, .code objectInit ⟨#[0xb1]⟩ 1 none, .classLink RX2 9 RX3, .fieldLink RX2 11 "StateRecords$Journal" "notes" "[LStateRecords$Note;", .arrayClass .int, .fieldLink RX2 17 "StateRecords$Journal" "starts" "[I", .instantiable RX3 4, .initialized RX3, .instanceMethod yX3_init, .code yX3_init cX3_init 1 none, .methodLink RX3 1 objectInit] : List Cond) ++ wsX20 ++ wsX30)
noncomputable def wsX2_isFull : List Cond := .code yX2_isFull cX2_isFull 1 (some .boolean) :: (([.fieldLink RX2 22 "StateRecords$Journal" "noteCount" "I"] : List Cond) ++ wsX20)
noncomputable def wsX2_write : List Cond := .code yX2_write cX2_write 7 none :: (([.fieldLink RX2 45 "StateRecords$Journal" "markCount" "I", .fieldLink RX2 11 "StateRecords$Journal" "notes" "[LStateRecords$Note;", .fieldLink RX2 22 "StateRecords$Journal" "noteCount" "I", .fieldLink RX2 52 "StateRecords$Note" "thing" "LStateRecords$Thing;", .fieldLink RX2 56 "StateRecords$Note" "index" "I", .fieldLink RX2 59 "StateRecords$Note" "value" "J", .fieldLink RX2 63 "StateRecords$Note" "row" "LStateRecords$Row;", .methodLink RX2 48 yX2_isFull, .instanceMethod yX2_isFull, .selects RX2 yX2_isFull yX2_isFull, .initialized RX2, .code yX2_isFull cX2_isFull 1 (some .boolean)] : List Cond) ++ wsX20 ++ wsX30)
noncomputable def wsX2_noteField : List Cond := .code yX2_noteField cX2_noteField 3 none :: (([.fieldLink RX2 26 "StateRecords$Thing" "values" "[J", .fieldLink RX2 32 "StateRecords$Thing" "rows" "[LStateRecords$Row;", .methodLink RX2 36 yX2_write, .instanceMethod yX2_write, .selects RX2 yX2_write yX2_write, .initialized RX2, .code yX2_write cX2_write 7 none, .fieldLink RX2 45 "StateRecords$Journal" "markCount" "I", .fieldLink RX2 11 "StateRecords$Journal" "notes" "[LStateRecords$Note;", .fieldLink RX2 22 "StateRecords$Journal" "noteCount" "I", .fieldLink RX2 52 "StateRecords$Note" "thing" "LStateRecords$Thing;", .fieldLink RX2 56 "StateRecords$Note" "index" "I", .fieldLink RX2 59 "StateRecords$Note" "value" "J", .fieldLink RX2 63 "StateRecords$Note" "row" "LStateRecords$Row;", .methodLink RX2 48 yX2_isFull, .instanceMethod yX2_isFull, .selects RX2 yX2_isFull yX2_isFull, .code yX2_isFull cX2_isFull 1 (some .boolean)] : List Cond) ++ wsX60 ++ wsX20 ++ wsX30)
noncomputable def wsX2_noteItem : List Cond := .code yX2_noteItem cX2_noteItem 3 none :: (([.fieldLink RX2 40 "StateRecords$Row" "items" "[J", .methodLink RX2 36 yX2_write, .instanceMethod yX2_write, .selects RX2 yX2_write yX2_write, .initialized RX2, .code yX2_write cX2_write 7 none, .fieldLink RX2 45 "StateRecords$Journal" "markCount" "I", .fieldLink RX2 11 "StateRecords$Journal" "notes" "[LStateRecords$Note;", .fieldLink RX2 22 "StateRecords$Journal" "noteCount" "I", .fieldLink RX2 52 "StateRecords$Note" "thing" "LStateRecords$Thing;", .fieldLink RX2 56 "StateRecords$Note" "index" "I", .fieldLink RX2 59 "StateRecords$Note" "value" "J", .fieldLink RX2 63 "StateRecords$Note" "row" "LStateRecords$Row;", .methodLink RX2 48 yX2_isFull, .instanceMethod yX2_isFull, .selects RX2 yX2_isFull yX2_isFull, .code yX2_isFull cX2_isFull 1 (some .boolean)] : List Cond) ++ wsX50 ++ wsX20 ++ wsX30)
noncomputable def wsX2_addMark : List Cond := .code yX2_addMark cX2_addMark 1 none :: (([.fieldLink RX2 17 "StateRecords$Journal" "starts" "[I", .fieldLink RX2 45 "StateRecords$Journal" "markCount" "I", .fieldLink RX2 22 "StateRecords$Journal" "noteCount" "I"] : List Cond) ++ wsX20)
noncomputable def wsX3_takeBack : List Cond := .code yX3_takeBack cX3_takeBack 1 none :: (([.fieldLink RX3 7 "StateRecords$Note" "thing" "LStateRecords$Thing;", .fieldLink RX3 13 "StateRecords$Thing" "values" "[J", .fieldLink RX3 19 "StateRecords$Note" "index" "I", .fieldLink RX3 23 "StateRecords$Note" "value" "J", .fieldLink RX3 27 "StateRecords$Thing" "rows" "[LStateRecords$Row;", .fieldLink RX3 31 "StateRecords$Note" "row" "LStateRecords$Row;", .fieldLink RX3 35 "StateRecords$Row" "items" "[J"] : List Cond) ++ wsX30 ++ wsX60 ++ wsX50)
noncomputable def wsX2_undoLatestMark : List Cond := .code yX2_undoLatestMark cX2_undoLatestMark 4 (some .int) :: (([.fieldLink RX2 45 "StateRecords$Journal" "markCount" "I", .fieldLink RX2 17 "StateRecords$Journal" "starts" "[I", .fieldLink RX2 22 "StateRecords$Journal" "noteCount" "I", .fieldLink RX2 11 "StateRecords$Journal" "notes" "[LStateRecords$Note;", .methodLink RX2 67 yX3_takeBack, .instanceMethod yX3_takeBack, .selects RX3 yX3_takeBack yX3_takeBack, .initialized RX3, .code yX3_takeBack cX3_takeBack 1 none, .fieldLink RX3 7 "StateRecords$Note" "thing" "LStateRecords$Thing;", .fieldLink RX3 13 "StateRecords$Thing" "values" "[J", .fieldLink RX3 19 "StateRecords$Note" "index" "I", .fieldLink RX3 23 "StateRecords$Note" "value" "J", .fieldLink RX3 27 "StateRecords$Thing" "rows" "[LStateRecords$Row;", .fieldLink RX3 31 "StateRecords$Note" "row" "LStateRecords$Row;", .fieldLink RX3 35 "StateRecords$Row" "items" "[J"] : List Cond) ++ wsX20 ++ wsX30 ++ wsX60 ++ wsX50)
noncomputable def wsX4_init : List Cond := .code yX4_init cX4_init 1 none :: (([.methodLink RX4 3 objectInit, .instanceMethod objectInit, .code objectInit ⟨#[0xb1]⟩ 1 none, .arrayClass .int, .fieldLink RX4 9 "StateRecords$Records" "types" "[I", .fieldLink RX4 15 "StateRecords$Records" "fieldCounts" "[I", .fieldLink RX4 18 "StateRecords$Records" "names" "[I", .fieldLink RX4 21 "StateRecords$Records" "lanes" "[I", .arrayClass .long, .fieldLink RX4 24 "StateRecords$Records" "values" "[J", .fieldLink RX4 28 "StateRecords$Records" "rowLengths" "[I", .fieldLink RX4 31 "StateRecords$Records" "items" "[J"] : List Cond) ++ wsX40)
noncomputable def wsX4_numberOf : List Cond := .code yX4_numberOf cX4_numberOf 3 (some .int) :: (([.fieldLink RX4 34 "StateRecords$Row" "number" "I", .fieldLink RX4 40 "StateRecords$Records" "rowCount" "I", .fieldLink RX4 28 "StateRecords$Records" "rowLengths" "[I", .fieldLink RX4 43 "StateRecords$Row" "items" "[J", .fieldLink RX4 31 "StateRecords$Records" "items" "[J"] : List Cond) ++ wsX50 ++ wsX40)
noncomputable def wsX5_init : List Cond := .code yX5_init cX5_init 2 none :: (([.methodLink RX5 1 objectInit, .instanceMethod objectInit, .code objectInit ⟨#[0xb1]⟩ 1 none, .arrayClass .long, .fieldLink RX5 7 "StateRecords$Row" "items" "[J"] : List Cond) ++ wsX50)
noncomputable def wsX4_copyOfRow : List Cond := .code yX4_copyOfRow cX4_copyOfRow 4 (some (.object "StateRecords$Row")) :: (([.classLink RX4 35 RX5, .instantiable RX5 2, .initialized RX5, .fieldLink RX4 28 "StateRecords$Records" "rowLengths" "[I", .fieldLink RX4 43 "StateRecords$Row" "items" "[J", .fieldLink RX4 31 "StateRecords$Records" "items" "[J", .methodLink RX4 44 yX5_init, .instanceMethod yX5_init, .code yX5_init cX5_init 2 none, .methodLink RX5 1 objectInit, .instanceMethod objectInit, .code objectInit ⟨#[0xb1]⟩ 1 none, .arrayClass .long, .fieldLink RX5 7 "StateRecords$Row" "items" "[J"] : List Cond) ++ wsX50 ++ wsX40)
noncomputable def wsX4_hasShapeOf : List Cond := .code yX4_hasShapeOf cX4_hasShapeOf 5 (some .boolean) :: (([.fieldLink RX4 47 "StateRecords$Records" "recordCount" "I", .fieldLink RX4 9 "StateRecords$Records" "types" "[I", .fieldLink RX4 15 "StateRecords$Records" "fieldCounts" "[I", .fieldLink RX4 18 "StateRecords$Records" "names" "[I", .fieldLink RX4 21 "StateRecords$Records" "lanes" "[I"] : List Cond) ++ wsX40)
noncomputable def wsX8_isRowLane : List Cond := .code yX8_isRowLane cX8_isRowLane 1 (some .boolean) :: ([])
noncomputable def wsX4_hasItemsOf : List Cond := .code yX4_hasItemsOf cX4_hasItemsOf 4 (some .boolean) :: (([.fieldLink RX4 28 "StateRecords$Records" "rowLengths" "[I", .fieldLink RX4 31 "StateRecords$Records" "items" "[J"] : List Cond) ++ wsX40)
noncomputable def wsX4_hasValueOf : List Cond := .code yX4_hasValueOf cX4_hasValueOf 5 (some .boolean) :: (([.fieldLink RX4 24 "StateRecords$Records" "values" "[J", .fieldLink RX4 21 "StateRecords$Records" "lanes" "[I", .constantLong RX4 54 (-1), .static yX8_isRowLane, .initialized RX8, .code yX8_isRowLane cX8_isRowLane 1 (some .boolean), .methodLink RX4 56 yX4_hasItemsOf, .instanceMethod yX4_hasItemsOf, .selects RX4 yX4_hasItemsOf yX4_hasItemsOf, .initialized RX4, .code yX4_hasItemsOf cX4_hasItemsOf 4 (some .boolean), .fieldLink RX4 28 "StateRecords$Records" "rowLengths" "[I", .fieldLink RX4 31 "StateRecords$Records" "items" "[J"] : List Cond) ++ wsX40)
noncomputable def wsX6_init : List Cond := .code yX6_init cX6_init 1 none :: (([.methodLink RX6 3 objectInit, .instanceMethod objectInit, .code objectInit ⟨#[0xb1]⟩ 1 none, .arrayClass .long, .fieldLink RX6 9 "StateRecords$Thing" "values" "[J", .classLink RX6 15 RX5, .fieldLink RX6 17 "StateRecords$Thing" "rows" "[LStateRecords$Row;"] : List Cond) ++ wsX60)
noncomputable def wsX6_setDefault : List Cond := .code yX6_setDefault cX6_setDefault 2 none :: (([.fieldLink RX6 9 "StateRecords$Thing" "values" "[J", .fieldLink RX6 21 "StateRecords$Thing" "type" "LStateRecords$Type;", .fieldLink RX6 35 "StateRecords$Type" "defaults" "[J", .fieldLink RX6 17 "StateRecords$Thing" "rows" "[LStateRecords$Row;"] : List Cond) ++ wsX60 ++ wsX70)
noncomputable def wsX6_become : List Cond := .code yX6_become cX6_become 3 none :: (([.fieldLink RX6 21 "StateRecords$Thing" "type" "LStateRecords$Type;", .fieldLink RX6 25 "StateRecords$Type" "fieldCount" "I", .methodLink RX6 31 yX6_setDefault, .instanceMethod yX6_setDefault, .selects RX6 yX6_setDefault yX6_setDefault, .initialized RX6, .code yX6_setDefault cX6_setDefault 2 none, .fieldLink RX6 9 "StateRecords$Thing" "values" "[J", .fieldLink RX6 35 "StateRecords$Type" "defaults" "[J", .fieldLink RX6 17 "StateRecords$Thing" "rows" "[LStateRecords$Row;"] : List Cond) ++ wsX60 ++ wsX70)
noncomputable def wsX6_removeField : List Cond := .code yX6_removeField cX6_removeField 3 none :: (([.fieldLink RX6 9 "StateRecords$Thing" "values" "[J", .fieldLink RX6 17 "StateRecords$Thing" "rows" "[LStateRecords$Row;"] : List Cond) ++ wsX60)
noncomputable def wsX6_forgetNumbers : List Cond := .code yX6_forgetNumbers cX6_forgetNumbers 2 none :: (([.fieldLink RX6 38 "StateRecords$Thing" "recordNumber" "I", .fieldLink RX6 21 "StateRecords$Thing" "type" "LStateRecords$Type;", .fieldLink RX6 25 "StateRecords$Type" "fieldCount" "I", .fieldLink RX6 17 "StateRecords$Thing" "rows" "[LStateRecords$Row;", .fieldLink RX6 41 "StateRecords$Row" "number" "I"] : List Cond) ++ wsX60 ++ wsX70 ++ wsX50)
noncomputable def wsX7_init : List Cond := .code yX7_init cX7_init 2 none :: (([.methodLink RX7 3 objectInit, .instanceMethod objectInit, .code objectInit ⟨#[0xb1]⟩ 1 none, .arrayClass .int, .fieldLink RX7 9 "StateRecords$Type" "names" "[I", .fieldLink RX7 15 "StateRecords$Type" "lanes" "[I", .arrayClass .long, .fieldLink RX7 18 "StateRecords$Type" "defaults" "[J", .arrayClass .boolean, .fieldLink RX7 22 "StateRecords$Type" "shuts" "[Z", .classLink RX7 26 RX0, .fieldLink RX7 28 "StateRecords$Type" "checks" "[LStateRecords$Check;", .fieldLink RX7 32 "StateRecords$Type" "number" "I"] : List Cond) ++ wsX70)
noncomputable def wsX8_isBelow : List Cond := .code yX8_isBelow cX8_isBelow 2 (some .boolean) :: ([])
noncomputable def wsX7_hasField : List Cond := .code yX7_hasField cX7_hasField 2 (some .boolean) :: (([.fieldLink RX7 36 "StateRecords$Type" "fieldCount" "I", .static yX8_isBelow, .initialized RX8, .code yX8_isBelow cX8_isBelow 2 (some .boolean)] : List Cond) ++ wsX70)
noncomputable def wsX7_hasLane : List Cond := .code yX7_hasLane cX7_hasLane 3 (some .boolean) :: (([.fieldLink RX7 15 "StateRecords$Type" "lanes" "[I", .methodLink RX7 43 yX7_hasField, .instanceMethod yX7_hasField, .selects RX7 yX7_hasField yX7_hasField, .initialized RX7, .code yX7_hasField cX7_hasField 2 (some .boolean), .fieldLink RX7 36 "StateRecords$Type" "fieldCount" "I", .static yX8_isBelow, .initialized RX8, .code yX8_isBelow cX8_isBelow 2 (some .boolean)] : List Cond) ++ wsX70)
noncomputable def wsX7_hasRowLane : List Cond := .code yX7_hasRowLane cX7_hasRowLane 2 (some .boolean) :: (([.fieldLink RX7 15 "StateRecords$Type" "lanes" "[I", .methodLink RX7 43 yX7_hasField, .instanceMethod yX7_hasField, .selects RX7 yX7_hasField yX7_hasField, .initialized RX7, .code yX7_hasField cX7_hasField 2 (some .boolean), .fieldLink RX7 36 "StateRecords$Type" "fieldCount" "I", .static yX8_isBelow, .initialized RX8, .code yX8_isBelow cX8_isBelow 2 (some .boolean), .static yX8_isRowLane, .code yX8_isRowLane cX8_isRowLane 1 (some .boolean)] : List Cond) ++ wsX70)
noncomputable def wsX7_fieldNamed : List Cond := .code yX7_fieldNamed cX7_fieldNamed 3 (some .int) :: (([.fieldLink RX7 36 "StateRecords$Type" "fieldCount" "I", .fieldLink RX7 9 "StateRecords$Type" "names" "[I"] : List Cond) ++ wsX70)
noncomputable def wsX7_addField : List Cond := .code yX7_addField cX7_addField 6 (some .int) :: (([.fieldLink RX7 36 "StateRecords$Type" "fieldCount" "I", .fieldLink RX7 9 "StateRecords$Type" "names" "[I", .fieldLink RX7 15 "StateRecords$Type" "lanes" "[I", .fieldLink RX7 18 "StateRecords$Type" "defaults" "[J", .fieldLink RX7 22 "StateRecords$Type" "shuts" "[Z"] : List Cond) ++ wsX70)
noncomputable def wsX7_removeField : List Cond := .code yX7_removeField cX7_removeField 3 none :: (([.fieldLink RX7 36 "StateRecords$Type" "fieldCount" "I", .fieldLink RX7 9 "StateRecords$Type" "names" "[I", .fieldLink RX7 15 "StateRecords$Type" "lanes" "[I", .fieldLink RX7 18 "StateRecords$Type" "defaults" "[J", .fieldLink RX7 22 "StateRecords$Type" "shuts" "[Z"] : List Cond) ++ wsX70)
noncomputable def wsX8_init_r1 : List Cond := [Cond.methodLink RX8 3 objectInit, Cond.instanceMethod objectInit, Cond.code objectInit ⟨#[0xb1]⟩ 1 none, Cond.classLink RX8 9 RX7, Cond.fieldLink RX8 11 "StateRecords" "types" "[LStateRecords$Type;", Cond.classLink RX8 15 RX6, Cond.fieldLink RX8 17 "StateRecords" "things" "[LStateRecords$Thing;", Cond.arrayClass .boolean, Cond.fieldLink RX8 21 "StateRecords" "wordsInUse" "[Z", Cond.classLink RX8 25 RX4, Cond.fieldLink RX8 27 "StateRecords" "saves" "[LStateRecords$Records;", Cond.instantiable RX4 9, Cond.initialized RX4, Cond.fieldLink RX8 32 "StateRecords" "spare" "LStateRecords$Records;", Cond.fieldLink RX8 36 "StateRecords" "secondSpare" "LStateRecords$Records;", Cond.fieldLink RX8 39 "StateRecords" "recorded" "[LStateRecords$Thing;", Cond.classLink RX8 42 RX5, Cond.fieldLink RX8 44 "StateRecords" "rowsPutBack" "[LStateRecords$Row;", Cond.classLink RX8 48 RX2, Cond.instantiable RX2 4, Cond.initialized RX2, Cond.fieldLink RX8 51 "StateRecords" "journal" "LStateRecords$Journal;", Cond.classLink RX8 55 RX1, Cond.instantiable RX1 4]
noncomputable def wsX8_init_r2 : List Cond := [Cond.initialized RX1, Cond.fieldLink RX8 58 "StateRecords" "latestFault" "LStateRecords$Fault;", Cond.instantiable RX6 4, Cond.initialized RX6, Cond.instanceMethod yX4_init, Cond.code yX4_init cX4_init 1 none, Cond.methodLink RX4 3 objectInit, Cond.arrayClass .int, Cond.fieldLink RX4 9 "StateRecords$Records" "types" "[I", Cond.fieldLink RX4 15 "StateRecords$Records" "fieldCounts" "[I", Cond.fieldLink RX4 18 "StateRecords$Records" "names" "[I", Cond.fieldLink RX4 21 "StateRecords$Records" "lanes" "[I", Cond.arrayClass .long, Cond.fieldLink RX4 24 "StateRecords$Records" "values" "[J", Cond.fieldLink RX4 28 "StateRecords$Records" "rowLengths" "[I", Cond.fieldLink RX4 31 "StateRecords$Records" "items" "[J", Cond.methodLink RX8 50 yX2_init, Cond.instanceMethod yX2_init, Cond.code yX2_init cX2_init 2 none, Cond.methodLink RX2 3 objectInit, Cond.classLink RX2 9 RX3, Cond.fieldLink RX2 11 "StateRecords$Journal" "notes" "[LStateRecords$Note;", Cond.fieldLink RX2 17 "StateRecords$Journal" "starts" "[I", Cond.instantiable RX3 4]
noncomputable def wsX8_init_r3 : List Cond := [Cond.initialized RX3, Cond.instanceMethod yX3_init, Cond.code yX3_init cX3_init 1 none, Cond.methodLink RX3 1 objectInit, Cond.instanceMethod yX1_init, Cond.code yX1_init cX1_init 1 none, Cond.methodLink RX1 1 objectInit, Cond.instanceMethod yX6_init, Cond.code yX6_init cX6_init 1 none, Cond.methodLink RX6 3 objectInit, Cond.fieldLink RX6 9 "StateRecords$Thing" "values" "[J", Cond.classLink RX6 15 RX5, Cond.fieldLink RX6 17 "StateRecords$Thing" "rows" "[LStateRecords$Row;"]
noncomputable def wsX8_init : List Cond := .code yX8_init cX8_init 2 none :: ((wsX8_init_r1 ++ (wsX8_init_r2 ++ wsX8_init_r3)) ++ wsX80 ++ wsX40 ++ wsX20 ++ wsX10 ++ wsX60 ++ wsX30)
noncomputable def wsX8_type : List Cond := .code yX8_type cX8_type 1 (some .int) :: (([.fieldLink RX8 63 "StateRecords" "typeCount" "I", .fieldLink RX8 11 "StateRecords" "types" "[LStateRecords$Type;", .classLink RX8 9 RX7, .instantiable RX7 8, .initialized RX7, .methodLink RX8 67 yX7_init, .instanceMethod yX7_init, .code yX7_init cX7_init 2 none, .methodLink RX7 3 objectInit, .instanceMethod objectInit, .code objectInit ⟨#[0xb1]⟩ 1 none, .arrayClass .int, .fieldLink RX7 9 "StateRecords$Type" "names" "[I", .fieldLink RX7 15 "StateRecords$Type" "lanes" "[I", .arrayClass .long, .fieldLink RX7 18 "StateRecords$Type" "defaults" "[J", .arrayClass .boolean, .fieldLink RX7 22 "StateRecords$Type" "shuts" "[Z", .classLink RX7 26 RX0, .fieldLink RX7 28 "StateRecords$Type" "checks" "[LStateRecords$Check;", .fieldLink RX7 32 "StateRecords$Type" "number" "I"] : List Cond) ++ wsX80 ++ wsX70)
noncomputable def wsX8_typeNumbered : List Cond := .code yX8_typeNumbered cX8_typeNumbered 2 (some (.object "StateRecords$Type")) :: (([.fieldLink RX8 63 "StateRecords" "typeCount" "I", .fieldLink RX8 11 "StateRecords" "types" "[LStateRecords$Type;", .methodLink RX8 74 yX8_isBelow, .static yX8_isBelow, .initialized RX8, .code yX8_isBelow cX8_isBelow 2 (some .boolean)] : List Cond) ++ wsX80)
noncomputable def wsX8_field_r1 : List Cond := [Cond.fieldLink RX8 51 "StateRecords" "journal" "LStateRecords$Journal;", Cond.fieldLink RX8 82 "StateRecords$Journal" "markCount" "I", Cond.fieldLink RX8 85 "StateRecords$Type" "fieldCount" "I", Cond.constantLong RX8 88 (-1), Cond.fieldLink RX8 94 "StateRecords" "thingCount" "I", Cond.fieldLink RX8 17 "StateRecords" "things" "[LStateRecords$Thing;", Cond.fieldLink RX8 97 "StateRecords$Thing" "type" "LStateRecords$Type;", Cond.methodLink RX8 70 yX8_typeNumbered, Cond.instanceMethod yX8_typeNumbered, Cond.selects RX8 yX8_typeNumbered yX8_typeNumbered, Cond.initialized RX8, Cond.code yX8_typeNumbered cX8_typeNumbered 2 (some (.object "StateRecords$Type")), Cond.fieldLink RX8 63 "StateRecords" "typeCount" "I", Cond.fieldLink RX8 11 "StateRecords" "types" "[LStateRecords$Type;", Cond.methodLink RX8 74 yX8_isBelow, Cond.static yX8_isBelow, Cond.code yX8_isBelow cX8_isBelow 2 (some .boolean), Cond.methodLink RX8 78 yX7_fieldNamed, Cond.instanceMethod yX7_fieldNamed, Cond.selects RX7 yX7_fieldNamed yX7_fieldNamed, Cond.initialized RX7, Cond.code yX7_fieldNamed cX7_fieldNamed 3 (some .int), Cond.fieldLink RX7 36 "StateRecords$Type" "fieldCount" "I", Cond.fieldLink RX7 9 "StateRecords$Type" "names" "[I"]
noncomputable def wsX8_field_r2 : List Cond := [Cond.methodLink RX8 90 yX7_addField, Cond.instanceMethod yX7_addField, Cond.selects RX7 yX7_addField yX7_addField, Cond.code yX7_addField cX7_addField 6 (some .int), Cond.fieldLink RX7 15 "StateRecords$Type" "lanes" "[I", Cond.fieldLink RX7 18 "StateRecords$Type" "defaults" "[J", Cond.fieldLink RX7 22 "StateRecords$Type" "shuts" "[Z", Cond.methodLink RX8 101 yX6_setDefault, Cond.instanceMethod yX6_setDefault, Cond.selects RX6 yX6_setDefault yX6_setDefault, Cond.initialized RX6, Cond.code yX6_setDefault cX6_setDefault 2 none, Cond.fieldLink RX6 9 "StateRecords$Thing" "values" "[J", Cond.fieldLink RX6 21 "StateRecords$Thing" "type" "LStateRecords$Type;", Cond.fieldLink RX6 35 "StateRecords$Type" "defaults" "[J", Cond.fieldLink RX6 17 "StateRecords$Thing" "rows" "[LStateRecords$Row;"]
noncomputable def wsX8_field : List Cond := .code yX8_field cX8_field 9 (some .int) :: ((wsX8_field_r1 ++ wsX8_field_r2) ++ wsX80 ++ wsX20 ++ wsX70 ++ wsX60)
noncomputable def wsX8_drop_r1 : List Cond := [Cond.fieldLink RX8 51 "StateRecords" "journal" "LStateRecords$Journal;", Cond.fieldLink RX8 82 "StateRecords$Journal" "markCount" "I", Cond.fieldLink RX8 94 "StateRecords" "thingCount" "I", Cond.fieldLink RX8 17 "StateRecords" "things" "[LStateRecords$Thing;", Cond.fieldLink RX8 97 "StateRecords$Thing" "type" "LStateRecords$Type;", Cond.fieldLink RX8 85 "StateRecords$Type" "fieldCount" "I", Cond.methodLink RX8 70 yX8_typeNumbered, Cond.instanceMethod yX8_typeNumbered, Cond.selects RX8 yX8_typeNumbered yX8_typeNumbered, Cond.initialized RX8, Cond.code yX8_typeNumbered cX8_typeNumbered 2 (some (.object "StateRecords$Type")), Cond.fieldLink RX8 63 "StateRecords" "typeCount" "I", Cond.fieldLink RX8 11 "StateRecords" "types" "[LStateRecords$Type;", Cond.methodLink RX8 74 yX8_isBelow, Cond.static yX8_isBelow, Cond.code yX8_isBelow cX8_isBelow 2 (some .boolean), Cond.methodLink RX8 104 yX7_hasField, Cond.instanceMethod yX7_hasField, Cond.selects RX7 yX7_hasField yX7_hasField, Cond.initialized RX7, Cond.code yX7_hasField cX7_hasField 2 (some .boolean), Cond.fieldLink RX7 36 "StateRecords$Type" "fieldCount" "I", Cond.methodLink RX8 108 yX7_removeField, Cond.instanceMethod yX7_removeField]
noncomputable def wsX8_drop_r2 : List Cond := [Cond.selects RX7 yX7_removeField yX7_removeField, Cond.code yX7_removeField cX7_removeField 3 none, Cond.fieldLink RX7 9 "StateRecords$Type" "names" "[I", Cond.fieldLink RX7 15 "StateRecords$Type" "lanes" "[I", Cond.fieldLink RX7 18 "StateRecords$Type" "defaults" "[J", Cond.fieldLink RX7 22 "StateRecords$Type" "shuts" "[Z", Cond.methodLink RX8 111 yX6_removeField, Cond.instanceMethod yX6_removeField, Cond.selects RX6 yX6_removeField yX6_removeField, Cond.initialized RX6, Cond.code yX6_removeField cX6_removeField 3 none, Cond.fieldLink RX6 9 "StateRecords$Thing" "values" "[J", Cond.fieldLink RX6 17 "StateRecords$Thing" "rows" "[LStateRecords$Row;"]
noncomputable def wsX8_drop : List Cond := .code yX8_drop cX8_drop 5 (some .int) :: ((wsX8_drop_r1 ++ wsX8_drop_r2) ++ wsX80 ++ wsX20 ++ wsX60 ++ wsX70)
noncomputable def wsX8_shut : List Cond := .code yX8_shut cX8_shut 6 (some .int) :: (([.fieldLink RX8 112 "StateRecords$Type" "shuts" "[Z", .methodLink RX8 70 yX8_typeNumbered, .instanceMethod yX8_typeNumbered, .selects RX8 yX8_typeNumbered yX8_typeNumbered, .initialized RX8, .code yX8_typeNumbered cX8_typeNumbered 2 (some (.object "StateRecords$Type")), .fieldLink RX8 63 "StateRecords" "typeCount" "I", .fieldLink RX8 11 "StateRecords" "types" "[LStateRecords$Type;", .methodLink RX8 74 yX8_isBelow, .static yX8_isBelow, .code yX8_isBelow cX8_isBelow 2 (some .boolean), .methodLink RX8 104 yX7_hasField, .instanceMethod yX7_hasField, .selects RX7 yX7_hasField yX7_hasField, .initialized RX7, .code yX7_hasField cX7_hasField 2 (some .boolean), .fieldLink RX7 36 "StateRecords$Type" "fieldCount" "I"] : List Cond) ++ wsX70 ++ wsX80)
noncomputable def wsX8_check_r1 : List Cond := [Cond.fieldLink RX8 115 "StateRecords$Type" "checkCount" "I", Cond.fieldLink RX8 118 "StateRecords$Type" "checks" "[LStateRecords$Check;", Cond.classLink RX8 122 RX0, Cond.instantiable RX0 4, Cond.initialized RX0, Cond.methodLink RX8 70 yX8_typeNumbered, Cond.instanceMethod yX8_typeNumbered, Cond.selects RX8 yX8_typeNumbered yX8_typeNumbered, Cond.initialized RX8, Cond.code yX8_typeNumbered cX8_typeNumbered 2 (some (.object "StateRecords$Type")), Cond.fieldLink RX8 63 "StateRecords" "typeCount" "I", Cond.fieldLink RX8 11 "StateRecords" "types" "[LStateRecords$Type;", Cond.methodLink RX8 74 yX8_isBelow, Cond.static yX8_isBelow, Cond.code yX8_isBelow cX8_isBelow 2 (some .boolean), Cond.methodLink RX8 124 yX0_init, Cond.instanceMethod yX0_init, Cond.code yX0_init cX0_init 6 none, Cond.methodLink RX0 1 objectInit, Cond.instanceMethod objectInit, Cond.code objectInit ⟨#[0xb1]⟩ 1 none, Cond.fieldLink RX0 7 "StateRecords$Check" "kind" "I", Cond.fieldLink RX0 13 "StateRecords$Check" "a" "I", Cond.fieldLink RX0 16 "StateRecords$Check" "b" "I"]
noncomputable def wsX8_check_r2 : List Cond := [Cond.fieldLink RX0 19 "StateRecords$Check" "v" "J"]
noncomputable def wsX8_check : List Cond := .code yX8_check cX8_check 8 (some .int) :: ((wsX8_check_r1 ++ wsX8_check_r2) ++ wsX70 ++ wsX00 ++ wsX80)
noncomputable def wsX8_unchecked : List Cond := .code yX8_unchecked cX8_unchecked 4 (some .int) :: (([.fieldLink RX8 115 "StateRecords$Type" "checkCount" "I", .methodLink RX8 70 yX8_typeNumbered, .instanceMethod yX8_typeNumbered, .selects RX8 yX8_typeNumbered yX8_typeNumbered, .initialized RX8, .code yX8_typeNumbered cX8_typeNumbered 2 (some (.object "StateRecords$Type")), .fieldLink RX8 63 "StateRecords" "typeCount" "I", .fieldLink RX8 11 "StateRecords" "types" "[LStateRecords$Type;", .methodLink RX8 74 yX8_isBelow, .static yX8_isBelow, .code yX8_isBelow cX8_isBelow 2 (some .boolean)] : List Cond) ++ wsX70 ++ wsX80)
noncomputable def wsX8_word : List Cond := .code yX8_word cX8_word 4 (some .int) :: (([.fieldLink RX8 21 "StateRecords" "wordsInUse" "[Z", .methodLink RX8 74 yX8_isBelow, .static yX8_isBelow, .initialized RX8, .code yX8_isBelow cX8_isBelow 2 (some .boolean)] : List Cond) ++ wsX80)
noncomputable def wsX8_thing_r1 : List Cond := [Cond.fieldLink RX8 94 "StateRecords" "thingCount" "I", Cond.fieldLink RX8 17 "StateRecords" "things" "[LStateRecords$Thing;", Cond.methodLink RX8 70 yX8_typeNumbered, Cond.instanceMethod yX8_typeNumbered, Cond.selects RX8 yX8_typeNumbered yX8_typeNumbered, Cond.initialized RX8, Cond.code yX8_typeNumbered cX8_typeNumbered 2 (some (.object "StateRecords$Type")), Cond.fieldLink RX8 63 "StateRecords" "typeCount" "I", Cond.fieldLink RX8 11 "StateRecords" "types" "[LStateRecords$Type;", Cond.methodLink RX8 74 yX8_isBelow, Cond.static yX8_isBelow, Cond.code yX8_isBelow cX8_isBelow 2 (some .boolean), Cond.methodLink RX8 127 yX6_become, Cond.instanceMethod yX6_become, Cond.selects RX6 yX6_become yX6_become, Cond.initialized RX6, Cond.code yX6_become cX6_become 3 none, Cond.fieldLink RX6 21 "StateRecords$Thing" "type" "LStateRecords$Type;", Cond.fieldLink RX6 25 "StateRecords$Type" "fieldCount" "I", Cond.methodLink RX6 31 yX6_setDefault, Cond.instanceMethod yX6_setDefault, Cond.selects RX6 yX6_setDefault yX6_setDefault, Cond.code yX6_setDefault cX6_setDefault 2 none, Cond.fieldLink RX6 9 "StateRecords$Thing" "values" "[J"]
noncomputable def wsX8_thing_r2 : List Cond := [Cond.fieldLink RX6 35 "StateRecords$Type" "defaults" "[J", Cond.fieldLink RX6 17 "StateRecords$Thing" "rows" "[LStateRecords$Row;"]
noncomputable def wsX8_thing : List Cond := .code yX8_thing cX8_thing 3 (some .int) :: ((wsX8_thing_r1 ++ wsX8_thing_r2) ++ wsX80 ++ wsX60 ++ wsX70)
noncomputable def wsX8_thingNumbered : List Cond := .code yX8_thingNumbered cX8_thingNumbered 3 (some (.object "StateRecords$Thing")) :: (([.fieldLink RX8 94 "StateRecords" "thingCount" "I", .fieldLink RX8 17 "StateRecords" "things" "[LStateRecords$Thing;"] : List Cond) ++ wsX80)
noncomputable def wsX8_thingWithField : List Cond := .code yX8_thingWithField cX8_thingWithField 4 (some (.object "StateRecords$Thing")) :: (([.fieldLink RX8 97 "StateRecords$Thing" "type" "LStateRecords$Type;", .methodLink RX8 177 yX8_thingNumbered, .instanceMethod yX8_thingNumbered, .selects RX8 yX8_thingNumbered yX8_thingNumbered, .initialized RX8, .code yX8_thingNumbered cX8_thingNumbered 3 (some (.object "StateRecords$Thing")), .fieldLink RX8 94 "StateRecords" "thingCount" "I", .fieldLink RX8 17 "StateRecords" "things" "[LStateRecords$Thing;", .methodLink RX8 104 yX7_hasField, .instanceMethod yX7_hasField, .selects RX7 yX7_hasField yX7_hasField, .initialized RX7, .code yX7_hasField cX7_hasField 2 (some .boolean), .fieldLink RX7 36 "StateRecords$Type" "fieldCount" "I", .static yX8_isBelow, .code yX8_isBelow cX8_isBelow 2 (some .boolean)] : List Cond) ++ wsX60 ++ wsX80 ++ wsX70)
noncomputable def wsX8_failed : List Cond := .code yX8_failed cX8_failed 1 (some .int) :: ([])
noncomputable def wsX8_isWordInUse : List Cond := .code yX8_isWordInUse cX8_isWordInUse 3 (some .boolean) :: (([.constantLong RX8 275 (16), .fieldLink RX8 21 "StateRecords" "wordsInUse" "[Z"] : List Cond) ++ wsX80)
noncomputable def wsX8_changeValue_r1 : List Cond := [Cond.fieldLink RX8 51 "StateRecords" "journal" "LStateRecords$Journal;", Cond.fieldLink RX8 193 "StateRecords$Thing" "values" "[J", Cond.methodLink RX8 165 yX2_isFull, Cond.instanceMethod yX2_isFull, Cond.selects RX2 yX2_isFull yX2_isFull, Cond.initialized RX2, Cond.code yX2_isFull cX2_isFull 1 (some .boolean), Cond.fieldLink RX2 22 "StateRecords$Journal" "noteCount" "I", Cond.methodLink RX8 277 yX2_noteField, Cond.instanceMethod yX2_noteField, Cond.selects RX2 yX2_noteField yX2_noteField, Cond.code yX2_noteField cX2_noteField 3 none, Cond.fieldLink RX2 26 "StateRecords$Thing" "values" "[J", Cond.fieldLink RX2 32 "StateRecords$Thing" "rows" "[LStateRecords$Row;", Cond.methodLink RX2 36 yX2_write, Cond.instanceMethod yX2_write, Cond.selects RX2 yX2_write yX2_write, Cond.code yX2_write cX2_write 7 none, Cond.fieldLink RX2 45 "StateRecords$Journal" "markCount" "I", Cond.fieldLink RX2 11 "StateRecords$Journal" "notes" "[LStateRecords$Note;", Cond.fieldLink RX2 52 "StateRecords$Note" "thing" "LStateRecords$Thing;", Cond.fieldLink RX2 56 "StateRecords$Note" "index" "I", Cond.fieldLink RX2 59 "StateRecords$Note" "value" "J", Cond.fieldLink RX2 63 "StateRecords$Note" "row" "LStateRecords$Row;"]
noncomputable def wsX8_changeValue_r2 : List Cond := [Cond.methodLink RX2 48 yX2_isFull]
noncomputable def wsX8_changeValue : List Cond := .code yX8_changeValue cX8_changeValue 5 (some .int) :: ((wsX8_changeValue_r1 ++ wsX8_changeValue_r2) ++ wsX80 ++ wsX60 ++ wsX20 ++ wsX30)
noncomputable def wsX8_put_r1 : List Cond := [Cond.fieldLink RX8 97 "StateRecords$Thing" "type" "LStateRecords$Type;", Cond.fieldLink RX8 135 "StateRecords$Type" "lanes" "[I", Cond.constantLong RX8 88 (-1), Cond.methodLink RX8 131 yX8_thingWithField, Cond.instanceMethod yX8_thingWithField, Cond.selects RX8 yX8_thingWithField yX8_thingWithField, Cond.initialized RX8, Cond.code yX8_thingWithField cX8_thingWithField 4 (some (.object "StateRecords$Thing")), Cond.methodLink RX8 177 yX8_thingNumbered, Cond.instanceMethod yX8_thingNumbered, Cond.selects RX8 yX8_thingNumbered yX8_thingNumbered, Cond.code yX8_thingNumbered cX8_thingNumbered 3 (some (.object "StateRecords$Thing")), Cond.fieldLink RX8 94 "StateRecords" "thingCount" "I", Cond.fieldLink RX8 17 "StateRecords" "things" "[LStateRecords$Thing;", Cond.methodLink RX8 104 yX7_hasField, Cond.instanceMethod yX7_hasField, Cond.selects RX7 yX7_hasField yX7_hasField, Cond.initialized RX7, Cond.code yX7_hasField cX7_hasField 2 (some .boolean), Cond.fieldLink RX7 36 "StateRecords$Type" "fieldCount" "I", Cond.static yX8_isBelow, Cond.code yX8_isBelow cX8_isBelow 2 (some .boolean), Cond.methodLink RX8 139 yX8_failed, Cond.static yX8_failed]
noncomputable def wsX8_put_r2 : List Cond := [Cond.code yX8_failed cX8_failed 1 (some .int), Cond.methodLink RX8 142 yX8_isWordInUse, Cond.instanceMethod yX8_isWordInUse, Cond.selects RX8 yX8_isWordInUse yX8_isWordInUse, Cond.code yX8_isWordInUse cX8_isWordInUse 3 (some .boolean), Cond.constantLong RX8 275 (16), Cond.fieldLink RX8 21 "StateRecords" "wordsInUse" "[Z", Cond.methodLink RX8 146 yX8_changeValue, Cond.instanceMethod yX8_changeValue, Cond.selects RX8 yX8_changeValue yX8_changeValue, Cond.code yX8_changeValue cX8_changeValue 5 (some .int), Cond.fieldLink RX8 51 "StateRecords" "journal" "LStateRecords$Journal;", Cond.fieldLink RX8 193 "StateRecords$Thing" "values" "[J", Cond.methodLink RX8 165 yX2_isFull, Cond.instanceMethod yX2_isFull, Cond.selects RX2 yX2_isFull yX2_isFull, Cond.initialized RX2, Cond.code yX2_isFull cX2_isFull 1 (some .boolean), Cond.fieldLink RX2 22 "StateRecords$Journal" "noteCount" "I", Cond.methodLink RX8 277 yX2_noteField, Cond.instanceMethod yX2_noteField, Cond.selects RX2 yX2_noteField yX2_noteField, Cond.code yX2_noteField cX2_noteField 3 none, Cond.fieldLink RX2 26 "StateRecords$Thing" "values" "[J"]
noncomputable def wsX8_put_r3 : List Cond := [Cond.fieldLink RX2 32 "StateRecords$Thing" "rows" "[LStateRecords$Row;", Cond.methodLink RX2 36 yX2_write, Cond.instanceMethod yX2_write, Cond.selects RX2 yX2_write yX2_write, Cond.code yX2_write cX2_write 7 none, Cond.fieldLink RX2 45 "StateRecords$Journal" "markCount" "I", Cond.fieldLink RX2 11 "StateRecords$Journal" "notes" "[LStateRecords$Note;", Cond.fieldLink RX2 52 "StateRecords$Note" "thing" "LStateRecords$Thing;", Cond.fieldLink RX2 56 "StateRecords$Note" "index" "I", Cond.fieldLink RX2 59 "StateRecords$Note" "value" "J", Cond.fieldLink RX2 63 "StateRecords$Note" "row" "LStateRecords$Row;", Cond.methodLink RX2 48 yX2_isFull]
noncomputable def wsX8_put : List Cond := .code yX8_put cX8_put 7 (some .int) :: ((wsX8_put_r1 ++ (wsX8_put_r2 ++ wsX8_put_r3)) ++ wsX60 ++ wsX70 ++ wsX80 ++ wsX20 ++ wsX30)
noncomputable def wsX8_refer_r1 : List Cond := [Cond.fieldLink RX8 94 "StateRecords" "thingCount" "I", Cond.fieldLink RX8 97 "StateRecords$Thing" "type" "LStateRecords$Type;", Cond.fieldLink RX8 135 "StateRecords$Type" "lanes" "[I", Cond.methodLink RX8 131 yX8_thingWithField, Cond.instanceMethod yX8_thingWithField, Cond.selects RX8 yX8_thingWithField yX8_thingWithField, Cond.initialized RX8, Cond.code yX8_thingWithField cX8_thingWithField 4 (some (.object "StateRecords$Thing")), Cond.methodLink RX8 177 yX8_thingNumbered, Cond.instanceMethod yX8_thingNumbered, Cond.selects RX8 yX8_thingNumbered yX8_thingNumbered, Cond.code yX8_thingNumbered cX8_thingNumbered 3 (some (.object "StateRecords$Thing")), Cond.fieldLink RX8 17 "StateRecords" "things" "[LStateRecords$Thing;", Cond.methodLink RX8 104 yX7_hasField, Cond.instanceMethod yX7_hasField, Cond.selects RX7 yX7_hasField yX7_hasField, Cond.initialized RX7, Cond.code yX7_hasField cX7_hasField 2 (some .boolean), Cond.fieldLink RX7 36 "StateRecords$Type" "fieldCount" "I", Cond.static yX8_isBelow, Cond.code yX8_isBelow cX8_isBelow 2 (some .boolean), Cond.methodLink RX8 74 yX8_isBelow, Cond.methodLink RX8 139 yX8_failed, Cond.static yX8_failed]
noncomputable def wsX8_refer_r2 : List Cond := [Cond.code yX8_failed cX8_failed 1 (some .int), Cond.methodLink RX8 146 yX8_changeValue, Cond.instanceMethod yX8_changeValue, Cond.selects RX8 yX8_changeValue yX8_changeValue, Cond.code yX8_changeValue cX8_changeValue 5 (some .int), Cond.fieldLink RX8 51 "StateRecords" "journal" "LStateRecords$Journal;", Cond.fieldLink RX8 193 "StateRecords$Thing" "values" "[J", Cond.methodLink RX8 165 yX2_isFull, Cond.instanceMethod yX2_isFull, Cond.selects RX2 yX2_isFull yX2_isFull, Cond.initialized RX2, Cond.code yX2_isFull cX2_isFull 1 (some .boolean), Cond.fieldLink RX2 22 "StateRecords$Journal" "noteCount" "I", Cond.methodLink RX8 277 yX2_noteField, Cond.instanceMethod yX2_noteField, Cond.selects RX2 yX2_noteField yX2_noteField, Cond.code yX2_noteField cX2_noteField 3 none, Cond.fieldLink RX2 26 "StateRecords$Thing" "values" "[J", Cond.fieldLink RX2 32 "StateRecords$Thing" "rows" "[LStateRecords$Row;", Cond.methodLink RX2 36 yX2_write, Cond.instanceMethod yX2_write, Cond.selects RX2 yX2_write yX2_write, Cond.code yX2_write cX2_write 7 none, Cond.fieldLink RX2 45 "StateRecords$Journal" "markCount" "I"]
noncomputable def wsX8_refer_r3 : List Cond := [Cond.fieldLink RX2 11 "StateRecords$Journal" "notes" "[LStateRecords$Note;", Cond.fieldLink RX2 52 "StateRecords$Note" "thing" "LStateRecords$Thing;", Cond.fieldLink RX2 56 "StateRecords$Note" "index" "I", Cond.fieldLink RX2 59 "StateRecords$Note" "value" "J", Cond.fieldLink RX2 63 "StateRecords$Note" "row" "LStateRecords$Row;", Cond.methodLink RX2 48 yX2_isFull]
noncomputable def wsX8_refer : List Cond := .code yX8_refer cX8_refer 5 (some .int) :: ((wsX8_refer_r1 ++ (wsX8_refer_r2 ++ wsX8_refer_r3)) ++ wsX80 ++ wsX60 ++ wsX70 ++ wsX20 ++ wsX30)
noncomputable def wsX8_changeRow_r1 : List Cond := [Cond.fieldLink RX8 51 "StateRecords" "journal" "LStateRecords$Journal;", Cond.fieldLink RX8 158 "StateRecords$Thing" "rows" "[LStateRecords$Row;", Cond.methodLink RX8 165 yX2_isFull, Cond.instanceMethod yX2_isFull, Cond.selects RX2 yX2_isFull yX2_isFull, Cond.initialized RX2, Cond.code yX2_isFull cX2_isFull 1 (some .boolean), Cond.fieldLink RX2 22 "StateRecords$Journal" "noteCount" "I", Cond.methodLink RX8 277 yX2_noteField, Cond.instanceMethod yX2_noteField, Cond.selects RX2 yX2_noteField yX2_noteField, Cond.code yX2_noteField cX2_noteField 3 none, Cond.fieldLink RX2 26 "StateRecords$Thing" "values" "[J", Cond.fieldLink RX2 32 "StateRecords$Thing" "rows" "[LStateRecords$Row;", Cond.methodLink RX2 36 yX2_write, Cond.instanceMethod yX2_write, Cond.selects RX2 yX2_write yX2_write, Cond.code yX2_write cX2_write 7 none, Cond.fieldLink RX2 45 "StateRecords$Journal" "markCount" "I", Cond.fieldLink RX2 11 "StateRecords$Journal" "notes" "[LStateRecords$Note;", Cond.fieldLink RX2 52 "StateRecords$Note" "thing" "LStateRecords$Thing;", Cond.fieldLink RX2 56 "StateRecords$Note" "index" "I", Cond.fieldLink RX2 59 "StateRecords$Note" "value" "J", Cond.fieldLink RX2 63 "StateRecords$Note" "row" "LStateRecords$Row;"]
noncomputable def wsX8_changeRow_r2 : List Cond := [Cond.methodLink RX2 48 yX2_isFull]
noncomputable def wsX8_changeRow : List Cond := .code yX8_changeRow cX8_changeRow 4 (some .int) :: ((wsX8_changeRow_r1 ++ wsX8_changeRow_r2) ++ wsX80 ++ wsX60 ++ wsX20 ++ wsX30)
noncomputable def wsX8_row_r1 : List Cond := [Cond.fieldLink RX8 97 "StateRecords$Thing" "type" "LStateRecords$Type;", Cond.fieldLink RX8 135 "StateRecords$Type" "lanes" "[I", Cond.classLink RX8 42 RX5, Cond.instantiable RX5 2, Cond.initialized RX5, Cond.methodLink RX8 131 yX8_thingWithField, Cond.instanceMethod yX8_thingWithField, Cond.selects RX8 yX8_thingWithField yX8_thingWithField, Cond.initialized RX8, Cond.code yX8_thingWithField cX8_thingWithField 4 (some (.object "StateRecords$Thing")), Cond.methodLink RX8 177 yX8_thingNumbered, Cond.instanceMethod yX8_thingNumbered, Cond.selects RX8 yX8_thingNumbered yX8_thingNumbered, Cond.code yX8_thingNumbered cX8_thingNumbered 3 (some (.object "StateRecords$Thing")), Cond.fieldLink RX8 94 "StateRecords" "thingCount" "I", Cond.fieldLink RX8 17 "StateRecords" "things" "[LStateRecords$Thing;", Cond.methodLink RX8 104 yX7_hasField, Cond.instanceMethod yX7_hasField, Cond.selects RX7 yX7_hasField yX7_hasField, Cond.initialized RX7, Cond.code yX7_hasField cX7_hasField 2 (some .boolean), Cond.fieldLink RX7 36 "StateRecords$Type" "fieldCount" "I", Cond.static yX8_isBelow, Cond.code yX8_isBelow cX8_isBelow 2 (some .boolean)]
noncomputable def wsX8_row_r2 : List Cond := [Cond.methodLink RX8 150 yX8_isRowLane, Cond.static yX8_isRowLane, Cond.code yX8_isRowLane cX8_isRowLane 1 (some .boolean), Cond.methodLink RX8 139 yX8_failed, Cond.static yX8_failed, Cond.code yX8_failed cX8_failed 1 (some .int), Cond.methodLink RX8 153 yX5_init, Cond.instanceMethod yX5_init, Cond.code yX5_init cX5_init 2 none, Cond.methodLink RX5 1 objectInit, Cond.instanceMethod objectInit, Cond.code objectInit ⟨#[0xb1]⟩ 1 none, Cond.arrayClass .long, Cond.fieldLink RX5 7 "StateRecords$Row" "items" "[J", Cond.methodLink RX8 154 yX8_changeRow, Cond.instanceMethod yX8_changeRow, Cond.selects RX8 yX8_changeRow yX8_changeRow, Cond.code yX8_changeRow cX8_changeRow 4 (some .int), Cond.fieldLink RX8 51 "StateRecords" "journal" "LStateRecords$Journal;", Cond.fieldLink RX8 158 "StateRecords$Thing" "rows" "[LStateRecords$Row;", Cond.methodLink RX8 165 yX2_isFull, Cond.instanceMethod yX2_isFull, Cond.selects RX2 yX2_isFull yX2_isFull, Cond.initialized RX2]
noncomputable def wsX8_row_r3 : List Cond := [Cond.code yX2_isFull cX2_isFull 1 (some .boolean), Cond.fieldLink RX2 22 "StateRecords$Journal" "noteCount" "I", Cond.methodLink RX8 277 yX2_noteField, Cond.instanceMethod yX2_noteField, Cond.selects RX2 yX2_noteField yX2_noteField, Cond.code yX2_noteField cX2_noteField 3 none, Cond.fieldLink RX2 26 "StateRecords$Thing" "values" "[J", Cond.fieldLink RX2 32 "StateRecords$Thing" "rows" "[LStateRecords$Row;", Cond.methodLink RX2 36 yX2_write, Cond.instanceMethod yX2_write, Cond.selects RX2 yX2_write yX2_write, Cond.code yX2_write cX2_write 7 none, Cond.fieldLink RX2 45 "StateRecords$Journal" "markCount" "I", Cond.fieldLink RX2 11 "StateRecords$Journal" "notes" "[LStateRecords$Note;", Cond.fieldLink RX2 52 "StateRecords$Note" "thing" "LStateRecords$Thing;", Cond.fieldLink RX2 56 "StateRecords$Note" "index" "I", Cond.fieldLink RX2 59 "StateRecords$Note" "value" "J", Cond.fieldLink RX2 63 "StateRecords$Note" "row" "LStateRecords$Row;", Cond.methodLink RX2 48 yX2_isFull]
noncomputable def wsX8_row : List Cond := .code yX8_row cX8_row 5 (some .int) :: ((wsX8_row_r1 ++ (wsX8_row_r2 ++ wsX8_row_r3)) ++ wsX60 ++ wsX70 ++ wsX50 ++ wsX80 ++ wsX20 ++ wsX30)
noncomputable def wsX8_share_r1 : List Cond := [Cond.fieldLink RX8 97 "StateRecords$Thing" "type" "LStateRecords$Type;", Cond.fieldLink RX8 135 "StateRecords$Type" "lanes" "[I", Cond.fieldLink RX8 158 "StateRecords$Thing" "rows" "[LStateRecords$Row;", Cond.methodLink RX8 131 yX8_thingWithField, Cond.instanceMethod yX8_thingWithField, Cond.selects RX8 yX8_thingWithField yX8_thingWithField, Cond.initialized RX8, Cond.code yX8_thingWithField cX8_thingWithField 4 (some (.object "StateRecords$Thing")), Cond.methodLink RX8 177 yX8_thingNumbered, Cond.instanceMethod yX8_thingNumbered, Cond.selects RX8 yX8_thingNumbered yX8_thingNumbered, Cond.code yX8_thingNumbered cX8_thingNumbered 3 (some (.object "StateRecords$Thing")), Cond.fieldLink RX8 94 "StateRecords" "thingCount" "I", Cond.fieldLink RX8 17 "StateRecords" "things" "[LStateRecords$Thing;", Cond.methodLink RX8 104 yX7_hasField, Cond.instanceMethod yX7_hasField, Cond.selects RX7 yX7_hasField yX7_hasField, Cond.initialized RX7, Cond.code yX7_hasField cX7_hasField 2 (some .boolean), Cond.fieldLink RX7 36 "StateRecords$Type" "fieldCount" "I", Cond.static yX8_isBelow, Cond.code yX8_isBelow cX8_isBelow 2 (some .boolean), Cond.methodLink RX8 150 yX8_isRowLane, Cond.static yX8_isRowLane]
noncomputable def wsX8_share_r2 : List Cond := [Cond.code yX8_isRowLane cX8_isRowLane 1 (some .boolean), Cond.methodLink RX8 139 yX8_failed, Cond.static yX8_failed, Cond.code yX8_failed cX8_failed 1 (some .int), Cond.methodLink RX8 154 yX8_changeRow, Cond.instanceMethod yX8_changeRow, Cond.selects RX8 yX8_changeRow yX8_changeRow, Cond.code yX8_changeRow cX8_changeRow 4 (some .int), Cond.fieldLink RX8 51 "StateRecords" "journal" "LStateRecords$Journal;", Cond.methodLink RX8 165 yX2_isFull, Cond.instanceMethod yX2_isFull, Cond.selects RX2 yX2_isFull yX2_isFull, Cond.initialized RX2, Cond.code yX2_isFull cX2_isFull 1 (some .boolean), Cond.fieldLink RX2 22 "StateRecords$Journal" "noteCount" "I", Cond.methodLink RX8 277 yX2_noteField, Cond.instanceMethod yX2_noteField, Cond.selects RX2 yX2_noteField yX2_noteField, Cond.code yX2_noteField cX2_noteField 3 none, Cond.fieldLink RX2 26 "StateRecords$Thing" "values" "[J", Cond.fieldLink RX2 32 "StateRecords$Thing" "rows" "[LStateRecords$Row;", Cond.methodLink RX2 36 yX2_write, Cond.instanceMethod yX2_write, Cond.selects RX2 yX2_write yX2_write]
noncomputable def wsX8_share_r3 : List Cond := [Cond.code yX2_write cX2_write 7 none, Cond.fieldLink RX2 45 "StateRecords$Journal" "markCount" "I", Cond.fieldLink RX2 11 "StateRecords$Journal" "notes" "[LStateRecords$Note;", Cond.fieldLink RX2 52 "StateRecords$Note" "thing" "LStateRecords$Thing;", Cond.fieldLink RX2 56 "StateRecords$Note" "index" "I", Cond.fieldLink RX2 59 "StateRecords$Note" "value" "J", Cond.fieldLink RX2 63 "StateRecords$Note" "row" "LStateRecords$Row;", Cond.methodLink RX2 48 yX2_isFull]
noncomputable def wsX8_share : List Cond := .code yX8_share cX8_share 8 (some .int) :: ((wsX8_share_r1 ++ (wsX8_share_r2 ++ wsX8_share_r3)) ++ wsX60 ++ wsX70 ++ wsX80 ++ wsX20 ++ wsX30)
noncomputable def wsX8_lowestBits : List Cond := .code yX8_lowestBits cX8_lowestBits 3 (some .long) :: ([])
noncomputable def wsX8_item_r1 : List Cond := [Cond.fieldLink RX8 97 "StateRecords$Thing" "type" "LStateRecords$Type;", Cond.fieldLink RX8 135 "StateRecords$Type" "lanes" "[I", Cond.fieldLink RX8 158 "StateRecords$Thing" "rows" "[LStateRecords$Row;", Cond.fieldLink RX8 161 "StateRecords$Row" "items" "[J", Cond.fieldLink RX8 51 "StateRecords" "journal" "LStateRecords$Journal;", Cond.methodLink RX8 131 yX8_thingWithField, Cond.instanceMethod yX8_thingWithField, Cond.selects RX8 yX8_thingWithField yX8_thingWithField, Cond.initialized RX8, Cond.code yX8_thingWithField cX8_thingWithField 4 (some (.object "StateRecords$Thing")), Cond.methodLink RX8 177 yX8_thingNumbered, Cond.instanceMethod yX8_thingNumbered, Cond.selects RX8 yX8_thingNumbered yX8_thingNumbered, Cond.code yX8_thingNumbered cX8_thingNumbered 3 (some (.object "StateRecords$Thing")), Cond.fieldLink RX8 94 "StateRecords" "thingCount" "I", Cond.fieldLink RX8 17 "StateRecords" "things" "[LStateRecords$Thing;", Cond.methodLink RX8 104 yX7_hasField, Cond.instanceMethod yX7_hasField, Cond.selects RX7 yX7_hasField yX7_hasField, Cond.initialized RX7, Cond.code yX7_hasField cX7_hasField 2 (some .boolean), Cond.fieldLink RX7 36 "StateRecords$Type" "fieldCount" "I", Cond.static yX8_isBelow, Cond.code yX8_isBelow cX8_isBelow 2 (some .boolean)]
noncomputable def wsX8_item_r2 : List Cond := [Cond.methodLink RX8 150 yX8_isRowLane, Cond.static yX8_isRowLane, Cond.code yX8_isRowLane cX8_isRowLane 1 (some .boolean), Cond.methodLink RX8 139 yX8_failed, Cond.static yX8_failed, Cond.code yX8_failed cX8_failed 1 (some .int), Cond.methodLink RX8 74 yX8_isBelow, Cond.methodLink RX8 165 yX2_isFull, Cond.instanceMethod yX2_isFull, Cond.selects RX2 yX2_isFull yX2_isFull, Cond.initialized RX2, Cond.code yX2_isFull cX2_isFull 1 (some .boolean), Cond.fieldLink RX2 22 "StateRecords$Journal" "noteCount" "I", Cond.methodLink RX8 169 yX2_noteItem, Cond.instanceMethod yX2_noteItem, Cond.selects RX2 yX2_noteItem yX2_noteItem, Cond.code yX2_noteItem cX2_noteItem 3 none, Cond.fieldLink RX2 40 "StateRecords$Row" "items" "[J", Cond.methodLink RX2 36 yX2_write, Cond.instanceMethod yX2_write, Cond.selects RX2 yX2_write yX2_write, Cond.code yX2_write cX2_write 7 none, Cond.fieldLink RX2 45 "StateRecords$Journal" "markCount" "I", Cond.fieldLink RX2 11 "StateRecords$Journal" "notes" "[LStateRecords$Note;"]
noncomputable def wsX8_item_r3 : List Cond := [Cond.fieldLink RX2 52 "StateRecords$Note" "thing" "LStateRecords$Thing;", Cond.fieldLink RX2 56 "StateRecords$Note" "index" "I", Cond.fieldLink RX2 59 "StateRecords$Note" "value" "J", Cond.fieldLink RX2 63 "StateRecords$Note" "row" "LStateRecords$Row;", Cond.methodLink RX2 48 yX2_isFull, Cond.methodLink RX8 173 yX8_lowestBits, Cond.static yX8_lowestBits, Cond.code yX8_lowestBits cX8_lowestBits 3 (some .long)]
noncomputable def wsX8_item : List Cond := .code yX8_item cX8_item 9 (some .int) :: ((wsX8_item_r1 ++ (wsX8_item_r2 ++ wsX8_item_r3)) ++ wsX60 ++ wsX70 ++ wsX50 ++ wsX80 ++ wsX20 ++ wsX30)
noncomputable def wsX8_at_r1 : List Cond := [Cond.classLink RX8 181 "java/lang/IllegalArgumentException", Cond.initialized "java/lang/IllegalArgumentException", Cond.classLink RX8 188 "java/lang/IndexOutOfBoundsException", Cond.initialized "java/lang/IndexOutOfBoundsException", Cond.fieldLink RX8 97 "StateRecords$Thing" "type" "LStateRecords$Type;", Cond.fieldLink RX8 135 "StateRecords$Type" "lanes" "[I", Cond.fieldLink RX8 193 "StateRecords$Thing" "values" "[J", Cond.fieldLink RX8 158 "StateRecords$Thing" "rows" "[LStateRecords$Row;", Cond.constantLong RX8 88 (-1), Cond.fieldLink RX8 161 "StateRecords$Row" "items" "[J", Cond.methodLink RX8 177 yX8_thingNumbered, Cond.instanceMethod yX8_thingNumbered, Cond.selects RX8 yX8_thingNumbered yX8_thingNumbered, Cond.initialized RX8, Cond.code yX8_thingNumbered cX8_thingNumbered 3 (some (.object "StateRecords$Thing")), Cond.fieldLink RX8 94 "StateRecords" "thingCount" "I", Cond.fieldLink RX8 17 "StateRecords" "things" "[LStateRecords$Thing;", Cond.methodLink RX8 104 yX7_hasField, Cond.instanceMethod yX7_hasField, Cond.selects RX7 yX7_hasField yX7_hasField, Cond.initialized RX7, Cond.code yX7_hasField cX7_hasField 2 (some .boolean), Cond.fieldLink RX7 36 "StateRecords$Type" "fieldCount" "I", Cond.static yX8_isBelow]
noncomputable def wsX8_at_r2 : List Cond := [Cond.code yX8_isBelow cX8_isBelow 2 (some .boolean), Cond.methodLink RX8 150 yX8_isRowLane, Cond.static yX8_isRowLane, Cond.code yX8_isRowLane cX8_isRowLane 1 (some .boolean)]
noncomputable def wsX8_at : List Cond := .code yX8_at cX8_at 5 (some .long) :: ((wsX8_at_r1 ++ wsX8_at_r2) ++ wsX60 ++ wsX70 ++ wsX50 ++ wsX80 ++ (vx_atS RX8 185 "java/lang/IllegalArgumentException" ["java/lang/RuntimeException", "java/lang/Exception"]).filter goodWord ++ (vx_atS RX8 192 "java/lang/IndexOutOfBoundsException" ["java/lang/RuntimeException", "java/lang/Exception"]).filter goodWord)
noncomputable def wsX8_itemAt_r1 : List Cond := [Cond.classLink RX8 181 "java/lang/IllegalArgumentException", Cond.initialized "java/lang/IllegalArgumentException", Cond.classLink RX8 188 "java/lang/IndexOutOfBoundsException", Cond.initialized "java/lang/IndexOutOfBoundsException", Cond.classLink RX8 196 "java/lang/IllegalStateException", Cond.initialized "java/lang/IllegalStateException", Cond.fieldLink RX8 97 "StateRecords$Thing" "type" "LStateRecords$Type;", Cond.fieldLink RX8 135 "StateRecords$Type" "lanes" "[I", Cond.fieldLink RX8 158 "StateRecords$Thing" "rows" "[LStateRecords$Row;", Cond.fieldLink RX8 161 "StateRecords$Row" "items" "[J", Cond.methodLink RX8 177 yX8_thingNumbered, Cond.instanceMethod yX8_thingNumbered, Cond.selects RX8 yX8_thingNumbered yX8_thingNumbered, Cond.initialized RX8, Cond.code yX8_thingNumbered cX8_thingNumbered 3 (some (.object "StateRecords$Thing")), Cond.fieldLink RX8 94 "StateRecords" "thingCount" "I", Cond.fieldLink RX8 17 "StateRecords" "things" "[LStateRecords$Thing;", Cond.methodLink RX8 104 yX7_hasField, Cond.instanceMethod yX7_hasField, Cond.selects RX7 yX7_hasField yX7_hasField, Cond.initialized RX7, Cond.code yX7_hasField cX7_hasField 2 (some .boolean), Cond.fieldLink RX7 36 "StateRecords$Type" "fieldCount" "I", Cond.static yX8_isBelow]
noncomputable def wsX8_itemAt_r2 : List Cond := [Cond.code yX8_isBelow cX8_isBelow 2 (some .boolean), Cond.methodLink RX8 150 yX8_isRowLane, Cond.static yX8_isRowLane, Cond.code yX8_isRowLane cX8_isRowLane 1 (some .boolean), Cond.methodLink RX8 74 yX8_isBelow]
noncomputable def wsX8_itemAt : List Cond := .code yX8_itemAt cX8_itemAt 6 (some .long) :: ((wsX8_itemAt_r1 ++ wsX8_itemAt_r2) ++ wsX60 ++ wsX70 ++ wsX50 ++ wsX80 ++ (vx_atS RX8 185 "java/lang/IllegalArgumentException" ["java/lang/RuntimeException", "java/lang/Exception"]).filter goodWord ++ (vx_atS RX8 192 "java/lang/IndexOutOfBoundsException" ["java/lang/RuntimeException", "java/lang/Exception"]).filter goodWord ++ (vx_atS RX8 200 "java/lang/IllegalStateException" ["java/lang/RuntimeException", "java/lang/Exception"]).filter goodWord)
noncomputable def wsX8_forget : List Cond := .code yX8_forget cX8_forget 2 (some .int) :: (([.fieldLink RX8 51 "StateRecords" "journal" "LStateRecords$Journal;", .fieldLink RX8 82 "StateRecords$Journal" "markCount" "I", .fieldLink RX8 94 "StateRecords" "thingCount" "I"] : List Cond) ++ wsX80 ++ wsX20)
noncomputable def wsX8_told : List Cond := .code yX8_told cX8_told 4 (some .int) :: (([.fieldLink RX8 97 "StateRecords$Thing" "type" "LStateRecords$Type;", .fieldLink RX8 205 "StateRecords$Type" "number" "I", .fieldLink RX8 85 "StateRecords$Type" "fieldCount" "I", .methodLink RX8 177 yX8_thingNumbered, .instanceMethod yX8_thingNumbered, .selects RX8 yX8_thingNumbered yX8_thingNumbered, .initialized RX8, .code yX8_thingNumbered cX8_thingNumbered 3 (some (.object "StateRecords$Thing")), .fieldLink RX8 94 "StateRecords" "thingCount" "I", .fieldLink RX8 17 "StateRecords" "things" "[LStateRecords$Thing;"] : List Cond) ++ wsX60 ++ wsX70 ++ wsX80)
noncomputable def wsX8_failureOfDivides : List Cond := .code yX8_failureOfDivides cX8_failureOfDivides 2 (some .int) :: (([.fieldLink RX8 97 "StateRecords$Thing" "type" "LStateRecords$Type;", .fieldLink RX8 302 "StateRecords$Check" "a" "I", .fieldLink RX8 308 "StateRecords$Check" "b" "I", .fieldLink RX8 193 "StateRecords$Thing" "values" "[J", .methodLink RX8 305 yX7_hasLane, .instanceMethod yX7_hasLane, .selects RX7 yX7_hasLane yX7_hasLane, .initialized RX7, .code yX7_hasLane cX7_hasLane 3 (some .boolean), .fieldLink RX7 15 "StateRecords$Type" "lanes" "[I", .methodLink RX7 43 yX7_hasField, .instanceMethod yX7_hasField, .selects RX7 yX7_hasField yX7_hasField, .code yX7_hasField cX7_hasField 2 (some .boolean), .fieldLink RX7 36 "StateRecords$Type" "fieldCount" "I", .static yX8_isBelow, .initialized RX8, .code yX8_isBelow cX8_isBelow 2 (some .boolean)] : List Cond) ++ wsX60 ++ wsX00 ++ wsX70)
noncomputable def wsX8_failureOfMeets_r1 : List Cond := [Cond.fieldLink RX8 97 "StateRecords$Thing" "type" "LStateRecords$Type;", Cond.fieldLink RX8 302 "StateRecords$Check" "a" "I", Cond.fieldLink RX8 193 "StateRecords$Thing" "values" "[J", Cond.fieldLink RX8 205 "StateRecords$Type" "number" "I", Cond.fieldLink RX8 311 "StateRecords$Check" "v" "J", Cond.methodLink RX8 305 yX7_hasLane, Cond.instanceMethod yX7_hasLane, Cond.selects RX7 yX7_hasLane yX7_hasLane, Cond.initialized RX7, Cond.code yX7_hasLane cX7_hasLane 3 (some .boolean), Cond.fieldLink RX7 15 "StateRecords$Type" "lanes" "[I", Cond.methodLink RX7 43 yX7_hasField, Cond.instanceMethod yX7_hasField, Cond.selects RX7 yX7_hasField yX7_hasField, Cond.code yX7_hasField cX7_hasField 2 (some .boolean), Cond.fieldLink RX7 36 "StateRecords$Type" "fieldCount" "I", Cond.static yX8_isBelow, Cond.initialized RX8, Cond.code yX8_isBelow cX8_isBelow 2 (some .boolean), Cond.methodLink RX8 177 yX8_thingNumbered, Cond.instanceMethod yX8_thingNumbered, Cond.selects RX8 yX8_thingNumbered yX8_thingNumbered, Cond.code yX8_thingNumbered cX8_thingNumbered 3 (some (.object "StateRecords$Thing")), Cond.fieldLink RX8 94 "StateRecords" "thingCount" "I"]
noncomputable def wsX8_failureOfMeets_r2 : List Cond := [Cond.fieldLink RX8 17 "StateRecords" "things" "[LStateRecords$Thing;"]
noncomputable def wsX8_failureOfMeets : List Cond := .code yX8_failureOfMeets cX8_failureOfMeets 4 (some .int) :: ((wsX8_failureOfMeets_r1 ++ wsX8_failureOfMeets_r2) ++ wsX60 ++ wsX00 ++ wsX70 ++ wsX80)
noncomputable def wsX8_failureOfHas_r1 : List Cond := [Cond.fieldLink RX8 97 "StateRecords$Thing" "type" "LStateRecords$Type;", Cond.fieldLink RX8 302 "StateRecords$Check" "a" "I", Cond.fieldLink RX8 308 "StateRecords$Check" "b" "I", Cond.fieldLink RX8 158 "StateRecords$Thing" "rows" "[LStateRecords$Row;", Cond.fieldLink RX8 193 "StateRecords$Thing" "values" "[J", Cond.fieldLink RX8 161 "StateRecords$Row" "items" "[J", Cond.fieldLink RX8 311 "StateRecords$Check" "v" "J", Cond.methodLink RX8 315 yX7_hasRowLane, Cond.instanceMethod yX7_hasRowLane, Cond.selects RX7 yX7_hasRowLane yX7_hasRowLane, Cond.initialized RX7, Cond.code yX7_hasRowLane cX7_hasRowLane 2 (some .boolean), Cond.fieldLink RX7 15 "StateRecords$Type" "lanes" "[I", Cond.methodLink RX7 43 yX7_hasField, Cond.instanceMethod yX7_hasField, Cond.selects RX7 yX7_hasField yX7_hasField, Cond.code yX7_hasField cX7_hasField 2 (some .boolean), Cond.fieldLink RX7 36 "StateRecords$Type" "fieldCount" "I", Cond.static yX8_isBelow, Cond.initialized RX8, Cond.code yX8_isBelow cX8_isBelow 2 (some .boolean), Cond.static yX8_isRowLane, Cond.code yX8_isRowLane cX8_isRowLane 1 (some .boolean), Cond.methodLink RX8 305 yX7_hasLane]
noncomputable def wsX8_failureOfHas_r2 : List Cond := [Cond.instanceMethod yX7_hasLane, Cond.selects RX7 yX7_hasLane yX7_hasLane, Cond.code yX7_hasLane cX7_hasLane 3 (some .boolean)]
noncomputable def wsX8_failureOfHas : List Cond := .code yX8_failureOfHas cX8_failureOfHas 5 (some .int) :: ((wsX8_failureOfHas_r1 ++ wsX8_failureOfHas_r2) ++ wsX60 ++ wsX00 ++ wsX50 ++ wsX70)
noncomputable def wsX8_failureOfHolds : List Cond := .code yX8_failureOfHolds cX8_failureOfHolds 4 (some .int) :: (([.fieldLink RX8 97 "StateRecords$Thing" "type" "LStateRecords$Type;", .fieldLink RX8 302 "StateRecords$Check" "a" "I", .fieldLink RX8 193 "StateRecords$Thing" "values" "[J", .constantLong RX8 318 (12), .methodLink RX8 305 yX7_hasLane, .instanceMethod yX7_hasLane, .selects RX7 yX7_hasLane yX7_hasLane, .initialized RX7, .code yX7_hasLane cX7_hasLane 3 (some .boolean), .fieldLink RX7 15 "StateRecords$Type" "lanes" "[I", .methodLink RX7 43 yX7_hasField, .instanceMethod yX7_hasField, .selects RX7 yX7_hasField yX7_hasField, .code yX7_hasField cX7_hasField 2 (some .boolean), .fieldLink RX7 36 "StateRecords$Type" "fieldCount" "I", .static yX8_isBelow, .initialized RX8, .code yX8_isBelow cX8_isBelow 2 (some .boolean)] : List Cond) ++ wsX60 ++ wsX00 ++ wsX70)
noncomputable def wsX8_failureOfLeast : List Cond := .code yX8_failureOfLeast cX8_failureOfLeast 2 (some .int) :: (([.fieldLink RX8 97 "StateRecords$Thing" "type" "LStateRecords$Type;", .fieldLink RX8 302 "StateRecords$Check" "a" "I", .fieldLink RX8 193 "StateRecords$Thing" "values" "[J", .fieldLink RX8 311 "StateRecords$Check" "v" "J", .methodLink RX8 305 yX7_hasLane, .instanceMethod yX7_hasLane, .selects RX7 yX7_hasLane yX7_hasLane, .initialized RX7, .code yX7_hasLane cX7_hasLane 3 (some .boolean), .fieldLink RX7 15 "StateRecords$Type" "lanes" "[I", .methodLink RX7 43 yX7_hasField, .instanceMethod yX7_hasField, .selects RX7 yX7_hasField yX7_hasField, .code yX7_hasField cX7_hasField 2 (some .boolean), .fieldLink RX7 36 "StateRecords$Type" "fieldCount" "I", .static yX8_isBelow, .initialized RX8, .code yX8_isBelow cX8_isBelow 2 (some .boolean)] : List Cond) ++ wsX60 ++ wsX00 ++ wsX70)
noncomputable def wsX8_failureOfLeads_r1 : List Cond := [Cond.fieldLink RX8 97 "StateRecords$Thing" "type" "LStateRecords$Type;", Cond.fieldLink RX8 302 "StateRecords$Check" "a" "I", Cond.fieldLink RX8 193 "StateRecords$Thing" "values" "[J", Cond.fieldLink RX8 320 "StateRecords$Type" "names" "[I", Cond.methodLink RX8 305 yX7_hasLane, Cond.instanceMethod yX7_hasLane, Cond.selects RX7 yX7_hasLane yX7_hasLane, Cond.initialized RX7, Cond.code yX7_hasLane cX7_hasLane 3 (some .boolean), Cond.fieldLink RX7 15 "StateRecords$Type" "lanes" "[I", Cond.methodLink RX7 43 yX7_hasField, Cond.instanceMethod yX7_hasField, Cond.selects RX7 yX7_hasField yX7_hasField, Cond.code yX7_hasField cX7_hasField 2 (some .boolean), Cond.fieldLink RX7 36 "StateRecords$Type" "fieldCount" "I", Cond.static yX8_isBelow, Cond.initialized RX8, Cond.code yX8_isBelow cX8_isBelow 2 (some .boolean), Cond.methodLink RX8 177 yX8_thingNumbered, Cond.instanceMethod yX8_thingNumbered, Cond.selects RX8 yX8_thingNumbered yX8_thingNumbered, Cond.code yX8_thingNumbered cX8_thingNumbered 3 (some (.object "StateRecords$Thing")), Cond.fieldLink RX8 94 "StateRecords" "thingCount" "I", Cond.fieldLink RX8 17 "StateRecords" "things" "[LStateRecords$Thing;"]
noncomputable def wsX8_failureOfLeads_r2 : List Cond := [Cond.methodLink RX8 78 yX7_fieldNamed, Cond.instanceMethod yX7_fieldNamed, Cond.selects RX7 yX7_fieldNamed yX7_fieldNamed, Cond.code yX7_fieldNamed cX7_fieldNamed 3 (some .int), Cond.fieldLink RX7 9 "StateRecords$Type" "names" "[I"]
noncomputable def wsX8_failureOfLeads : List Cond := .code yX8_failureOfLeads cX8_failureOfLeads 5 (some .int) :: ((wsX8_failureOfLeads_r1 ++ wsX8_failureOfLeads_r2) ++ wsX60 ++ wsX00 ++ wsX70 ++ wsX80)
noncomputable def wsX8_failureOf_r1 : List Cond := [Cond.fieldLink RX8 281 "StateRecords$Check" "kind" "I", Cond.methodLink RX8 284 yX8_failureOfDivides, Cond.static yX8_failureOfDivides, Cond.initialized RX8, Cond.code yX8_failureOfDivides cX8_failureOfDivides 2 (some .int), Cond.fieldLink RX8 97 "StateRecords$Thing" "type" "LStateRecords$Type;", Cond.fieldLink RX8 302 "StateRecords$Check" "a" "I", Cond.fieldLink RX8 308 "StateRecords$Check" "b" "I", Cond.fieldLink RX8 193 "StateRecords$Thing" "values" "[J", Cond.methodLink RX8 305 yX7_hasLane, Cond.instanceMethod yX7_hasLane, Cond.selects RX7 yX7_hasLane yX7_hasLane, Cond.initialized RX7, Cond.code yX7_hasLane cX7_hasLane 3 (some .boolean), Cond.fieldLink RX7 15 "StateRecords$Type" "lanes" "[I", Cond.methodLink RX7 43 yX7_hasField, Cond.instanceMethod yX7_hasField, Cond.selects RX7 yX7_hasField yX7_hasField, Cond.code yX7_hasField cX7_hasField 2 (some .boolean), Cond.fieldLink RX7 36 "StateRecords$Type" "fieldCount" "I", Cond.static yX8_isBelow, Cond.code yX8_isBelow cX8_isBelow 2 (some .boolean), Cond.methodLink RX8 287 yX8_failureOfMeets, Cond.instanceMethod yX8_failureOfMeets]
noncomputable def wsX8_failureOf_r2 : List Cond := [Cond.selects RX8 yX8_failureOfMeets yX8_failureOfMeets, Cond.code yX8_failureOfMeets cX8_failureOfMeets 4 (some .int), Cond.fieldLink RX8 205 "StateRecords$Type" "number" "I", Cond.fieldLink RX8 311 "StateRecords$Check" "v" "J", Cond.methodLink RX8 177 yX8_thingNumbered, Cond.instanceMethod yX8_thingNumbered, Cond.selects RX8 yX8_thingNumbered yX8_thingNumbered, Cond.code yX8_thingNumbered cX8_thingNumbered 3 (some (.object "StateRecords$Thing")), Cond.fieldLink RX8 94 "StateRecords" "thingCount" "I", Cond.fieldLink RX8 17 "StateRecords" "things" "[LStateRecords$Thing;", Cond.methodLink RX8 290 yX8_failureOfHas, Cond.static yX8_failureOfHas, Cond.code yX8_failureOfHas cX8_failureOfHas 5 (some .int), Cond.fieldLink RX8 158 "StateRecords$Thing" "rows" "[LStateRecords$Row;", Cond.fieldLink RX8 161 "StateRecords$Row" "items" "[J", Cond.methodLink RX8 315 yX7_hasRowLane, Cond.instanceMethod yX7_hasRowLane, Cond.selects RX7 yX7_hasRowLane yX7_hasRowLane, Cond.code yX7_hasRowLane cX7_hasRowLane 2 (some .boolean), Cond.static yX8_isRowLane, Cond.code yX8_isRowLane cX8_isRowLane 1 (some .boolean), Cond.methodLink RX8 293 yX8_failureOfHolds, Cond.static yX8_failureOfHolds, Cond.code yX8_failureOfHolds cX8_failureOfHolds 4 (some .int)]
noncomputable def wsX8_failureOf_r3 : List Cond := [Cond.constantLong RX8 318 (12), Cond.methodLink RX8 296 yX8_failureOfLeast, Cond.static yX8_failureOfLeast, Cond.code yX8_failureOfLeast cX8_failureOfLeast 2 (some .int), Cond.methodLink RX8 299 yX8_failureOfLeads, Cond.instanceMethod yX8_failureOfLeads, Cond.selects RX8 yX8_failureOfLeads yX8_failureOfLeads, Cond.code yX8_failureOfLeads cX8_failureOfLeads 5 (some .int), Cond.fieldLink RX8 320 "StateRecords$Type" "names" "[I", Cond.methodLink RX8 78 yX7_fieldNamed, Cond.instanceMethod yX7_fieldNamed, Cond.selects RX7 yX7_fieldNamed yX7_fieldNamed, Cond.code yX7_fieldNamed cX7_fieldNamed 3 (some .int), Cond.fieldLink RX7 9 "StateRecords$Type" "names" "[I"]
noncomputable def wsX8_failureOf : List Cond := .code yX8_failureOf cX8_failureOf 3 (some .int) :: ((wsX8_failureOf_r1 ++ (wsX8_failureOf_r2 ++ wsX8_failureOf_r3)) ++ wsX00 ++ wsX60 ++ wsX70 ++ wsX80 ++ wsX50)
noncomputable def wsX8_firstFailingCheck_r1 : List Cond := [Cond.fieldLink RX8 97 "StateRecords$Thing" "type" "LStateRecords$Type;", Cond.fieldLink RX8 115 "StateRecords$Type" "checkCount" "I", Cond.fieldLink RX8 118 "StateRecords$Type" "checks" "[LStateRecords$Check;", Cond.methodLink RX8 212 yX8_failureOf, Cond.instanceMethod yX8_failureOf, Cond.selects RX8 yX8_failureOf yX8_failureOf, Cond.initialized RX8, Cond.code yX8_failureOf cX8_failureOf 3 (some .int), Cond.fieldLink RX8 281 "StateRecords$Check" "kind" "I", Cond.methodLink RX8 284 yX8_failureOfDivides, Cond.static yX8_failureOfDivides, Cond.code yX8_failureOfDivides cX8_failureOfDivides 2 (some .int), Cond.fieldLink RX8 302 "StateRecords$Check" "a" "I", Cond.fieldLink RX8 308 "StateRecords$Check" "b" "I", Cond.fieldLink RX8 193 "StateRecords$Thing" "values" "[J", Cond.methodLink RX8 305 yX7_hasLane, Cond.instanceMethod yX7_hasLane, Cond.selects RX7 yX7_hasLane yX7_hasLane, Cond.initialized RX7, Cond.code yX7_hasLane cX7_hasLane 3 (some .boolean), Cond.fieldLink RX7 15 "StateRecords$Type" "lanes" "[I", Cond.methodLink RX7 43 yX7_hasField, Cond.instanceMethod yX7_hasField, Cond.selects RX7 yX7_hasField yX7_hasField]
noncomputable def wsX8_firstFailingCheck_r2 : List Cond := [Cond.code yX7_hasField cX7_hasField 2 (some .boolean), Cond.fieldLink RX7 36 "StateRecords$Type" "fieldCount" "I", Cond.static yX8_isBelow, Cond.code yX8_isBelow cX8_isBelow 2 (some .boolean), Cond.methodLink RX8 287 yX8_failureOfMeets, Cond.instanceMethod yX8_failureOfMeets, Cond.selects RX8 yX8_failureOfMeets yX8_failureOfMeets, Cond.code yX8_failureOfMeets cX8_failureOfMeets 4 (some .int), Cond.fieldLink RX8 205 "StateRecords$Type" "number" "I", Cond.fieldLink RX8 311 "StateRecords$Check" "v" "J", Cond.methodLink RX8 177 yX8_thingNumbered, Cond.instanceMethod yX8_thingNumbered, Cond.selects RX8 yX8_thingNumbered yX8_thingNumbered, Cond.code yX8_thingNumbered cX8_thingNumbered 3 (some (.object "StateRecords$Thing")), Cond.fieldLink RX8 94 "StateRecords" "thingCount" "I", Cond.fieldLink RX8 17 "StateRecords" "things" "[LStateRecords$Thing;", Cond.methodLink RX8 290 yX8_failureOfHas, Cond.static yX8_failureOfHas, Cond.code yX8_failureOfHas cX8_failureOfHas 5 (some .int), Cond.fieldLink RX8 158 "StateRecords$Thing" "rows" "[LStateRecords$Row;", Cond.fieldLink RX8 161 "StateRecords$Row" "items" "[J", Cond.methodLink RX8 315 yX7_hasRowLane, Cond.instanceMethod yX7_hasRowLane, Cond.selects RX7 yX7_hasRowLane yX7_hasRowLane]
noncomputable def wsX8_firstFailingCheck_r3 : List Cond := [Cond.code yX7_hasRowLane cX7_hasRowLane 2 (some .boolean), Cond.static yX8_isRowLane, Cond.code yX8_isRowLane cX8_isRowLane 1 (some .boolean), Cond.methodLink RX8 293 yX8_failureOfHolds, Cond.static yX8_failureOfHolds, Cond.code yX8_failureOfHolds cX8_failureOfHolds 4 (some .int), Cond.constantLong RX8 318 (12), Cond.methodLink RX8 296 yX8_failureOfLeast, Cond.static yX8_failureOfLeast, Cond.code yX8_failureOfLeast cX8_failureOfLeast 2 (some .int), Cond.methodLink RX8 299 yX8_failureOfLeads, Cond.instanceMethod yX8_failureOfLeads, Cond.selects RX8 yX8_failureOfLeads yX8_failureOfLeads, Cond.code yX8_failureOfLeads cX8_failureOfLeads 5 (some .int), Cond.fieldLink RX8 320 "StateRecords$Type" "names" "[I", Cond.methodLink RX8 78 yX7_fieldNamed, Cond.instanceMethod yX7_fieldNamed, Cond.selects RX7 yX7_fieldNamed yX7_fieldNamed, Cond.code yX7_fieldNamed cX7_fieldNamed 3 (some .int), Cond.fieldLink RX7 9 "StateRecords$Type" "names" "[I"]
noncomputable def wsX8_firstFailingCheck : List Cond := .code yX8_firstFailingCheck cX8_firstFailingCheck 3 (some .int) :: ((wsX8_firstFailingCheck_r1 ++ (wsX8_firstFailingCheck_r2 ++ wsX8_firstFailingCheck_r3)) ++ wsX60 ++ wsX70 ++ wsX00 ++ wsX80 ++ wsX50)
noncomputable def wsX8_judge_r1 : List Cond := [Cond.fieldLink RX8 97 "StateRecords$Thing" "type" "LStateRecords$Type;", Cond.fieldLink RX8 118 "StateRecords$Type" "checks" "[LStateRecords$Check;", Cond.methodLink RX8 177 yX8_thingNumbered, Cond.instanceMethod yX8_thingNumbered, Cond.selects RX8 yX8_thingNumbered yX8_thingNumbered, Cond.initialized RX8, Cond.code yX8_thingNumbered cX8_thingNumbered 3 (some (.object "StateRecords$Thing")), Cond.fieldLink RX8 94 "StateRecords" "thingCount" "I", Cond.fieldLink RX8 17 "StateRecords" "things" "[LStateRecords$Thing;", Cond.methodLink RX8 208 yX8_firstFailingCheck, Cond.instanceMethod yX8_firstFailingCheck, Cond.selects RX8 yX8_firstFailingCheck yX8_firstFailingCheck, Cond.code yX8_firstFailingCheck cX8_firstFailingCheck 3 (some .int), Cond.fieldLink RX8 115 "StateRecords$Type" "checkCount" "I", Cond.methodLink RX8 212 yX8_failureOf, Cond.instanceMethod yX8_failureOf, Cond.selects RX8 yX8_failureOf yX8_failureOf, Cond.code yX8_failureOf cX8_failureOf 3 (some .int), Cond.fieldLink RX8 281 "StateRecords$Check" "kind" "I", Cond.methodLink RX8 284 yX8_failureOfDivides, Cond.static yX8_failureOfDivides, Cond.code yX8_failureOfDivides cX8_failureOfDivides 2 (some .int), Cond.fieldLink RX8 302 "StateRecords$Check" "a" "I", Cond.fieldLink RX8 308 "StateRecords$Check" "b" "I"]
noncomputable def wsX8_judge_r2 : List Cond := [Cond.fieldLink RX8 193 "StateRecords$Thing" "values" "[J", Cond.methodLink RX8 305 yX7_hasLane, Cond.instanceMethod yX7_hasLane, Cond.selects RX7 yX7_hasLane yX7_hasLane, Cond.initialized RX7, Cond.code yX7_hasLane cX7_hasLane 3 (some .boolean), Cond.fieldLink RX7 15 "StateRecords$Type" "lanes" "[I", Cond.methodLink RX7 43 yX7_hasField, Cond.instanceMethod yX7_hasField, Cond.selects RX7 yX7_hasField yX7_hasField, Cond.code yX7_hasField cX7_hasField 2 (some .boolean), Cond.fieldLink RX7 36 "StateRecords$Type" "fieldCount" "I", Cond.static yX8_isBelow, Cond.code yX8_isBelow cX8_isBelow 2 (some .boolean), Cond.methodLink RX8 287 yX8_failureOfMeets, Cond.instanceMethod yX8_failureOfMeets, Cond.selects RX8 yX8_failureOfMeets yX8_failureOfMeets, Cond.code yX8_failureOfMeets cX8_failureOfMeets 4 (some .int), Cond.fieldLink RX8 205 "StateRecords$Type" "number" "I", Cond.fieldLink RX8 311 "StateRecords$Check" "v" "J", Cond.methodLink RX8 290 yX8_failureOfHas, Cond.static yX8_failureOfHas, Cond.code yX8_failureOfHas cX8_failureOfHas 5 (some .int), Cond.fieldLink RX8 158 "StateRecords$Thing" "rows" "[LStateRecords$Row;"]
noncomputable def wsX8_judge_r3 : List Cond := [Cond.fieldLink RX8 161 "StateRecords$Row" "items" "[J", Cond.methodLink RX8 315 yX7_hasRowLane, Cond.instanceMethod yX7_hasRowLane, Cond.selects RX7 yX7_hasRowLane yX7_hasRowLane, Cond.code yX7_hasRowLane cX7_hasRowLane 2 (some .boolean), Cond.static yX8_isRowLane, Cond.code yX8_isRowLane cX8_isRowLane 1 (some .boolean), Cond.methodLink RX8 293 yX8_failureOfHolds, Cond.static yX8_failureOfHolds, Cond.code yX8_failureOfHolds cX8_failureOfHolds 4 (some .int), Cond.constantLong RX8 318 (12), Cond.methodLink RX8 296 yX8_failureOfLeast, Cond.static yX8_failureOfLeast, Cond.code yX8_failureOfLeast cX8_failureOfLeast 2 (some .int), Cond.methodLink RX8 299 yX8_failureOfLeads, Cond.instanceMethod yX8_failureOfLeads, Cond.selects RX8 yX8_failureOfLeads yX8_failureOfLeads, Cond.code yX8_failureOfLeads cX8_failureOfLeads 5 (some .int), Cond.fieldLink RX8 320 "StateRecords$Type" "names" "[I", Cond.methodLink RX8 78 yX7_fieldNamed, Cond.instanceMethod yX7_fieldNamed, Cond.selects RX7 yX7_fieldNamed yX7_fieldNamed, Cond.code yX7_fieldNamed cX7_fieldNamed 3 (some .int), Cond.fieldLink RX7 9 "StateRecords$Type" "names" "[I"]
noncomputable def wsX8_judge_r4 : List Cond := [Cond.methodLink RX8 139 yX8_failed, Cond.static yX8_failed, Cond.code yX8_failed cX8_failed 1 (some .int)]
noncomputable def wsX8_judge : List Cond := .code yX8_judge cX8_judge 4 (some .int) :: ((wsX8_judge_r1 ++ (wsX8_judge_r2 ++ (wsX8_judge_r3 ++ wsX8_judge_r4))) ++ wsX60 ++ wsX70 ++ wsX80 ++ wsX00 ++ wsX50)
noncomputable def wsX8_forgetNumbers : List Cond := .code yX8_forgetNumbers cX8_forgetNumbers 2 none :: (([.fieldLink RX8 94 "StateRecords" "thingCount" "I", .fieldLink RX8 17 "StateRecords" "things" "[LStateRecords$Thing;", .methodLink RX8 332 yX6_forgetNumbers, .instanceMethod yX6_forgetNumbers, .selects RX6 yX6_forgetNumbers yX6_forgetNumbers, .initialized RX6, .code yX6_forgetNumbers cX6_forgetNumbers 2 none, .fieldLink RX6 38 "StateRecords$Thing" "recordNumber" "I", .fieldLink RX6 21 "StateRecords$Thing" "type" "LStateRecords$Type;", .fieldLink RX6 25 "StateRecords$Type" "fieldCount" "I", .fieldLink RX6 17 "StateRecords$Thing" "rows" "[LStateRecords$Row;", .fieldLink RX6 41 "StateRecords$Row" "number" "I"] : List Cond) ++ wsX80 ++ wsX60 ++ wsX70 ++ wsX50)
noncomputable def wsX8_recordNumberOf : List Cond := .code yX8_recordNumberOf cX8_recordNumberOf 3 (some .int) :: (([.fieldLink RX8 333 "StateRecords$Thing" "recordNumber" "I", .fieldLink RX8 231 "StateRecords$Records" "recordCount" "I", .fieldLink RX8 39 "StateRecords" "recorded" "[LStateRecords$Thing;", .fieldLink RX8 336 "StateRecords$Records" "types" "[I", .fieldLink RX8 97 "StateRecords$Thing" "type" "LStateRecords$Type;", .fieldLink RX8 205 "StateRecords$Type" "number" "I", .fieldLink RX8 338 "StateRecords$Records" "fieldCounts" "[I", .fieldLink RX8 85 "StateRecords$Type" "fieldCount" "I"] : List Cond) ++ wsX60 ++ wsX40 ++ wsX80 ++ wsX70)
noncomputable def wsX8_recordedValue_r1 : List Cond := [Cond.fieldLink RX8 97 "StateRecords$Thing" "type" "LStateRecords$Type;", Cond.fieldLink RX8 135 "StateRecords$Type" "lanes" "[I", Cond.fieldLink RX8 158 "StateRecords$Thing" "rows" "[LStateRecords$Row;", Cond.constantLong RX8 88 (-1), Cond.fieldLink RX8 193 "StateRecords$Thing" "values" "[J", Cond.methodLink RX8 150 yX8_isRowLane, Cond.static yX8_isRowLane, Cond.initialized RX8, Cond.code yX8_isRowLane cX8_isRowLane 1 (some .boolean), Cond.methodLink RX8 347 yX4_numberOf, Cond.instanceMethod yX4_numberOf, Cond.selects RX4 yX4_numberOf yX4_numberOf, Cond.initialized RX4, Cond.code yX4_numberOf cX4_numberOf 3 (some .int), Cond.fieldLink RX4 34 "StateRecords$Row" "number" "I", Cond.fieldLink RX4 40 "StateRecords$Records" "rowCount" "I", Cond.fieldLink RX4 28 "StateRecords$Records" "rowLengths" "[I", Cond.fieldLink RX4 43 "StateRecords$Row" "items" "[J", Cond.fieldLink RX4 31 "StateRecords$Records" "items" "[J", Cond.methodLink RX8 177 yX8_thingNumbered, Cond.instanceMethod yX8_thingNumbered, Cond.selects RX8 yX8_thingNumbered yX8_thingNumbered, Cond.code yX8_thingNumbered cX8_thingNumbered 3 (some (.object "StateRecords$Thing")), Cond.fieldLink RX8 94 "StateRecords" "thingCount" "I"]
noncomputable def wsX8_recordedValue_r2 : List Cond := [Cond.fieldLink RX8 17 "StateRecords" "things" "[LStateRecords$Thing;", Cond.methodLink RX8 324 yX8_recordNumberOf, Cond.instanceMethod yX8_recordNumberOf, Cond.selects RX8 yX8_recordNumberOf yX8_recordNumberOf, Cond.code yX8_recordNumberOf cX8_recordNumberOf 3 (some .int), Cond.fieldLink RX8 333 "StateRecords$Thing" "recordNumber" "I", Cond.fieldLink RX8 231 "StateRecords$Records" "recordCount" "I", Cond.fieldLink RX8 39 "StateRecords" "recorded" "[LStateRecords$Thing;", Cond.fieldLink RX8 336 "StateRecords$Records" "types" "[I", Cond.fieldLink RX8 205 "StateRecords$Type" "number" "I", Cond.fieldLink RX8 338 "StateRecords$Records" "fieldCounts" "[I", Cond.fieldLink RX8 85 "StateRecords$Type" "fieldCount" "I"]
noncomputable def wsX8_recordedValue : List Cond := .code yX8_recordedValue cX8_recordedValue 6 (some .long) :: ((wsX8_recordedValue_r1 ++ wsX8_recordedValue_r2) ++ wsX60 ++ wsX70 ++ wsX50 ++ wsX40 ++ wsX80)
noncomputable def wsX8_recordFields_r1 : List Cond := [Cond.fieldLink RX8 97 "StateRecords$Thing" "type" "LStateRecords$Type;", Cond.fieldLink RX8 85 "StateRecords$Type" "fieldCount" "I", Cond.fieldLink RX8 224 "StateRecords$Records" "names" "[I", Cond.fieldLink RX8 320 "StateRecords$Type" "names" "[I", Cond.fieldLink RX8 341 "StateRecords$Records" "lanes" "[I", Cond.fieldLink RX8 135 "StateRecords$Type" "lanes" "[I", Cond.fieldLink RX8 342 "StateRecords$Records" "values" "[J", Cond.methodLink RX8 343 yX8_recordedValue, Cond.instanceMethod yX8_recordedValue, Cond.selects RX8 yX8_recordedValue yX8_recordedValue, Cond.initialized RX8, Cond.code yX8_recordedValue cX8_recordedValue 6 (some .long), Cond.fieldLink RX8 158 "StateRecords$Thing" "rows" "[LStateRecords$Row;", Cond.constantLong RX8 88 (-1), Cond.fieldLink RX8 193 "StateRecords$Thing" "values" "[J", Cond.methodLink RX8 150 yX8_isRowLane, Cond.static yX8_isRowLane, Cond.code yX8_isRowLane cX8_isRowLane 1 (some .boolean), Cond.methodLink RX8 347 yX4_numberOf, Cond.instanceMethod yX4_numberOf, Cond.selects RX4 yX4_numberOf yX4_numberOf, Cond.initialized RX4, Cond.code yX4_numberOf cX4_numberOf 3 (some .int), Cond.fieldLink RX4 34 "StateRecords$Row" "number" "I"]
noncomputable def wsX8_recordFields_r2 : List Cond := [Cond.fieldLink RX4 40 "StateRecords$Records" "rowCount" "I", Cond.fieldLink RX4 28 "StateRecords$Records" "rowLengths" "[I", Cond.fieldLink RX4 43 "StateRecords$Row" "items" "[J", Cond.fieldLink RX4 31 "StateRecords$Records" "items" "[J", Cond.methodLink RX8 177 yX8_thingNumbered, Cond.instanceMethod yX8_thingNumbered, Cond.selects RX8 yX8_thingNumbered yX8_thingNumbered, Cond.code yX8_thingNumbered cX8_thingNumbered 3 (some (.object "StateRecords$Thing")), Cond.fieldLink RX8 94 "StateRecords" "thingCount" "I", Cond.fieldLink RX8 17 "StateRecords" "things" "[LStateRecords$Thing;", Cond.methodLink RX8 324 yX8_recordNumberOf, Cond.instanceMethod yX8_recordNumberOf, Cond.selects RX8 yX8_recordNumberOf yX8_recordNumberOf, Cond.code yX8_recordNumberOf cX8_recordNumberOf 3 (some .int), Cond.fieldLink RX8 333 "StateRecords$Thing" "recordNumber" "I", Cond.fieldLink RX8 231 "StateRecords$Records" "recordCount" "I", Cond.fieldLink RX8 39 "StateRecords" "recorded" "[LStateRecords$Thing;", Cond.fieldLink RX8 336 "StateRecords$Records" "types" "[I", Cond.fieldLink RX8 205 "StateRecords$Type" "number" "I", Cond.fieldLink RX8 338 "StateRecords$Records" "fieldCounts" "[I"]
noncomputable def wsX8_recordFields : List Cond := .code yX8_recordFields cX8_recordFields 6 none :: ((wsX8_recordFields_r1 ++ wsX8_recordFields_r2) ++ wsX60 ++ wsX70 ++ wsX40 ++ wsX50 ++ wsX80)
noncomputable def wsX8_recordFrom_r1 : List Cond := [Cond.fieldLink RX8 231 "StateRecords$Records" "recordCount" "I", Cond.fieldLink RX8 234 "StateRecords$Records" "rowCount" "I", Cond.fieldLink RX8 39 "StateRecords" "recorded" "[LStateRecords$Thing;", Cond.methodLink RX8 321 yX8_forgetNumbers, Cond.instanceMethod yX8_forgetNumbers, Cond.selects RX8 yX8_forgetNumbers yX8_forgetNumbers, Cond.initialized RX8, Cond.code yX8_forgetNumbers cX8_forgetNumbers 2 none, Cond.fieldLink RX8 94 "StateRecords" "thingCount" "I", Cond.fieldLink RX8 17 "StateRecords" "things" "[LStateRecords$Thing;", Cond.methodLink RX8 332 yX6_forgetNumbers, Cond.instanceMethod yX6_forgetNumbers, Cond.selects RX6 yX6_forgetNumbers yX6_forgetNumbers, Cond.initialized RX6, Cond.code yX6_forgetNumbers cX6_forgetNumbers 2 none, Cond.fieldLink RX6 38 "StateRecords$Thing" "recordNumber" "I", Cond.fieldLink RX6 21 "StateRecords$Thing" "type" "LStateRecords$Type;", Cond.fieldLink RX6 25 "StateRecords$Type" "fieldCount" "I", Cond.fieldLink RX6 17 "StateRecords$Thing" "rows" "[LStateRecords$Row;", Cond.fieldLink RX6 41 "StateRecords$Row" "number" "I", Cond.methodLink RX8 324 yX8_recordNumberOf, Cond.instanceMethod yX8_recordNumberOf, Cond.selects RX8 yX8_recordNumberOf yX8_recordNumberOf, Cond.code yX8_recordNumberOf cX8_recordNumberOf 3 (some .int)]
noncomputable def wsX8_recordFrom_r2 : List Cond := [Cond.fieldLink RX8 333 "StateRecords$Thing" "recordNumber" "I", Cond.fieldLink RX8 336 "StateRecords$Records" "types" "[I", Cond.fieldLink RX8 97 "StateRecords$Thing" "type" "LStateRecords$Type;", Cond.fieldLink RX8 205 "StateRecords$Type" "number" "I", Cond.fieldLink RX8 338 "StateRecords$Records" "fieldCounts" "[I", Cond.fieldLink RX8 85 "StateRecords$Type" "fieldCount" "I", Cond.methodLink RX8 328 yX8_recordFields, Cond.instanceMethod yX8_recordFields, Cond.selects RX8 yX8_recordFields yX8_recordFields, Cond.code yX8_recordFields cX8_recordFields 6 none, Cond.fieldLink RX8 224 "StateRecords$Records" "names" "[I", Cond.fieldLink RX8 320 "StateRecords$Type" "names" "[I", Cond.fieldLink RX8 341 "StateRecords$Records" "lanes" "[I", Cond.fieldLink RX8 135 "StateRecords$Type" "lanes" "[I", Cond.fieldLink RX8 342 "StateRecords$Records" "values" "[J", Cond.methodLink RX8 343 yX8_recordedValue, Cond.instanceMethod yX8_recordedValue, Cond.selects RX8 yX8_recordedValue yX8_recordedValue, Cond.code yX8_recordedValue cX8_recordedValue 6 (some .long), Cond.fieldLink RX8 158 "StateRecords$Thing" "rows" "[LStateRecords$Row;", Cond.constantLong RX8 88 (-1), Cond.fieldLink RX8 193 "StateRecords$Thing" "values" "[J", Cond.methodLink RX8 150 yX8_isRowLane, Cond.static yX8_isRowLane]
noncomputable def wsX8_recordFrom_r3 : List Cond := [Cond.code yX8_isRowLane cX8_isRowLane 1 (some .boolean), Cond.methodLink RX8 347 yX4_numberOf, Cond.instanceMethod yX4_numberOf, Cond.selects RX4 yX4_numberOf yX4_numberOf, Cond.initialized RX4, Cond.code yX4_numberOf cX4_numberOf 3 (some .int), Cond.fieldLink RX4 34 "StateRecords$Row" "number" "I", Cond.fieldLink RX4 40 "StateRecords$Records" "rowCount" "I", Cond.fieldLink RX4 28 "StateRecords$Records" "rowLengths" "[I", Cond.fieldLink RX4 43 "StateRecords$Row" "items" "[J", Cond.fieldLink RX4 31 "StateRecords$Records" "items" "[J", Cond.methodLink RX8 177 yX8_thingNumbered, Cond.instanceMethod yX8_thingNumbered, Cond.selects RX8 yX8_thingNumbered yX8_thingNumbered, Cond.code yX8_thingNumbered cX8_thingNumbered 3 (some (.object "StateRecords$Thing"))]
noncomputable def wsX8_recordFrom : List Cond := .code yX8_recordFrom cX8_recordFrom 4 none :: ((wsX8_recordFrom_r1 ++ (wsX8_recordFrom_r2 ++ wsX8_recordFrom_r3)) ++ wsX40 ++ wsX80 ++ wsX60 ++ wsX70 ++ wsX50)
noncomputable def wsX8_firstShutSlot : List Cond := .code yX8_firstShutSlot cX8_firstShutSlot 5 (some .int) :: (([.fieldLink RX8 231 "StateRecords$Records" "recordCount" "I", .fieldLink RX8 39 "StateRecords" "recorded" "[LStateRecords$Thing;", .fieldLink RX8 97 "StateRecords$Thing" "type" "LStateRecords$Type;", .fieldLink RX8 85 "StateRecords$Type" "fieldCount" "I", .fieldLink RX8 112 "StateRecords$Type" "shuts" "[Z"] : List Cond) ++ wsX40 ++ wsX80 ++ wsX60 ++ wsX70)
noncomputable def wsX8_save_r1 : List Cond := [Cond.fieldLink RX8 32 "StateRecords" "spare" "LStateRecords$Records;", Cond.fieldLink RX8 58 "StateRecords" "latestFault" "LStateRecords$Fault;", Cond.fieldLink RX8 224 "StateRecords$Records" "names" "[I", Cond.fieldLink RX8 27 "StateRecords" "saves" "[LStateRecords$Records;", Cond.fieldLink RX8 231 "StateRecords$Records" "recordCount" "I", Cond.methodLink RX8 177 yX8_thingNumbered, Cond.instanceMethod yX8_thingNumbered, Cond.selects RX8 yX8_thingNumbered yX8_thingNumbered, Cond.initialized RX8, Cond.code yX8_thingNumbered cX8_thingNumbered 3 (some (.object "StateRecords$Thing")), Cond.fieldLink RX8 94 "StateRecords" "thingCount" "I", Cond.fieldLink RX8 17 "StateRecords" "things" "[LStateRecords$Thing;", Cond.methodLink RX8 74 yX8_isBelow, Cond.static yX8_isBelow, Cond.code yX8_isBelow cX8_isBelow 2 (some .boolean), Cond.methodLink RX8 216 yX8_recordFrom, Cond.instanceMethod yX8_recordFrom, Cond.selects RX8 yX8_recordFrom yX8_recordFrom, Cond.code yX8_recordFrom cX8_recordFrom 4 none, Cond.fieldLink RX8 234 "StateRecords$Records" "rowCount" "I", Cond.fieldLink RX8 39 "StateRecords" "recorded" "[LStateRecords$Thing;", Cond.methodLink RX8 321 yX8_forgetNumbers, Cond.instanceMethod yX8_forgetNumbers, Cond.selects RX8 yX8_forgetNumbers yX8_forgetNumbers]
noncomputable def wsX8_save_r2 : List Cond := [Cond.code yX8_forgetNumbers cX8_forgetNumbers 2 none, Cond.methodLink RX8 332 yX6_forgetNumbers, Cond.instanceMethod yX6_forgetNumbers, Cond.selects RX6 yX6_forgetNumbers yX6_forgetNumbers, Cond.initialized RX6, Cond.code yX6_forgetNumbers cX6_forgetNumbers 2 none, Cond.fieldLink RX6 38 "StateRecords$Thing" "recordNumber" "I", Cond.fieldLink RX6 21 "StateRecords$Thing" "type" "LStateRecords$Type;", Cond.fieldLink RX6 25 "StateRecords$Type" "fieldCount" "I", Cond.fieldLink RX6 17 "StateRecords$Thing" "rows" "[LStateRecords$Row;", Cond.fieldLink RX6 41 "StateRecords$Row" "number" "I", Cond.methodLink RX8 324 yX8_recordNumberOf, Cond.instanceMethod yX8_recordNumberOf, Cond.selects RX8 yX8_recordNumberOf yX8_recordNumberOf, Cond.code yX8_recordNumberOf cX8_recordNumberOf 3 (some .int), Cond.fieldLink RX8 333 "StateRecords$Thing" "recordNumber" "I", Cond.fieldLink RX8 336 "StateRecords$Records" "types" "[I", Cond.fieldLink RX8 97 "StateRecords$Thing" "type" "LStateRecords$Type;", Cond.fieldLink RX8 205 "StateRecords$Type" "number" "I", Cond.fieldLink RX8 338 "StateRecords$Records" "fieldCounts" "[I", Cond.fieldLink RX8 85 "StateRecords$Type" "fieldCount" "I", Cond.methodLink RX8 328 yX8_recordFields, Cond.instanceMethod yX8_recordFields, Cond.selects RX8 yX8_recordFields yX8_recordFields]
noncomputable def wsX8_save_r3 : List Cond := [Cond.code yX8_recordFields cX8_recordFields 6 none, Cond.fieldLink RX8 320 "StateRecords$Type" "names" "[I", Cond.fieldLink RX8 341 "StateRecords$Records" "lanes" "[I", Cond.fieldLink RX8 135 "StateRecords$Type" "lanes" "[I", Cond.fieldLink RX8 342 "StateRecords$Records" "values" "[J", Cond.methodLink RX8 343 yX8_recordedValue, Cond.instanceMethod yX8_recordedValue, Cond.selects RX8 yX8_recordedValue yX8_recordedValue, Cond.code yX8_recordedValue cX8_recordedValue 6 (some .long), Cond.fieldLink RX8 158 "StateRecords$Thing" "rows" "[LStateRecords$Row;", Cond.constantLong RX8 88 (-1), Cond.fieldLink RX8 193 "StateRecords$Thing" "values" "[J", Cond.methodLink RX8 150 yX8_isRowLane, Cond.static yX8_isRowLane, Cond.code yX8_isRowLane cX8_isRowLane 1 (some .boolean), Cond.methodLink RX8 347 yX4_numberOf, Cond.instanceMethod yX4_numberOf, Cond.selects RX4 yX4_numberOf yX4_numberOf, Cond.initialized RX4, Cond.code yX4_numberOf cX4_numberOf 3 (some .int), Cond.fieldLink RX4 34 "StateRecords$Row" "number" "I", Cond.fieldLink RX4 40 "StateRecords$Records" "rowCount" "I", Cond.fieldLink RX4 28 "StateRecords$Records" "rowLengths" "[I", Cond.fieldLink RX4 43 "StateRecords$Row" "items" "[J"]
noncomputable def wsX8_save_r4 : List Cond := [Cond.fieldLink RX4 31 "StateRecords$Records" "items" "[J", Cond.methodLink RX8 220 yX8_firstShutSlot, Cond.instanceMethod yX8_firstShutSlot, Cond.selects RX8 yX8_firstShutSlot yX8_firstShutSlot, Cond.code yX8_firstShutSlot cX8_firstShutSlot 5 (some .int), Cond.fieldLink RX8 112 "StateRecords$Type" "shuts" "[Z", Cond.methodLink RX8 227 yX1_tell, Cond.instanceMethod yX1_tell, Cond.selects RX1 yX1_tell yX1_tell, Cond.initialized RX1, Cond.code yX1_tell cX1_tell 4 none, Cond.fieldLink RX1 7 "StateRecords$Fault" "isTold" "Z", Cond.fieldLink RX1 13 "StateRecords$Fault" "record" "I", Cond.fieldLink RX1 17 "StateRecords$Fault" "name" "I", Cond.fieldLink RX1 20 "StateRecords$Fault" "check" "I", Cond.methodLink RX8 139 yX8_failed, Cond.static yX8_failed, Cond.code yX8_failed cX8_failed 1 (some .int)]
noncomputable def wsX8_save : List Cond := .code yX8_save cX8_save 6 (some .int) :: ((wsX8_save_r1 ++ (wsX8_save_r2 ++ (wsX8_save_r3 ++ wsX8_save_r4))) ++ wsX80 ++ wsX40 ++ wsX60 ++ wsX70 ++ wsX50 ++ wsX10)
noncomputable def wsX8_saved : List Cond := .code yX8_saved cX8_saved 3 (some .int) :: (([.fieldLink RX8 27 "StateRecords" "saves" "[LStateRecords$Records;", .fieldLink RX8 231 "StateRecords$Records" "recordCount" "I", .fieldLink RX8 234 "StateRecords$Records" "rowCount" "I", .methodLink RX8 74 yX8_isBelow, .static yX8_isBelow, .initialized RX8, .code yX8_isBelow cX8_isBelow 2 (some .boolean)] : List Cond) ++ wsX80 ++ wsX40)
noncomputable def wsX8_addThings : List Cond := .code yX8_addThings cX8_addThings 3 none :: (([.fieldLink RX8 231 "StateRecords$Records" "recordCount" "I", .fieldLink RX8 17 "StateRecords" "things" "[LStateRecords$Thing;", .fieldLink RX8 94 "StateRecords" "thingCount" "I", .fieldLink RX8 11 "StateRecords" "types" "[LStateRecords$Type;", .fieldLink RX8 336 "StateRecords$Records" "types" "[I", .methodLink RX8 127 yX6_become, .instanceMethod yX6_become, .selects RX6 yX6_become yX6_become, .initialized RX6, .code yX6_become cX6_become 3 none, .fieldLink RX6 21 "StateRecords$Thing" "type" "LStateRecords$Type;", .fieldLink RX6 25 "StateRecords$Type" "fieldCount" "I", .methodLink RX6 31 yX6_setDefault, .instanceMethod yX6_setDefault, .selects RX6 yX6_setDefault yX6_setDefault, .code yX6_setDefault cX6_setDefault 2 none, .fieldLink RX6 9 "StateRecords$Thing" "values" "[J", .fieldLink RX6 35 "StateRecords$Type" "defaults" "[J", .fieldLink RX6 17 "StateRecords$Thing" "rows" "[LStateRecords$Row;"] : List Cond) ++ wsX40 ++ wsX80 ++ wsX60 ++ wsX70)
noncomputable def wsX8_mayCome : List Cond := .code yX8_mayCome cX8_mayCome 2 (some .boolean) :: ([.methodLink RX8 150 yX8_isRowLane, .static yX8_isRowLane, .initialized RX8, .code yX8_isRowLane cX8_isRowLane 1 (some .boolean)])
noncomputable def wsX8_rowPutBack : List Cond := .code yX8_rowPutBack cX8_rowPutBack 5 (some (.object "StateRecords$Row")) :: (([.fieldLink RX8 44 "StateRecords" "rowsPutBack" "[LStateRecords$Row;", .methodLink RX8 375 yX4_copyOfRow, .instanceMethod yX4_copyOfRow, .selects RX4 yX4_copyOfRow yX4_copyOfRow, .initialized RX4, .code yX4_copyOfRow cX4_copyOfRow 4 (some (.object "StateRecords$Row")), .classLink RX4 35 RX5, .instantiable RX5 2, .initialized RX5, .fieldLink RX4 28 "StateRecords$Records" "rowLengths" "[I", .fieldLink RX4 43 "StateRecords$Row" "items" "[J", .fieldLink RX4 31 "StateRecords$Records" "items" "[J", .methodLink RX4 44 yX5_init, .instanceMethod yX5_init, .code yX5_init cX5_init 2 none, .methodLink RX5 1 objectInit, .instanceMethod objectInit, .code objectInit ⟨#[0xb1]⟩ 1 none, .arrayClass .long, .fieldLink RX5 7 "StateRecords$Row" "items" "[J"] : List Cond) ++ wsX80 ++ wsX50 ++ wsX40)
noncomputable def wsX8_fillField_r1 : List Cond := [Cond.fieldLink RX8 97 "StateRecords$Thing" "type" "LStateRecords$Type;", Cond.fieldLink RX8 224 "StateRecords$Records" "names" "[I", Cond.fieldLink RX8 135 "StateRecords$Type" "lanes" "[I", Cond.fieldLink RX8 341 "StateRecords$Records" "lanes" "[I", Cond.fieldLink RX8 342 "StateRecords$Records" "values" "[J", Cond.constantLong RX8 88 (-1), Cond.fieldLink RX8 158 "StateRecords$Thing" "rows" "[LStateRecords$Row;", Cond.fieldLink RX8 193 "StateRecords$Thing" "values" "[J", Cond.methodLink RX8 78 yX7_fieldNamed, Cond.instanceMethod yX7_fieldNamed, Cond.selects RX7 yX7_fieldNamed yX7_fieldNamed, Cond.initialized RX7, Cond.code yX7_fieldNamed cX7_fieldNamed 3 (some .int), Cond.fieldLink RX7 36 "StateRecords$Type" "fieldCount" "I", Cond.fieldLink RX7 9 "StateRecords$Type" "names" "[I", Cond.methodLink RX8 368 yX8_mayCome, Cond.static yX8_mayCome, Cond.initialized RX8, Cond.code yX8_mayCome cX8_mayCome 2 (some .boolean), Cond.methodLink RX8 150 yX8_isRowLane, Cond.static yX8_isRowLane, Cond.code yX8_isRowLane cX8_isRowLane 1 (some .boolean), Cond.methodLink RX8 142 yX8_isWordInUse, Cond.instanceMethod yX8_isWordInUse]
noncomputable def wsX8_fillField_r2 : List Cond := [Cond.selects RX8 yX8_isWordInUse yX8_isWordInUse, Cond.code yX8_isWordInUse cX8_isWordInUse 3 (some .boolean), Cond.constantLong RX8 275 (16), Cond.fieldLink RX8 21 "StateRecords" "wordsInUse" "[Z", Cond.methodLink RX8 371 yX8_rowPutBack, Cond.instanceMethod yX8_rowPutBack, Cond.selects RX8 yX8_rowPutBack yX8_rowPutBack, Cond.code yX8_rowPutBack cX8_rowPutBack 5 (some (.object "StateRecords$Row")), Cond.fieldLink RX8 44 "StateRecords" "rowsPutBack" "[LStateRecords$Row;", Cond.methodLink RX8 375 yX4_copyOfRow, Cond.instanceMethod yX4_copyOfRow, Cond.selects RX4 yX4_copyOfRow yX4_copyOfRow, Cond.initialized RX4, Cond.code yX4_copyOfRow cX4_copyOfRow 4 (some (.object "StateRecords$Row")), Cond.classLink RX4 35 RX5, Cond.instantiable RX5 2, Cond.initialized RX5, Cond.fieldLink RX4 28 "StateRecords$Records" "rowLengths" "[I", Cond.fieldLink RX4 43 "StateRecords$Row" "items" "[J", Cond.fieldLink RX4 31 "StateRecords$Records" "items" "[J", Cond.methodLink RX4 44 yX5_init, Cond.instanceMethod yX5_init, Cond.code yX5_init cX5_init 2 none, Cond.methodLink RX5 1 objectInit]
noncomputable def wsX8_fillField_r3 : List Cond := [Cond.instanceMethod objectInit, Cond.code objectInit ⟨#[0xb1]⟩ 1 none, Cond.arrayClass .long, Cond.fieldLink RX5 7 "StateRecords$Row" "items" "[J"]
noncomputable def wsX8_fillField : List Cond := .code yX8_fillField cX8_fillField 10 (some .int) :: ((wsX8_fillField_r1 ++ (wsX8_fillField_r2 ++ wsX8_fillField_r3)) ++ wsX60 ++ wsX40 ++ wsX70 ++ wsX80 ++ wsX50)
noncomputable def wsX8_fillThings_r1 : List Cond := [Cond.fieldLink RX8 234 "StateRecords$Records" "rowCount" "I", Cond.fieldLink RX8 44 "StateRecords" "rowsPutBack" "[LStateRecords$Row;", Cond.fieldLink RX8 231 "StateRecords$Records" "recordCount" "I", Cond.fieldLink RX8 338 "StateRecords$Records" "fieldCounts" "[I", Cond.fieldLink RX8 17 "StateRecords" "things" "[LStateRecords$Thing;", Cond.fieldLink RX8 58 "StateRecords" "latestFault" "LStateRecords$Fault;", Cond.fieldLink RX8 224 "StateRecords$Records" "names" "[I", Cond.methodLink RX8 364 yX8_fillField, Cond.instanceMethod yX8_fillField, Cond.selects RX8 yX8_fillField yX8_fillField, Cond.initialized RX8, Cond.code yX8_fillField cX8_fillField 10 (some .int), Cond.fieldLink RX8 97 "StateRecords$Thing" "type" "LStateRecords$Type;", Cond.fieldLink RX8 135 "StateRecords$Type" "lanes" "[I", Cond.fieldLink RX8 341 "StateRecords$Records" "lanes" "[I", Cond.fieldLink RX8 342 "StateRecords$Records" "values" "[J", Cond.constantLong RX8 88 (-1), Cond.fieldLink RX8 158 "StateRecords$Thing" "rows" "[LStateRecords$Row;", Cond.fieldLink RX8 193 "StateRecords$Thing" "values" "[J", Cond.methodLink RX8 78 yX7_fieldNamed, Cond.instanceMethod yX7_fieldNamed, Cond.selects RX7 yX7_fieldNamed yX7_fieldNamed, Cond.initialized RX7, Cond.code yX7_fieldNamed cX7_fieldNamed 3 (some .int)]
noncomputable def wsX8_fillThings_r2 : List Cond := [Cond.fieldLink RX7 36 "StateRecords$Type" "fieldCount" "I", Cond.fieldLink RX7 9 "StateRecords$Type" "names" "[I", Cond.methodLink RX8 368 yX8_mayCome, Cond.static yX8_mayCome, Cond.code yX8_mayCome cX8_mayCome 2 (some .boolean), Cond.methodLink RX8 150 yX8_isRowLane, Cond.static yX8_isRowLane, Cond.code yX8_isRowLane cX8_isRowLane 1 (some .boolean), Cond.methodLink RX8 142 yX8_isWordInUse, Cond.instanceMethod yX8_isWordInUse, Cond.selects RX8 yX8_isWordInUse yX8_isWordInUse, Cond.code yX8_isWordInUse cX8_isWordInUse 3 (some .boolean), Cond.constantLong RX8 275 (16), Cond.fieldLink RX8 21 "StateRecords" "wordsInUse" "[Z", Cond.methodLink RX8 371 yX8_rowPutBack, Cond.instanceMethod yX8_rowPutBack, Cond.selects RX8 yX8_rowPutBack yX8_rowPutBack, Cond.code yX8_rowPutBack cX8_rowPutBack 5 (some (.object "StateRecords$Row")), Cond.methodLink RX8 375 yX4_copyOfRow, Cond.instanceMethod yX4_copyOfRow, Cond.selects RX4 yX4_copyOfRow yX4_copyOfRow, Cond.initialized RX4, Cond.code yX4_copyOfRow cX4_copyOfRow 4 (some (.object "StateRecords$Row")), Cond.classLink RX4 35 RX5]
noncomputable def wsX8_fillThings_r3 : List Cond := [Cond.instantiable RX5 2, Cond.initialized RX5, Cond.fieldLink RX4 28 "StateRecords$Records" "rowLengths" "[I", Cond.fieldLink RX4 43 "StateRecords$Row" "items" "[J", Cond.fieldLink RX4 31 "StateRecords$Records" "items" "[J", Cond.methodLink RX4 44 yX5_init, Cond.instanceMethod yX5_init, Cond.code yX5_init cX5_init 2 none, Cond.methodLink RX5 1 objectInit, Cond.instanceMethod objectInit, Cond.code objectInit ⟨#[0xb1]⟩ 1 none, Cond.arrayClass .long, Cond.fieldLink RX5 7 "StateRecords$Row" "items" "[J", Cond.methodLink RX8 227 yX1_tell, Cond.instanceMethod yX1_tell, Cond.selects RX1 yX1_tell yX1_tell, Cond.initialized RX1, Cond.code yX1_tell cX1_tell 4 none, Cond.fieldLink RX1 7 "StateRecords$Fault" "isTold" "Z", Cond.fieldLink RX1 13 "StateRecords$Fault" "record" "I", Cond.fieldLink RX1 17 "StateRecords$Fault" "name" "I", Cond.fieldLink RX1 20 "StateRecords$Fault" "check" "I"]
noncomputable def wsX8_fillThings : List Cond := .code yX8_fillThings cX8_fillThings 8 (some .int) :: ((wsX8_fillThings_r1 ++ (wsX8_fillThings_r2 ++ wsX8_fillThings_r3)) ++ wsX40 ++ wsX80 ++ wsX60 ++ wsX70 ++ wsX50 ++ wsX10)
noncomputable def wsX8_judgeThings_r1 : List Cond := [Cond.fieldLink RX8 94 "StateRecords" "thingCount" "I", Cond.fieldLink RX8 17 "StateRecords" "things" "[LStateRecords$Thing;", Cond.fieldLink RX8 58 "StateRecords" "latestFault" "LStateRecords$Fault;", Cond.fieldLink RX8 97 "StateRecords$Thing" "type" "LStateRecords$Type;", Cond.fieldLink RX8 118 "StateRecords$Type" "checks" "[LStateRecords$Check;", Cond.methodLink RX8 208 yX8_firstFailingCheck, Cond.instanceMethod yX8_firstFailingCheck, Cond.selects RX8 yX8_firstFailingCheck yX8_firstFailingCheck, Cond.initialized RX8, Cond.code yX8_firstFailingCheck cX8_firstFailingCheck 3 (some .int), Cond.fieldLink RX8 115 "StateRecords$Type" "checkCount" "I", Cond.methodLink RX8 212 yX8_failureOf, Cond.instanceMethod yX8_failureOf, Cond.selects RX8 yX8_failureOf yX8_failureOf, Cond.code yX8_failureOf cX8_failureOf 3 (some .int), Cond.fieldLink RX8 281 "StateRecords$Check" "kind" "I", Cond.methodLink RX8 284 yX8_failureOfDivides, Cond.static yX8_failureOfDivides, Cond.code yX8_failureOfDivides cX8_failureOfDivides 2 (some .int), Cond.fieldLink RX8 302 "StateRecords$Check" "a" "I", Cond.fieldLink RX8 308 "StateRecords$Check" "b" "I", Cond.fieldLink RX8 193 "StateRecords$Thing" "values" "[J", Cond.methodLink RX8 305 yX7_hasLane, Cond.instanceMethod yX7_hasLane]
noncomputable def wsX8_judgeThings_r2 : List Cond := [Cond.selects RX7 yX7_hasLane yX7_hasLane, Cond.initialized RX7, Cond.code yX7_hasLane cX7_hasLane 3 (some .boolean), Cond.fieldLink RX7 15 "StateRecords$Type" "lanes" "[I", Cond.methodLink RX7 43 yX7_hasField, Cond.instanceMethod yX7_hasField, Cond.selects RX7 yX7_hasField yX7_hasField, Cond.code yX7_hasField cX7_hasField 2 (some .boolean), Cond.fieldLink RX7 36 "StateRecords$Type" "fieldCount" "I", Cond.static yX8_isBelow, Cond.code yX8_isBelow cX8_isBelow 2 (some .boolean), Cond.methodLink RX8 287 yX8_failureOfMeets, Cond.instanceMethod yX8_failureOfMeets, Cond.selects RX8 yX8_failureOfMeets yX8_failureOfMeets, Cond.code yX8_failureOfMeets cX8_failureOfMeets 4 (some .int), Cond.fieldLink RX8 205 "StateRecords$Type" "number" "I", Cond.fieldLink RX8 311 "StateRecords$Check" "v" "J", Cond.methodLink RX8 177 yX8_thingNumbered, Cond.instanceMethod yX8_thingNumbered, Cond.selects RX8 yX8_thingNumbered yX8_thingNumbered, Cond.code yX8_thingNumbered cX8_thingNumbered 3 (some (.object "StateRecords$Thing")), Cond.methodLink RX8 290 yX8_failureOfHas, Cond.static yX8_failureOfHas, Cond.code yX8_failureOfHas cX8_failureOfHas 5 (some .int)]
noncomputable def wsX8_judgeThings_r3 : List Cond := [Cond.fieldLink RX8 158 "StateRecords$Thing" "rows" "[LStateRecords$Row;", Cond.fieldLink RX8 161 "StateRecords$Row" "items" "[J", Cond.methodLink RX8 315 yX7_hasRowLane, Cond.instanceMethod yX7_hasRowLane, Cond.selects RX7 yX7_hasRowLane yX7_hasRowLane, Cond.code yX7_hasRowLane cX7_hasRowLane 2 (some .boolean), Cond.static yX8_isRowLane, Cond.code yX8_isRowLane cX8_isRowLane 1 (some .boolean), Cond.methodLink RX8 293 yX8_failureOfHolds, Cond.static yX8_failureOfHolds, Cond.code yX8_failureOfHolds cX8_failureOfHolds 4 (some .int), Cond.constantLong RX8 318 (12), Cond.methodLink RX8 296 yX8_failureOfLeast, Cond.static yX8_failureOfLeast, Cond.code yX8_failureOfLeast cX8_failureOfLeast 2 (some .int), Cond.methodLink RX8 299 yX8_failureOfLeads, Cond.instanceMethod yX8_failureOfLeads, Cond.selects RX8 yX8_failureOfLeads yX8_failureOfLeads, Cond.code yX8_failureOfLeads cX8_failureOfLeads 5 (some .int), Cond.fieldLink RX8 320 "StateRecords$Type" "names" "[I", Cond.methodLink RX8 78 yX7_fieldNamed, Cond.instanceMethod yX7_fieldNamed, Cond.selects RX7 yX7_fieldNamed yX7_fieldNamed, Cond.code yX7_fieldNamed cX7_fieldNamed 3 (some .int)]
noncomputable def wsX8_judgeThings_r4 : List Cond := [Cond.fieldLink RX7 9 "StateRecords$Type" "names" "[I", Cond.methodLink RX8 227 yX1_tell, Cond.instanceMethod yX1_tell, Cond.selects RX1 yX1_tell yX1_tell, Cond.initialized RX1, Cond.code yX1_tell cX1_tell 4 none, Cond.fieldLink RX1 7 "StateRecords$Fault" "isTold" "Z", Cond.fieldLink RX1 13 "StateRecords$Fault" "record" "I", Cond.fieldLink RX1 17 "StateRecords$Fault" "name" "I", Cond.fieldLink RX1 20 "StateRecords$Fault" "check" "I"]
noncomputable def wsX8_judgeThings : List Cond := .code yX8_judgeThings cX8_judgeThings 4 (some .int) :: ((wsX8_judgeThings_r1 ++ (wsX8_judgeThings_r2 ++ (wsX8_judgeThings_r3 ++ wsX8_judgeThings_r4))) ++ wsX80 ++ wsX60 ++ wsX70 ++ wsX00 ++ wsX50 ++ wsX10)
noncomputable def wsX8_restore_r1 : List Cond := [Cond.fieldLink RX8 27 "StateRecords" "saves" "[LStateRecords$Records;", Cond.fieldLink RX8 231 "StateRecords$Records" "recordCount" "I", Cond.fieldLink RX8 94 "StateRecords" "thingCount" "I", Cond.methodLink RX8 74 yX8_isBelow, Cond.static yX8_isBelow, Cond.initialized RX8, Cond.code yX8_isBelow cX8_isBelow 2 (some .boolean), Cond.methodLink RX8 237 yX8_addThings, Cond.instanceMethod yX8_addThings, Cond.selects RX8 yX8_addThings yX8_addThings, Cond.code yX8_addThings cX8_addThings 3 none, Cond.fieldLink RX8 17 "StateRecords" "things" "[LStateRecords$Thing;", Cond.fieldLink RX8 11 "StateRecords" "types" "[LStateRecords$Type;", Cond.fieldLink RX8 336 "StateRecords$Records" "types" "[I", Cond.methodLink RX8 127 yX6_become, Cond.instanceMethod yX6_become, Cond.selects RX6 yX6_become yX6_become, Cond.initialized RX6, Cond.code yX6_become cX6_become 3 none, Cond.fieldLink RX6 21 "StateRecords$Thing" "type" "LStateRecords$Type;", Cond.fieldLink RX6 25 "StateRecords$Type" "fieldCount" "I", Cond.methodLink RX6 31 yX6_setDefault, Cond.instanceMethod yX6_setDefault, Cond.selects RX6 yX6_setDefault yX6_setDefault]
noncomputable def wsX8_restore_r2 : List Cond := [Cond.code yX6_setDefault cX6_setDefault 2 none, Cond.fieldLink RX6 9 "StateRecords$Thing" "values" "[J", Cond.fieldLink RX6 35 "StateRecords$Type" "defaults" "[J", Cond.fieldLink RX6 17 "StateRecords$Thing" "rows" "[LStateRecords$Row;", Cond.methodLink RX8 241 yX8_fillThings, Cond.instanceMethod yX8_fillThings, Cond.selects RX8 yX8_fillThings yX8_fillThings, Cond.code yX8_fillThings cX8_fillThings 8 (some .int), Cond.fieldLink RX8 234 "StateRecords$Records" "rowCount" "I", Cond.fieldLink RX8 44 "StateRecords" "rowsPutBack" "[LStateRecords$Row;", Cond.fieldLink RX8 338 "StateRecords$Records" "fieldCounts" "[I", Cond.fieldLink RX8 58 "StateRecords" "latestFault" "LStateRecords$Fault;", Cond.fieldLink RX8 224 "StateRecords$Records" "names" "[I", Cond.methodLink RX8 364 yX8_fillField, Cond.instanceMethod yX8_fillField, Cond.selects RX8 yX8_fillField yX8_fillField, Cond.code yX8_fillField cX8_fillField 10 (some .int), Cond.fieldLink RX8 97 "StateRecords$Thing" "type" "LStateRecords$Type;", Cond.fieldLink RX8 135 "StateRecords$Type" "lanes" "[I", Cond.fieldLink RX8 341 "StateRecords$Records" "lanes" "[I", Cond.fieldLink RX8 342 "StateRecords$Records" "values" "[J", Cond.constantLong RX8 88 (-1), Cond.fieldLink RX8 158 "StateRecords$Thing" "rows" "[LStateRecords$Row;", Cond.fieldLink RX8 193 "StateRecords$Thing" "values" "[J"]
noncomputable def wsX8_restore_r3 : List Cond := [Cond.methodLink RX8 78 yX7_fieldNamed, Cond.instanceMethod yX7_fieldNamed, Cond.selects RX7 yX7_fieldNamed yX7_fieldNamed, Cond.initialized RX7, Cond.code yX7_fieldNamed cX7_fieldNamed 3 (some .int), Cond.fieldLink RX7 36 "StateRecords$Type" "fieldCount" "I", Cond.fieldLink RX7 9 "StateRecords$Type" "names" "[I", Cond.methodLink RX8 368 yX8_mayCome, Cond.static yX8_mayCome, Cond.code yX8_mayCome cX8_mayCome 2 (some .boolean), Cond.methodLink RX8 150 yX8_isRowLane, Cond.static yX8_isRowLane, Cond.code yX8_isRowLane cX8_isRowLane 1 (some .boolean), Cond.methodLink RX8 142 yX8_isWordInUse, Cond.instanceMethod yX8_isWordInUse, Cond.selects RX8 yX8_isWordInUse yX8_isWordInUse, Cond.code yX8_isWordInUse cX8_isWordInUse 3 (some .boolean), Cond.constantLong RX8 275 (16), Cond.fieldLink RX8 21 "StateRecords" "wordsInUse" "[Z", Cond.methodLink RX8 371 yX8_rowPutBack, Cond.instanceMethod yX8_rowPutBack, Cond.selects RX8 yX8_rowPutBack yX8_rowPutBack, Cond.code yX8_rowPutBack cX8_rowPutBack 5 (some (.object "StateRecords$Row")), Cond.methodLink RX8 375 yX4_copyOfRow]
noncomputable def wsX8_restore_r4 : List Cond := [Cond.instanceMethod yX4_copyOfRow, Cond.selects RX4 yX4_copyOfRow yX4_copyOfRow, Cond.initialized RX4, Cond.code yX4_copyOfRow cX4_copyOfRow 4 (some (.object "StateRecords$Row")), Cond.classLink RX4 35 RX5, Cond.instantiable RX5 2, Cond.initialized RX5, Cond.fieldLink RX4 28 "StateRecords$Records" "rowLengths" "[I", Cond.fieldLink RX4 43 "StateRecords$Row" "items" "[J", Cond.fieldLink RX4 31 "StateRecords$Records" "items" "[J", Cond.methodLink RX4 44 yX5_init, Cond.instanceMethod yX5_init, Cond.code yX5_init cX5_init 2 none, Cond.methodLink RX5 1 objectInit, Cond.instanceMethod objectInit, Cond.code objectInit ⟨#[0xb1]⟩ 1 none, Cond.arrayClass .long, Cond.fieldLink RX5 7 "StateRecords$Row" "items" "[J", Cond.methodLink RX8 227 yX1_tell, Cond.instanceMethod yX1_tell, Cond.selects RX1 yX1_tell yX1_tell, Cond.initialized RX1, Cond.code yX1_tell cX1_tell 4 none, Cond.fieldLink RX1 7 "StateRecords$Fault" "isTold" "Z"]
noncomputable def wsX8_restore_r5 : List Cond := [Cond.fieldLink RX1 13 "StateRecords$Fault" "record" "I", Cond.fieldLink RX1 17 "StateRecords$Fault" "name" "I", Cond.fieldLink RX1 20 "StateRecords$Fault" "check" "I", Cond.methodLink RX8 245 yX8_judgeThings, Cond.instanceMethod yX8_judgeThings, Cond.selects RX8 yX8_judgeThings yX8_judgeThings, Cond.code yX8_judgeThings cX8_judgeThings 4 (some .int), Cond.fieldLink RX8 118 "StateRecords$Type" "checks" "[LStateRecords$Check;", Cond.methodLink RX8 208 yX8_firstFailingCheck, Cond.instanceMethod yX8_firstFailingCheck, Cond.selects RX8 yX8_firstFailingCheck yX8_firstFailingCheck, Cond.code yX8_firstFailingCheck cX8_firstFailingCheck 3 (some .int), Cond.fieldLink RX8 115 "StateRecords$Type" "checkCount" "I", Cond.methodLink RX8 212 yX8_failureOf, Cond.instanceMethod yX8_failureOf, Cond.selects RX8 yX8_failureOf yX8_failureOf, Cond.code yX8_failureOf cX8_failureOf 3 (some .int), Cond.fieldLink RX8 281 "StateRecords$Check" "kind" "I", Cond.methodLink RX8 284 yX8_failureOfDivides, Cond.static yX8_failureOfDivides, Cond.code yX8_failureOfDivides cX8_failureOfDivides 2 (some .int), Cond.fieldLink RX8 302 "StateRecords$Check" "a" "I", Cond.fieldLink RX8 308 "StateRecords$Check" "b" "I", Cond.methodLink RX8 305 yX7_hasLane]
noncomputable def wsX8_restore_r6 : List Cond := [Cond.instanceMethod yX7_hasLane, Cond.selects RX7 yX7_hasLane yX7_hasLane, Cond.code yX7_hasLane cX7_hasLane 3 (some .boolean), Cond.fieldLink RX7 15 "StateRecords$Type" "lanes" "[I", Cond.methodLink RX7 43 yX7_hasField, Cond.instanceMethod yX7_hasField, Cond.selects RX7 yX7_hasField yX7_hasField, Cond.code yX7_hasField cX7_hasField 2 (some .boolean), Cond.methodLink RX8 287 yX8_failureOfMeets, Cond.instanceMethod yX8_failureOfMeets, Cond.selects RX8 yX8_failureOfMeets yX8_failureOfMeets, Cond.code yX8_failureOfMeets cX8_failureOfMeets 4 (some .int), Cond.fieldLink RX8 205 "StateRecords$Type" "number" "I", Cond.fieldLink RX8 311 "StateRecords$Check" "v" "J", Cond.methodLink RX8 177 yX8_thingNumbered, Cond.instanceMethod yX8_thingNumbered, Cond.selects RX8 yX8_thingNumbered yX8_thingNumbered, Cond.code yX8_thingNumbered cX8_thingNumbered 3 (some (.object "StateRecords$Thing")), Cond.methodLink RX8 290 yX8_failureOfHas, Cond.static yX8_failureOfHas, Cond.code yX8_failureOfHas cX8_failureOfHas 5 (some .int), Cond.fieldLink RX8 161 "StateRecords$Row" "items" "[J", Cond.methodLink RX8 315 yX7_hasRowLane, Cond.instanceMethod yX7_hasRowLane]
noncomputable def wsX8_restore_r7 : List Cond := [Cond.selects RX7 yX7_hasRowLane yX7_hasRowLane, Cond.code yX7_hasRowLane cX7_hasRowLane 2 (some .boolean), Cond.methodLink RX8 293 yX8_failureOfHolds, Cond.static yX8_failureOfHolds, Cond.code yX8_failureOfHolds cX8_failureOfHolds 4 (some .int), Cond.constantLong RX8 318 (12), Cond.methodLink RX8 296 yX8_failureOfLeast, Cond.static yX8_failureOfLeast, Cond.code yX8_failureOfLeast cX8_failureOfLeast 2 (some .int), Cond.methodLink RX8 299 yX8_failureOfLeads, Cond.instanceMethod yX8_failureOfLeads, Cond.selects RX8 yX8_failureOfLeads yX8_failureOfLeads, Cond.code yX8_failureOfLeads cX8_failureOfLeads 5 (some .int), Cond.fieldLink RX8 320 "StateRecords$Type" "names" "[I", Cond.methodLink RX8 139 yX8_failed, Cond.static yX8_failed, Cond.code yX8_failed cX8_failed 1 (some .int)]
noncomputable def wsX8_restore : List Cond := .code yX8_restore cX8_restore 5 (some .int) :: ((wsX8_restore_r1 ++ (wsX8_restore_r2 ++ (wsX8_restore_r3 ++ (wsX8_restore_r4 ++ (wsX8_restore_r5 ++ (wsX8_restore_r6 ++ wsX8_restore_r7)))))) ++ wsX80 ++ wsX40 ++ wsX60 ++ wsX70 ++ wsX50 ++ wsX10 ++ wsX00)
noncomputable def wsX8_fault : List Cond := .code yX8_fault cX8_fault 2 (some .int) :: (([.fieldLink RX8 58 "StateRecords" "latestFault" "LStateRecords$Fault;", .fieldLink RX8 248 "StateRecords$Fault" "isTold" "Z", .fieldLink RX8 252 "StateRecords$Fault" "record" "I", .fieldLink RX8 255 "StateRecords$Fault" "name" "I", .fieldLink RX8 258 "StateRecords$Fault" "check" "I"] : List Cond) ++ wsX80 ++ wsX10)
noncomputable def wsX8_firstDifference_r1 : List Cond := [Cond.fieldLink RX8 231 "StateRecords$Records" "recordCount" "I", Cond.methodLink RX8 351 Lib.Math.max.name, Cond.static Lib.Math.max.name, Cond.initialized "java/lang/Math", Cond.code Lib.Math.max.name Lib.Math.max.code 2 (some .int), Cond.fieldLink RX8 338 "StateRecords$Records" "fieldCounts" "[I", Cond.fieldLink RX8 224 "StateRecords$Records" "names" "[I", Cond.methodLink RX8 357 yX4_hasShapeOf, Cond.instanceMethod yX4_hasShapeOf, Cond.selects RX4 yX4_hasShapeOf yX4_hasShapeOf, Cond.initialized RX4, Cond.code yX4_hasShapeOf cX4_hasShapeOf 5 (some .boolean), Cond.fieldLink RX4 47 "StateRecords$Records" "recordCount" "I", Cond.fieldLink RX4 9 "StateRecords$Records" "types" "[I", Cond.fieldLink RX4 15 "StateRecords$Records" "fieldCounts" "[I", Cond.fieldLink RX4 18 "StateRecords$Records" "names" "[I", Cond.fieldLink RX4 21 "StateRecords$Records" "lanes" "[I", Cond.methodLink RX8 361 yX4_hasValueOf, Cond.instanceMethod yX4_hasValueOf, Cond.selects RX4 yX4_hasValueOf yX4_hasValueOf, Cond.code yX4_hasValueOf cX4_hasValueOf 5 (some .boolean), Cond.fieldLink RX4 24 "StateRecords$Records" "values" "[J", Cond.constantLong RX4 54 (-1), Cond.static yX8_isRowLane]
noncomputable def wsX8_firstDifference_r2 : List Cond := [Cond.initialized RX8, Cond.code yX8_isRowLane cX8_isRowLane 1 (some .boolean), Cond.methodLink RX4 56 yX4_hasItemsOf, Cond.instanceMethod yX4_hasItemsOf, Cond.selects RX4 yX4_hasItemsOf yX4_hasItemsOf, Cond.code yX4_hasItemsOf cX4_hasItemsOf 4 (some .boolean), Cond.fieldLink RX4 28 "StateRecords$Records" "rowLengths" "[I", Cond.fieldLink RX4 31 "StateRecords$Records" "items" "[J"]
noncomputable def wsX8_firstDifference : List Cond := .code yX8_firstDifference cX8_firstDifference 6 (some .int) :: ((wsX8_firstDifference_r1 ++ wsX8_firstDifference_r2) ++ wsX40)
noncomputable def wsX8_like_r1 : List Cond := [Cond.fieldLink RX8 32 "StateRecords" "spare" "LStateRecords$Records;", Cond.fieldLink RX8 36 "StateRecords" "secondSpare" "LStateRecords$Records;", Cond.methodLink RX8 177 yX8_thingNumbered, Cond.instanceMethod yX8_thingNumbered, Cond.selects RX8 yX8_thingNumbered yX8_thingNumbered, Cond.initialized RX8, Cond.code yX8_thingNumbered cX8_thingNumbered 3 (some (.object "StateRecords$Thing")), Cond.fieldLink RX8 94 "StateRecords" "thingCount" "I", Cond.fieldLink RX8 17 "StateRecords" "things" "[LStateRecords$Thing;", Cond.methodLink RX8 216 yX8_recordFrom, Cond.instanceMethod yX8_recordFrom, Cond.selects RX8 yX8_recordFrom yX8_recordFrom, Cond.code yX8_recordFrom cX8_recordFrom 4 none, Cond.fieldLink RX8 231 "StateRecords$Records" "recordCount" "I", Cond.fieldLink RX8 234 "StateRecords$Records" "rowCount" "I", Cond.fieldLink RX8 39 "StateRecords" "recorded" "[LStateRecords$Thing;", Cond.methodLink RX8 321 yX8_forgetNumbers, Cond.instanceMethod yX8_forgetNumbers, Cond.selects RX8 yX8_forgetNumbers yX8_forgetNumbers, Cond.code yX8_forgetNumbers cX8_forgetNumbers 2 none, Cond.methodLink RX8 332 yX6_forgetNumbers, Cond.instanceMethod yX6_forgetNumbers, Cond.selects RX6 yX6_forgetNumbers yX6_forgetNumbers, Cond.initialized RX6]
noncomputable def wsX8_like_r2 : List Cond := [Cond.code yX6_forgetNumbers cX6_forgetNumbers 2 none, Cond.fieldLink RX6 38 "StateRecords$Thing" "recordNumber" "I", Cond.fieldLink RX6 21 "StateRecords$Thing" "type" "LStateRecords$Type;", Cond.fieldLink RX6 25 "StateRecords$Type" "fieldCount" "I", Cond.fieldLink RX6 17 "StateRecords$Thing" "rows" "[LStateRecords$Row;", Cond.fieldLink RX6 41 "StateRecords$Row" "number" "I", Cond.methodLink RX8 324 yX8_recordNumberOf, Cond.instanceMethod yX8_recordNumberOf, Cond.selects RX8 yX8_recordNumberOf yX8_recordNumberOf, Cond.code yX8_recordNumberOf cX8_recordNumberOf 3 (some .int), Cond.fieldLink RX8 333 "StateRecords$Thing" "recordNumber" "I", Cond.fieldLink RX8 336 "StateRecords$Records" "types" "[I", Cond.fieldLink RX8 97 "StateRecords$Thing" "type" "LStateRecords$Type;", Cond.fieldLink RX8 205 "StateRecords$Type" "number" "I", Cond.fieldLink RX8 338 "StateRecords$Records" "fieldCounts" "[I", Cond.fieldLink RX8 85 "StateRecords$Type" "fieldCount" "I", Cond.methodLink RX8 328 yX8_recordFields, Cond.instanceMethod yX8_recordFields, Cond.selects RX8 yX8_recordFields yX8_recordFields, Cond.code yX8_recordFields cX8_recordFields 6 none, Cond.fieldLink RX8 224 "StateRecords$Records" "names" "[I", Cond.fieldLink RX8 320 "StateRecords$Type" "names" "[I", Cond.fieldLink RX8 341 "StateRecords$Records" "lanes" "[I", Cond.fieldLink RX8 135 "StateRecords$Type" "lanes" "[I"]
noncomputable def wsX8_like_r3 : List Cond := [Cond.fieldLink RX8 342 "StateRecords$Records" "values" "[J", Cond.methodLink RX8 343 yX8_recordedValue, Cond.instanceMethod yX8_recordedValue, Cond.selects RX8 yX8_recordedValue yX8_recordedValue, Cond.code yX8_recordedValue cX8_recordedValue 6 (some .long), Cond.fieldLink RX8 158 "StateRecords$Thing" "rows" "[LStateRecords$Row;", Cond.constantLong RX8 88 (-1), Cond.fieldLink RX8 193 "StateRecords$Thing" "values" "[J", Cond.methodLink RX8 150 yX8_isRowLane, Cond.static yX8_isRowLane, Cond.code yX8_isRowLane cX8_isRowLane 1 (some .boolean), Cond.methodLink RX8 347 yX4_numberOf, Cond.instanceMethod yX4_numberOf, Cond.selects RX4 yX4_numberOf yX4_numberOf, Cond.initialized RX4, Cond.code yX4_numberOf cX4_numberOf 3 (some .int), Cond.fieldLink RX4 34 "StateRecords$Row" "number" "I", Cond.fieldLink RX4 40 "StateRecords$Records" "rowCount" "I", Cond.fieldLink RX4 28 "StateRecords$Records" "rowLengths" "[I", Cond.fieldLink RX4 43 "StateRecords$Row" "items" "[J", Cond.fieldLink RX4 31 "StateRecords$Records" "items" "[J", Cond.methodLink RX8 261 yX8_firstDifference, Cond.static yX8_firstDifference, Cond.code yX8_firstDifference cX8_firstDifference 6 (some .int)]
noncomputable def wsX8_like_r4 : List Cond := [Cond.methodLink RX8 351 Lib.Math.max.name, Cond.static Lib.Math.max.name, Cond.initialized "java/lang/Math", Cond.code Lib.Math.max.name Lib.Math.max.code 2 (some .int), Cond.methodLink RX8 357 yX4_hasShapeOf, Cond.instanceMethod yX4_hasShapeOf, Cond.selects RX4 yX4_hasShapeOf yX4_hasShapeOf, Cond.code yX4_hasShapeOf cX4_hasShapeOf 5 (some .boolean), Cond.fieldLink RX4 47 "StateRecords$Records" "recordCount" "I", Cond.fieldLink RX4 9 "StateRecords$Records" "types" "[I", Cond.fieldLink RX4 15 "StateRecords$Records" "fieldCounts" "[I", Cond.fieldLink RX4 18 "StateRecords$Records" "names" "[I", Cond.fieldLink RX4 21 "StateRecords$Records" "lanes" "[I", Cond.methodLink RX8 361 yX4_hasValueOf, Cond.instanceMethod yX4_hasValueOf, Cond.selects RX4 yX4_hasValueOf yX4_hasValueOf, Cond.code yX4_hasValueOf cX4_hasValueOf 5 (some .boolean), Cond.fieldLink RX4 24 "StateRecords$Records" "values" "[J", Cond.constantLong RX4 54 (-1), Cond.methodLink RX4 56 yX4_hasItemsOf, Cond.instanceMethod yX4_hasItemsOf, Cond.selects RX4 yX4_hasItemsOf yX4_hasItemsOf, Cond.code yX4_hasItemsOf cX4_hasItemsOf 4 (some .boolean)]
noncomputable def wsX8_like : List Cond := .code yX8_like cX8_like 5 (some .int) :: ((wsX8_like_r1 ++ (wsX8_like_r2 ++ (wsX8_like_r3 ++ wsX8_like_r4))) ++ wsX80 ++ wsX40 ++ wsX60 ++ wsX70 ++ wsX50)
noncomputable def wsX8_differs_r1 : List Cond := [Cond.fieldLink RX8 27 "StateRecords" "saves" "[LStateRecords$Records;", Cond.fieldLink RX8 231 "StateRecords$Records" "recordCount" "I", Cond.fieldLink RX8 32 "StateRecords" "spare" "LStateRecords$Records;", Cond.methodLink RX8 177 yX8_thingNumbered, Cond.instanceMethod yX8_thingNumbered, Cond.selects RX8 yX8_thingNumbered yX8_thingNumbered, Cond.initialized RX8, Cond.code yX8_thingNumbered cX8_thingNumbered 3 (some (.object "StateRecords$Thing")), Cond.fieldLink RX8 94 "StateRecords" "thingCount" "I", Cond.fieldLink RX8 17 "StateRecords" "things" "[LStateRecords$Thing;", Cond.methodLink RX8 74 yX8_isBelow, Cond.static yX8_isBelow, Cond.code yX8_isBelow cX8_isBelow 2 (some .boolean), Cond.methodLink RX8 216 yX8_recordFrom, Cond.instanceMethod yX8_recordFrom, Cond.selects RX8 yX8_recordFrom yX8_recordFrom, Cond.code yX8_recordFrom cX8_recordFrom 4 none, Cond.fieldLink RX8 234 "StateRecords$Records" "rowCount" "I", Cond.fieldLink RX8 39 "StateRecords" "recorded" "[LStateRecords$Thing;", Cond.methodLink RX8 321 yX8_forgetNumbers, Cond.instanceMethod yX8_forgetNumbers, Cond.selects RX8 yX8_forgetNumbers yX8_forgetNumbers, Cond.code yX8_forgetNumbers cX8_forgetNumbers 2 none, Cond.methodLink RX8 332 yX6_forgetNumbers]
noncomputable def wsX8_differs_r2 : List Cond := [Cond.instanceMethod yX6_forgetNumbers, Cond.selects RX6 yX6_forgetNumbers yX6_forgetNumbers, Cond.initialized RX6, Cond.code yX6_forgetNumbers cX6_forgetNumbers 2 none, Cond.fieldLink RX6 38 "StateRecords$Thing" "recordNumber" "I", Cond.fieldLink RX6 21 "StateRecords$Thing" "type" "LStateRecords$Type;", Cond.fieldLink RX6 25 "StateRecords$Type" "fieldCount" "I", Cond.fieldLink RX6 17 "StateRecords$Thing" "rows" "[LStateRecords$Row;", Cond.fieldLink RX6 41 "StateRecords$Row" "number" "I", Cond.methodLink RX8 324 yX8_recordNumberOf, Cond.instanceMethod yX8_recordNumberOf, Cond.selects RX8 yX8_recordNumberOf yX8_recordNumberOf, Cond.code yX8_recordNumberOf cX8_recordNumberOf 3 (some .int), Cond.fieldLink RX8 333 "StateRecords$Thing" "recordNumber" "I", Cond.fieldLink RX8 336 "StateRecords$Records" "types" "[I", Cond.fieldLink RX8 97 "StateRecords$Thing" "type" "LStateRecords$Type;", Cond.fieldLink RX8 205 "StateRecords$Type" "number" "I", Cond.fieldLink RX8 338 "StateRecords$Records" "fieldCounts" "[I", Cond.fieldLink RX8 85 "StateRecords$Type" "fieldCount" "I", Cond.methodLink RX8 328 yX8_recordFields, Cond.instanceMethod yX8_recordFields, Cond.selects RX8 yX8_recordFields yX8_recordFields, Cond.code yX8_recordFields cX8_recordFields 6 none, Cond.fieldLink RX8 224 "StateRecords$Records" "names" "[I"]
noncomputable def wsX8_differs_r3 : List Cond := [Cond.fieldLink RX8 320 "StateRecords$Type" "names" "[I", Cond.fieldLink RX8 341 "StateRecords$Records" "lanes" "[I", Cond.fieldLink RX8 135 "StateRecords$Type" "lanes" "[I", Cond.fieldLink RX8 342 "StateRecords$Records" "values" "[J", Cond.methodLink RX8 343 yX8_recordedValue, Cond.instanceMethod yX8_recordedValue, Cond.selects RX8 yX8_recordedValue yX8_recordedValue, Cond.code yX8_recordedValue cX8_recordedValue 6 (some .long), Cond.fieldLink RX8 158 "StateRecords$Thing" "rows" "[LStateRecords$Row;", Cond.constantLong RX8 88 (-1), Cond.fieldLink RX8 193 "StateRecords$Thing" "values" "[J", Cond.methodLink RX8 150 yX8_isRowLane, Cond.static yX8_isRowLane, Cond.code yX8_isRowLane cX8_isRowLane 1 (some .boolean), Cond.methodLink RX8 347 yX4_numberOf, Cond.instanceMethod yX4_numberOf, Cond.selects RX4 yX4_numberOf yX4_numberOf, Cond.initialized RX4, Cond.code yX4_numberOf cX4_numberOf 3 (some .int), Cond.fieldLink RX4 34 "StateRecords$Row" "number" "I", Cond.fieldLink RX4 40 "StateRecords$Records" "rowCount" "I", Cond.fieldLink RX4 28 "StateRecords$Records" "rowLengths" "[I", Cond.fieldLink RX4 43 "StateRecords$Row" "items" "[J", Cond.fieldLink RX4 31 "StateRecords$Records" "items" "[J"]
noncomputable def wsX8_differs_r4 : List Cond := [Cond.methodLink RX8 261 yX8_firstDifference, Cond.static yX8_firstDifference, Cond.code yX8_firstDifference cX8_firstDifference 6 (some .int), Cond.methodLink RX8 351 Lib.Math.max.name, Cond.static Lib.Math.max.name, Cond.initialized "java/lang/Math", Cond.code Lib.Math.max.name Lib.Math.max.code 2 (some .int), Cond.methodLink RX8 357 yX4_hasShapeOf, Cond.instanceMethod yX4_hasShapeOf, Cond.selects RX4 yX4_hasShapeOf yX4_hasShapeOf, Cond.code yX4_hasShapeOf cX4_hasShapeOf 5 (some .boolean), Cond.fieldLink RX4 47 "StateRecords$Records" "recordCount" "I", Cond.fieldLink RX4 9 "StateRecords$Records" "types" "[I", Cond.fieldLink RX4 15 "StateRecords$Records" "fieldCounts" "[I", Cond.fieldLink RX4 18 "StateRecords$Records" "names" "[I", Cond.fieldLink RX4 21 "StateRecords$Records" "lanes" "[I", Cond.methodLink RX8 361 yX4_hasValueOf, Cond.instanceMethod yX4_hasValueOf, Cond.selects RX4 yX4_hasValueOf yX4_hasValueOf, Cond.code yX4_hasValueOf cX4_hasValueOf 5 (some .boolean), Cond.fieldLink RX4 24 "StateRecords$Records" "values" "[J", Cond.constantLong RX4 54 (-1), Cond.methodLink RX4 56 yX4_hasItemsOf, Cond.instanceMethod yX4_hasItemsOf]
noncomputable def wsX8_differs_r5 : List Cond := [Cond.selects RX4 yX4_hasItemsOf yX4_hasItemsOf, Cond.code yX4_hasItemsOf cX4_hasItemsOf 4 (some .boolean)]
noncomputable def wsX8_differs : List Cond := .code yX8_differs cX8_differs 4 (some .int) :: ((wsX8_differs_r1 ++ (wsX8_differs_r2 ++ (wsX8_differs_r3 ++ (wsX8_differs_r4 ++ wsX8_differs_r5)))) ++ wsX80 ++ wsX40 ++ wsX60 ++ wsX70 ++ wsX50)
noncomputable def wsX8_mark : List Cond := .code yX8_mark cX8_mark 1 (some .int) :: (([.fieldLink RX8 51 "StateRecords" "journal" "LStateRecords$Journal;", .fieldLink RX8 82 "StateRecords$Journal" "markCount" "I", .methodLink RX8 265 yX2_addMark, .instanceMethod yX2_addMark, .selects RX2 yX2_addMark yX2_addMark, .initialized RX2, .code yX2_addMark cX2_addMark 1 none, .fieldLink RX2 17 "StateRecords$Journal" "starts" "[I", .fieldLink RX2 45 "StateRecords$Journal" "markCount" "I", .fieldLink RX2 22 "StateRecords$Journal" "noteCount" "I"] : List Cond) ++ wsX80 ++ wsX20)
noncomputable def wsX8_undo : List Cond := .code yX8_undo cX8_undo 1 (some .int) :: (([.fieldLink RX8 51 "StateRecords" "journal" "LStateRecords$Journal;", .fieldLink RX8 82 "StateRecords$Journal" "markCount" "I", .methodLink RX8 268 yX2_undoLatestMark, .instanceMethod yX2_undoLatestMark, .selects RX2 yX2_undoLatestMark yX2_undoLatestMark, .initialized RX2, .code yX2_undoLatestMark cX2_undoLatestMark 4 (some .int), .fieldLink RX2 45 "StateRecords$Journal" "markCount" "I", .fieldLink RX2 17 "StateRecords$Journal" "starts" "[I", .fieldLink RX2 22 "StateRecords$Journal" "noteCount" "I", .fieldLink RX2 11 "StateRecords$Journal" "notes" "[LStateRecords$Note;", .methodLink RX2 67 yX3_takeBack, .instanceMethod yX3_takeBack, .selects RX3 yX3_takeBack yX3_takeBack, .initialized RX3, .code yX3_takeBack cX3_takeBack 1 none, .fieldLink RX3 7 "StateRecords$Note" "thing" "LStateRecords$Thing;", .fieldLink RX3 13 "StateRecords$Thing" "values" "[J", .fieldLink RX3 19 "StateRecords$Note" "index" "I", .fieldLink RX3 23 "StateRecords$Note" "value" "J", .fieldLink RX3 27 "StateRecords$Thing" "rows" "[LStateRecords$Row;", .fieldLink RX3 31 "StateRecords$Note" "row" "LStateRecords$Row;", .fieldLink RX3 35 "StateRecords$Row" "items" "[J"] : List Cond) ++ wsX80 ++ wsX20 ++ wsX30 ++ wsX60 ++ wsX50)
noncomputable def wsX8_count : List Cond := .code yX8_count cX8_count 2 (some .int) :: (([.fieldLink RX8 63 "StateRecords" "typeCount" "I", .fieldLink RX8 94 "StateRecords" "thingCount" "I", .fieldLink RX8 51 "StateRecords" "journal" "LStateRecords$Journal;", .fieldLink RX8 82 "StateRecords$Journal" "markCount" "I", .fieldLink RX8 272 "StateRecords$Journal" "noteCount" "I"] : List Cond) ++ wsX80 ++ wsX20)
noncomputable def wsX9_init_r1 : List Cond := [Cond.methodLink RX9 1 objectInit, Cond.instanceMethod objectInit, Cond.code objectInit ⟨#[0xb1]⟩ 1 none, Cond.arrayClass .boolean, Cond.fieldLink RX9 7 "StateRecordsModel" "isOut" "[Z", Cond.arrayClass .int, Cond.fieldLink RX9 13 "StateRecordsModel" "fMany" "[I", Cond.fieldLink RX9 17 "StateRecordsModel" "fName" "[I", Cond.fieldLink RX9 20 "StateRecordsModel" "fLane" "[I", Cond.arrayClass .long, Cond.fieldLink RX9 23 "StateRecordsModel" "fFirst" "[J", Cond.fieldLink RX9 27 "StateRecordsModel" "fShut" "[Z", Cond.fieldLink RX9 30 "StateRecordsModel" "cMany" "[I", Cond.fieldLink RX9 33 "StateRecordsModel" "cKind" "[I", Cond.fieldLink RX9 36 "StateRecordsModel" "cA" "[I", Cond.fieldLink RX9 39 "StateRecordsModel" "cB" "[I", Cond.fieldLink RX9 42 "StateRecordsModel" "cV" "[J", Cond.fieldLink RX9 45 "StateRecordsModel" "xType" "[I", Cond.fieldLink RX9 48 "StateRecordsModel" "xVal" "[J", Cond.fieldLink RX9 51 "StateRecordsModel" "rLane" "[I", Cond.fieldLink RX9 54 "StateRecordsModel" "rMany" "[I", Cond.fieldLink RX9 57 "StateRecordsModel" "rItems" "[J", Cond.fieldLink RX9 60 "StateRecordsModel" "rUsed" "[Z", Cond.fieldLink RX9 63 "StateRecordsModel" "markAt" "[I"]
noncomputable def wsX9_init_r2 : List Cond := [Cond.fieldLink RX9 66 "StateRecordsModel" "noteThing" "[I", Cond.fieldLink RX9 69 "StateRecordsModel" "noteField" "[I", Cond.fieldLink RX9 72 "StateRecordsModel" "noteRow" "[I", Cond.fieldLink RX9 75 "StateRecordsModel" "noteItem" "[I", Cond.fieldLink RX9 78 "StateRecordsModel" "noteWas" "[J", Cond.fieldLink RX9 81 "StateRecordsModel" "sMany" "[I", Cond.fieldLink RX9 84 "StateRecordsModel" "sType" "[I", Cond.fieldLink RX9 87 "StateRecordsModel" "sFields" "[I", Cond.fieldLink RX9 90 "StateRecordsModel" "sName" "[I", Cond.fieldLink RX9 93 "StateRecordsModel" "sLane" "[I", Cond.fieldLink RX9 96 "StateRecordsModel" "sVal" "[J", Cond.fieldLink RX9 99 "StateRecordsModel" "sRows" "[I", Cond.fieldLink RX9 102 "StateRecordsModel" "sRowLane" "[I", Cond.fieldLink RX9 105 "StateRecordsModel" "sRowMany" "[I", Cond.fieldLink RX9 108 "StateRecordsModel" "sRowItems" "[J", Cond.fieldLink RX9 111 "StateRecordsModel" "order" "[I", Cond.fieldLink RX9 114 "StateRecordsModel" "rowOrder" "[I", Cond.fieldLink RX9 117 "StateRecordsModel" "faultRecord" "I", Cond.fieldLink RX9 121 "StateRecordsModel" "faultName" "I", Cond.fieldLink RX9 124 "StateRecordsModel" "faultCheck" "I", Cond.fieldLink RX9 127 "StateRecordsModel" "back" "[I", Cond.fieldLink RX9 130 "StateRecordsModel" "mate" "[I", Cond.fieldLink RX9 133 "StateRecordsModel" "mateBack" "[I", Cond.fieldLink RX9 136 "StateRecordsModel" "rowMate" "[I"]
noncomputable def wsX9_init_r3 : List Cond := [Cond.fieldLink RX9 139 "StateRecordsModel" "rowMateBack" "[I", Cond.fieldLink RX9 142 "StateRecordsModel" "queue" "[I"]
noncomputable def wsX9_init : List Cond := .code yX9_init cX9_init 1 none :: ((wsX9_init_r1 ++ (wsX9_init_r2 ++ wsX9_init_r3)) ++ wsX90)
noncomputable def wsX9_isType : List Cond := .code yX9_isType cX9_isType 2 (some .boolean) :: (([.fieldLink RX9 148 "StateRecordsModel" "types" "I"] : List Cond) ++ wsX90)
noncomputable def wsX9_isThing : List Cond := .code yX9_isThing cX9_isThing 2 (some .boolean) :: (([.fieldLink RX9 151 "StateRecordsModel" "things" "I"] : List Cond) ++ wsX90)
noncomputable def wsX9_isField : List Cond := .code yX9_isField cX9_isField 3 (some .boolean) :: (([.fieldLink RX9 13 "StateRecordsModel" "fMany" "[I", .fieldLink RX9 45 "StateRecordsModel" "xType" "[I", .methodLink RX9 154 yX9_isThing, .instanceMethod yX9_isThing, .selects RX9 yX9_isThing yX9_isThing, .initialized RX9, .code yX9_isThing cX9_isThing 2 (some .boolean), .fieldLink RX9 151 "StateRecordsModel" "things" "I"] : List Cond) ++ wsX90)
noncomputable def wsX9_lane : List Cond := .code yX9_lane cX9_lane 3 (some .int) :: (([.fieldLink RX9 20 "StateRecordsModel" "fLane" "[I", .fieldLink RX9 45 "StateRecordsModel" "xType" "[I"] : List Cond) ++ wsX90)
noncomputable def wsX9_named : List Cond := .code yX9_named cX9_named 4 (some .int) :: (([.fieldLink RX9 13 "StateRecordsModel" "fMany" "[I", .fieldLink RX9 17 "StateRecordsModel" "fName" "[I"] : List Cond) ++ wsX90)
noncomputable def wsX9_type : List Cond := .code yX9_type cX9_type 1 (some .int) :: (([.fieldLink RX9 145 "StateRecordsModel" "code" "I", .fieldLink RX9 148 "StateRecordsModel" "types" "I", .fieldLink RX9 13 "StateRecordsModel" "fMany" "[I", .fieldLink RX9 30 "StateRecordsModel" "cMany" "[I"] : List Cond) ++ wsX90)
noncomputable def wsX9_field : List Cond := .code yX9_field cX9_field 8 (some .int) :: (([.fieldLink RX9 145 "StateRecordsModel" "code" "I", .fieldLink RX9 165 "StateRecordsModel" "marks" "I", .fieldLink RX9 13 "StateRecordsModel" "fMany" "[I", .fieldLink RX9 17 "StateRecordsModel" "fName" "[I", .fieldLink RX9 20 "StateRecordsModel" "fLane" "[I", .fieldLink RX9 23 "StateRecordsModel" "fFirst" "[J", .constantLong RX9 168 (-1), .fieldLink RX9 27 "StateRecordsModel" "fShut" "[Z", .fieldLink RX9 151 "StateRecordsModel" "things" "I", .fieldLink RX9 45 "StateRecordsModel" "xType" "[I", .fieldLink RX9 48 "StateRecordsModel" "xVal" "[J", .methodLink RX9 158 yX9_isType, .instanceMethod yX9_isType, .selects RX9 yX9_isType yX9_isType, .initialized RX9, .code yX9_isType cX9_isType 2 (some .boolean), .fieldLink RX9 148 "StateRecordsModel" "types" "I", .methodLink RX9 161 yX9_named, .instanceMethod yX9_named, .selects RX9 yX9_named yX9_named, .code yX9_named cX9_named 4 (some .int)] : List Cond) ++ wsX90)
noncomputable def wsX9_drop : List Cond := .code yX9_drop cX9_drop 5 (some .int) :: (([.fieldLink RX9 145 "StateRecordsModel" "code" "I", .fieldLink RX9 13 "StateRecordsModel" "fMany" "[I", .fieldLink RX9 165 "StateRecordsModel" "marks" "I", .fieldLink RX9 17 "StateRecordsModel" "fName" "[I", .fieldLink RX9 20 "StateRecordsModel" "fLane" "[I", .fieldLink RX9 23 "StateRecordsModel" "fFirst" "[J", .fieldLink RX9 27 "StateRecordsModel" "fShut" "[Z", .fieldLink RX9 151 "StateRecordsModel" "things" "I", .fieldLink RX9 48 "StateRecordsModel" "xVal" "[J", .fieldLink RX9 45 "StateRecordsModel" "xType" "[I", .methodLink RX9 158 yX9_isType, .instanceMethod yX9_isType, .selects RX9 yX9_isType yX9_isType, .initialized RX9, .code yX9_isType cX9_isType 2 (some .boolean), .fieldLink RX9 148 "StateRecordsModel" "types" "I"] : List Cond) ++ wsX90)
noncomputable def wsX9_shut : List Cond := .code yX9_shut cX9_shut 5 (some .int) :: (([.fieldLink RX9 145 "StateRecordsModel" "code" "I", .fieldLink RX9 13 "StateRecordsModel" "fMany" "[I", .fieldLink RX9 27 "StateRecordsModel" "fShut" "[Z", .methodLink RX9 158 yX9_isType, .instanceMethod yX9_isType, .selects RX9 yX9_isType yX9_isType, .initialized RX9, .code yX9_isType cX9_isType 2 (some .boolean), .fieldLink RX9 148 "StateRecordsModel" "types" "I"] : List Cond) ++ wsX90)
noncomputable def wsX9_check : List Cond := .code yX9_check cX9_check 8 (some .int) :: (([.fieldLink RX9 145 "StateRecordsModel" "code" "I", .fieldLink RX9 30 "StateRecordsModel" "cMany" "[I", .fieldLink RX9 33 "StateRecordsModel" "cKind" "[I", .fieldLink RX9 36 "StateRecordsModel" "cA" "[I", .fieldLink RX9 39 "StateRecordsModel" "cB" "[I", .fieldLink RX9 42 "StateRecordsModel" "cV" "[J", .methodLink RX9 158 yX9_isType, .instanceMethod yX9_isType, .selects RX9 yX9_isType yX9_isType, .initialized RX9, .code yX9_isType cX9_isType 2 (some .boolean), .fieldLink RX9 148 "StateRecordsModel" "types" "I"] : List Cond) ++ wsX90)
noncomputable def wsX9_unchecked : List Cond := .code yX9_unchecked cX9_unchecked 3 (some .int) :: (([.fieldLink RX9 145 "StateRecordsModel" "code" "I", .fieldLink RX9 30 "StateRecordsModel" "cMany" "[I", .methodLink RX9 158 yX9_isType, .instanceMethod yX9_isType, .selects RX9 yX9_isType yX9_isType, .initialized RX9, .code yX9_isType cX9_isType 2 (some .boolean), .fieldLink RX9 148 "StateRecordsModel" "types" "I"] : List Cond) ++ wsX90)
noncomputable def wsX9_word : List Cond := .code yX9_word cX9_word 4 (some .int) :: (([.fieldLink RX9 145 "StateRecordsModel" "code" "I", .fieldLink RX9 7 "StateRecordsModel" "isOut" "[Z"] : List Cond) ++ wsX90)
noncomputable def wsX9_newRow : List Cond := .code yX9_newRow cX9_newRow 5 (some .int) :: (([.fieldLink RX9 60 "StateRecordsModel" "rUsed" "[Z", .fieldLink RX9 151 "StateRecordsModel" "things" "I", .fieldLink RX9 13 "StateRecordsModel" "fMany" "[I", .fieldLink RX9 45 "StateRecordsModel" "xType" "[I", .fieldLink RX9 48 "StateRecordsModel" "xVal" "[J", .fieldLink RX9 173 "StateRecordsModel" "notes" "I", .fieldLink RX9 72 "StateRecordsModel" "noteRow" "[I", .fieldLink RX9 51 "StateRecordsModel" "rLane" "[I", .fieldLink RX9 54 "StateRecordsModel" "rMany" "[I", .fieldLink RX9 57 "StateRecordsModel" "rItems" "[J", .methodLink RX9 170 yX9_lane, .instanceMethod yX9_lane, .selects RX9 yX9_lane yX9_lane, .initialized RX9, .code yX9_lane cX9_lane 3 (some .int), .fieldLink RX9 20 "StateRecordsModel" "fLane" "[I"] : List Cond) ++ wsX90)
noncomputable def wsX9_cut : List Cond := .code yX9_cut cX9_cut 3 (some .long) :: ([])
noncomputable def wsX9_thing : List Cond := .code yX9_thing cX9_thing 3 (some .int) :: (([.fieldLink RX9 145 "StateRecordsModel" "code" "I", .fieldLink RX9 151 "StateRecordsModel" "things" "I", .fieldLink RX9 45 "StateRecordsModel" "xType" "[I", .fieldLink RX9 13 "StateRecordsModel" "fMany" "[I", .fieldLink RX9 48 "StateRecordsModel" "xVal" "[J", .fieldLink RX9 23 "StateRecordsModel" "fFirst" "[J", .methodLink RX9 158 yX9_isType, .instanceMethod yX9_isType, .selects RX9 yX9_isType yX9_isType, .initialized RX9, .code yX9_isType cX9_isType 2 (some .boolean), .fieldLink RX9 148 "StateRecordsModel" "types" "I"] : List Cond) ++ wsX90)
noncomputable def wsX9_isFull : List Cond := .code yX9_isFull cX9_isFull 1 (some .boolean) :: (([.fieldLink RX9 165 "StateRecordsModel" "marks" "I", .fieldLink RX9 173 "StateRecordsModel" "notes" "I"] : List Cond) ++ wsX90)
noncomputable def wsX9_becomes : List Cond := .code yX9_becomes cX9_becomes 5 none :: (([.fieldLink RX9 165 "StateRecordsModel" "marks" "I", .fieldLink RX9 66 "StateRecordsModel" "noteThing" "[I", .fieldLink RX9 173 "StateRecordsModel" "notes" "I", .fieldLink RX9 69 "StateRecordsModel" "noteField" "[I", .fieldLink RX9 75 "StateRecordsModel" "noteItem" "[I", .fieldLink RX9 78 "StateRecordsModel" "noteWas" "[J", .fieldLink RX9 48 "StateRecordsModel" "xVal" "[J", .fieldLink RX9 72 "StateRecordsModel" "noteRow" "[I", .methodLink RX9 170 yX9_lane, .instanceMethod yX9_lane, .selects RX9 yX9_lane yX9_lane, .initialized RX9, .code yX9_lane cX9_lane 3 (some .int), .fieldLink RX9 20 "StateRecordsModel" "fLane" "[I", .fieldLink RX9 45 "StateRecordsModel" "xType" "[I"] : List Cond) ++ wsX90)
noncomputable def wsX9_put_r1 : List Cond := [Cond.fieldLink RX9 145 "StateRecordsModel" "code" "I", Cond.constantLong RX9 168 (-1), Cond.constantLong RX9 180 (15), Cond.fieldLink RX9 7 "StateRecordsModel" "isOut" "[Z", Cond.methodLink RX9 176 yX9_isField, Cond.instanceMethod yX9_isField, Cond.selects RX9 yX9_isField yX9_isField, Cond.initialized RX9, Cond.code yX9_isField cX9_isField 3 (some .boolean), Cond.fieldLink RX9 13 "StateRecordsModel" "fMany" "[I", Cond.fieldLink RX9 45 "StateRecordsModel" "xType" "[I", Cond.methodLink RX9 154 yX9_isThing, Cond.instanceMethod yX9_isThing, Cond.selects RX9 yX9_isThing yX9_isThing, Cond.code yX9_isThing cX9_isThing 2 (some .boolean), Cond.fieldLink RX9 151 "StateRecordsModel" "things" "I", Cond.methodLink RX9 170 yX9_lane, Cond.instanceMethod yX9_lane, Cond.selects RX9 yX9_lane yX9_lane, Cond.code yX9_lane cX9_lane 3 (some .int), Cond.fieldLink RX9 20 "StateRecordsModel" "fLane" "[I", Cond.methodLink RX9 182 yX9_isFull, Cond.instanceMethod yX9_isFull, Cond.selects RX9 yX9_isFull yX9_isFull]
noncomputable def wsX9_put_r2 : List Cond := [Cond.code yX9_isFull cX9_isFull 1 (some .boolean), Cond.fieldLink RX9 165 "StateRecordsModel" "marks" "I", Cond.fieldLink RX9 173 "StateRecordsModel" "notes" "I", Cond.methodLink RX9 186 yX9_becomes, Cond.instanceMethod yX9_becomes, Cond.selects RX9 yX9_becomes yX9_becomes, Cond.code yX9_becomes cX9_becomes 5 none, Cond.fieldLink RX9 66 "StateRecordsModel" "noteThing" "[I", Cond.fieldLink RX9 69 "StateRecordsModel" "noteField" "[I", Cond.fieldLink RX9 75 "StateRecordsModel" "noteItem" "[I", Cond.fieldLink RX9 78 "StateRecordsModel" "noteWas" "[J", Cond.fieldLink RX9 48 "StateRecordsModel" "xVal" "[J", Cond.fieldLink RX9 72 "StateRecordsModel" "noteRow" "[I"]
noncomputable def wsX9_put : List Cond := .code yX9_put cX9_put 5 (some .int) :: ((wsX9_put_r1 ++ wsX9_put_r2) ++ wsX90)
noncomputable def wsX9_refer_r1 : List Cond := [Cond.fieldLink RX9 145 "StateRecordsModel" "code" "I", Cond.methodLink RX9 176 yX9_isField, Cond.instanceMethod yX9_isField, Cond.selects RX9 yX9_isField yX9_isField, Cond.initialized RX9, Cond.code yX9_isField cX9_isField 3 (some .boolean), Cond.fieldLink RX9 13 "StateRecordsModel" "fMany" "[I", Cond.fieldLink RX9 45 "StateRecordsModel" "xType" "[I", Cond.methodLink RX9 154 yX9_isThing, Cond.instanceMethod yX9_isThing, Cond.selects RX9 yX9_isThing yX9_isThing, Cond.code yX9_isThing cX9_isThing 2 (some .boolean), Cond.fieldLink RX9 151 "StateRecordsModel" "things" "I", Cond.methodLink RX9 170 yX9_lane, Cond.instanceMethod yX9_lane, Cond.selects RX9 yX9_lane yX9_lane, Cond.code yX9_lane cX9_lane 3 (some .int), Cond.fieldLink RX9 20 "StateRecordsModel" "fLane" "[I", Cond.methodLink RX9 182 yX9_isFull, Cond.instanceMethod yX9_isFull, Cond.selects RX9 yX9_isFull yX9_isFull, Cond.code yX9_isFull cX9_isFull 1 (some .boolean), Cond.fieldLink RX9 165 "StateRecordsModel" "marks" "I", Cond.fieldLink RX9 173 "StateRecordsModel" "notes" "I"]
noncomputable def wsX9_refer_r2 : List Cond := [Cond.methodLink RX9 186 yX9_becomes, Cond.instanceMethod yX9_becomes, Cond.selects RX9 yX9_becomes yX9_becomes, Cond.code yX9_becomes cX9_becomes 5 none, Cond.fieldLink RX9 66 "StateRecordsModel" "noteThing" "[I", Cond.fieldLink RX9 69 "StateRecordsModel" "noteField" "[I", Cond.fieldLink RX9 75 "StateRecordsModel" "noteItem" "[I", Cond.fieldLink RX9 78 "StateRecordsModel" "noteWas" "[J", Cond.fieldLink RX9 48 "StateRecordsModel" "xVal" "[J", Cond.fieldLink RX9 72 "StateRecordsModel" "noteRow" "[I"]
noncomputable def wsX9_refer : List Cond := .code yX9_refer cX9_refer 4 (some .int) :: ((wsX9_refer_r1 ++ wsX9_refer_r2) ++ wsX90)
noncomputable def wsX9_row_r1 : List Cond := [Cond.fieldLink RX9 145 "StateRecordsModel" "code" "I", Cond.constantLong RX9 168 (-1), Cond.methodLink RX9 176 yX9_isField, Cond.instanceMethod yX9_isField, Cond.selects RX9 yX9_isField yX9_isField, Cond.initialized RX9, Cond.code yX9_isField cX9_isField 3 (some .boolean), Cond.fieldLink RX9 13 "StateRecordsModel" "fMany" "[I", Cond.fieldLink RX9 45 "StateRecordsModel" "xType" "[I", Cond.methodLink RX9 154 yX9_isThing, Cond.instanceMethod yX9_isThing, Cond.selects RX9 yX9_isThing yX9_isThing, Cond.code yX9_isThing cX9_isThing 2 (some .boolean), Cond.fieldLink RX9 151 "StateRecordsModel" "things" "I", Cond.methodLink RX9 170 yX9_lane, Cond.instanceMethod yX9_lane, Cond.selects RX9 yX9_lane yX9_lane, Cond.code yX9_lane cX9_lane 3 (some .int), Cond.fieldLink RX9 20 "StateRecordsModel" "fLane" "[I", Cond.methodLink RX9 182 yX9_isFull, Cond.instanceMethod yX9_isFull, Cond.selects RX9 yX9_isFull yX9_isFull, Cond.code yX9_isFull cX9_isFull 1 (some .boolean), Cond.fieldLink RX9 165 "StateRecordsModel" "marks" "I"]
noncomputable def wsX9_row_r2 : List Cond := [Cond.fieldLink RX9 173 "StateRecordsModel" "notes" "I", Cond.methodLink RX9 190 yX9_newRow, Cond.instanceMethod yX9_newRow, Cond.selects RX9 yX9_newRow yX9_newRow, Cond.code yX9_newRow cX9_newRow 5 (some .int), Cond.fieldLink RX9 60 "StateRecordsModel" "rUsed" "[Z", Cond.fieldLink RX9 48 "StateRecordsModel" "xVal" "[J", Cond.fieldLink RX9 72 "StateRecordsModel" "noteRow" "[I", Cond.fieldLink RX9 51 "StateRecordsModel" "rLane" "[I", Cond.fieldLink RX9 54 "StateRecordsModel" "rMany" "[I", Cond.fieldLink RX9 57 "StateRecordsModel" "rItems" "[J", Cond.methodLink RX9 186 yX9_becomes, Cond.instanceMethod yX9_becomes, Cond.selects RX9 yX9_becomes yX9_becomes, Cond.code yX9_becomes cX9_becomes 5 none, Cond.fieldLink RX9 66 "StateRecordsModel" "noteThing" "[I", Cond.fieldLink RX9 69 "StateRecordsModel" "noteField" "[I", Cond.fieldLink RX9 75 "StateRecordsModel" "noteItem" "[I", Cond.fieldLink RX9 78 "StateRecordsModel" "noteWas" "[J"]
noncomputable def wsX9_row : List Cond := .code yX9_row cX9_row 4 (some .int) :: ((wsX9_row_r1 ++ wsX9_row_r2) ++ wsX90)
noncomputable def wsX9_share_r1 : List Cond := [Cond.fieldLink RX9 145 "StateRecordsModel" "code" "I", Cond.fieldLink RX9 48 "StateRecordsModel" "xVal" "[J", Cond.methodLink RX9 176 yX9_isField, Cond.instanceMethod yX9_isField, Cond.selects RX9 yX9_isField yX9_isField, Cond.initialized RX9, Cond.code yX9_isField cX9_isField 3 (some .boolean), Cond.fieldLink RX9 13 "StateRecordsModel" "fMany" "[I", Cond.fieldLink RX9 45 "StateRecordsModel" "xType" "[I", Cond.methodLink RX9 154 yX9_isThing, Cond.instanceMethod yX9_isThing, Cond.selects RX9 yX9_isThing yX9_isThing, Cond.code yX9_isThing cX9_isThing 2 (some .boolean), Cond.fieldLink RX9 151 "StateRecordsModel" "things" "I", Cond.methodLink RX9 170 yX9_lane, Cond.instanceMethod yX9_lane, Cond.selects RX9 yX9_lane yX9_lane, Cond.code yX9_lane cX9_lane 3 (some .int), Cond.fieldLink RX9 20 "StateRecordsModel" "fLane" "[I", Cond.methodLink RX9 182 yX9_isFull, Cond.instanceMethod yX9_isFull, Cond.selects RX9 yX9_isFull yX9_isFull, Cond.code yX9_isFull cX9_isFull 1 (some .boolean), Cond.fieldLink RX9 165 "StateRecordsModel" "marks" "I"]
noncomputable def wsX9_share_r2 : List Cond := [Cond.fieldLink RX9 173 "StateRecordsModel" "notes" "I", Cond.methodLink RX9 186 yX9_becomes, Cond.instanceMethod yX9_becomes, Cond.selects RX9 yX9_becomes yX9_becomes, Cond.code yX9_becomes cX9_becomes 5 none, Cond.fieldLink RX9 66 "StateRecordsModel" "noteThing" "[I", Cond.fieldLink RX9 69 "StateRecordsModel" "noteField" "[I", Cond.fieldLink RX9 75 "StateRecordsModel" "noteItem" "[I", Cond.fieldLink RX9 78 "StateRecordsModel" "noteWas" "[J", Cond.fieldLink RX9 72 "StateRecordsModel" "noteRow" "[I"]
noncomputable def wsX9_share : List Cond := .code yX9_share cX9_share 5 (some .int) :: ((wsX9_share_r1 ++ wsX9_share_r2) ++ wsX90)
noncomputable def wsX9_item_r1 : List Cond := [Cond.fieldLink RX9 145 "StateRecordsModel" "code" "I", Cond.fieldLink RX9 48 "StateRecordsModel" "xVal" "[J", Cond.fieldLink RX9 54 "StateRecordsModel" "rMany" "[I", Cond.fieldLink RX9 165 "StateRecordsModel" "marks" "I", Cond.fieldLink RX9 72 "StateRecordsModel" "noteRow" "[I", Cond.fieldLink RX9 173 "StateRecordsModel" "notes" "I", Cond.fieldLink RX9 75 "StateRecordsModel" "noteItem" "[I", Cond.fieldLink RX9 78 "StateRecordsModel" "noteWas" "[J", Cond.fieldLink RX9 57 "StateRecordsModel" "rItems" "[J", Cond.fieldLink RX9 51 "StateRecordsModel" "rLane" "[I", Cond.methodLink RX9 176 yX9_isField, Cond.instanceMethod yX9_isField, Cond.selects RX9 yX9_isField yX9_isField, Cond.initialized RX9, Cond.code yX9_isField cX9_isField 3 (some .boolean), Cond.fieldLink RX9 13 "StateRecordsModel" "fMany" "[I", Cond.fieldLink RX9 45 "StateRecordsModel" "xType" "[I", Cond.methodLink RX9 154 yX9_isThing, Cond.instanceMethod yX9_isThing, Cond.selects RX9 yX9_isThing yX9_isThing, Cond.code yX9_isThing cX9_isThing 2 (some .boolean), Cond.fieldLink RX9 151 "StateRecordsModel" "things" "I", Cond.methodLink RX9 170 yX9_lane, Cond.instanceMethod yX9_lane]
noncomputable def wsX9_item_r2 : List Cond := [Cond.selects RX9 yX9_lane yX9_lane, Cond.code yX9_lane cX9_lane 3 (some .int), Cond.fieldLink RX9 20 "StateRecordsModel" "fLane" "[I", Cond.methodLink RX9 182 yX9_isFull, Cond.instanceMethod yX9_isFull, Cond.selects RX9 yX9_isFull yX9_isFull, Cond.code yX9_isFull cX9_isFull 1 (some .boolean), Cond.methodLink RX9 193 yX9_cut, Cond.static yX9_cut, Cond.code yX9_cut cX9_cut 3 (some .long)]
noncomputable def wsX9_item : List Cond := .code yX9_item cX9_item 7 (some .int) :: ((wsX9_item_r1 ++ wsX9_item_r2) ++ wsX90)
noncomputable def wsX9_at : List Cond := .code yX9_at cX9_at 5 (some .long) :: (([.fieldLink RX9 145 "StateRecordsModel" "code" "I", .fieldLink RX9 48 "StateRecordsModel" "xVal" "[J", .fieldLink RX9 54 "StateRecordsModel" "rMany" "[I", .methodLink RX9 154 yX9_isThing, .instanceMethod yX9_isThing, .selects RX9 yX9_isThing yX9_isThing, .initialized RX9, .code yX9_isThing cX9_isThing 2 (some .boolean), .fieldLink RX9 151 "StateRecordsModel" "things" "I", .methodLink RX9 176 yX9_isField, .instanceMethod yX9_isField, .selects RX9 yX9_isField yX9_isField, .code yX9_isField cX9_isField 3 (some .boolean), .fieldLink RX9 13 "StateRecordsModel" "fMany" "[I", .fieldLink RX9 45 "StateRecordsModel" "xType" "[I", .methodLink RX9 170 yX9_lane, .instanceMethod yX9_lane, .selects RX9 yX9_lane yX9_lane, .code yX9_lane cX9_lane 3 (some .int), .fieldLink RX9 20 "StateRecordsModel" "fLane" "[I"] : List Cond) ++ wsX90)
noncomputable def wsX9_itemAt : List Cond := .code yX9_itemAt cX9_itemAt 5 (some .long) :: (([.fieldLink RX9 145 "StateRecordsModel" "code" "I", .fieldLink RX9 48 "StateRecordsModel" "xVal" "[J", .fieldLink RX9 54 "StateRecordsModel" "rMany" "[I", .fieldLink RX9 57 "StateRecordsModel" "rItems" "[J", .methodLink RX9 154 yX9_isThing, .instanceMethod yX9_isThing, .selects RX9 yX9_isThing yX9_isThing, .initialized RX9, .code yX9_isThing cX9_isThing 2 (some .boolean), .fieldLink RX9 151 "StateRecordsModel" "things" "I", .methodLink RX9 176 yX9_isField, .instanceMethod yX9_isField, .selects RX9 yX9_isField yX9_isField, .code yX9_isField cX9_isField 3 (some .boolean), .fieldLink RX9 13 "StateRecordsModel" "fMany" "[I", .fieldLink RX9 45 "StateRecordsModel" "xType" "[I", .methodLink RX9 170 yX9_lane, .instanceMethod yX9_lane, .selects RX9 yX9_lane yX9_lane, .code yX9_lane cX9_lane 3 (some .int), .fieldLink RX9 20 "StateRecordsModel" "fLane" "[I"] : List Cond) ++ wsX90)
noncomputable def wsX9_forget : List Cond := .code yX9_forget cX9_forget 2 (some .int) :: (([.fieldLink RX9 145 "StateRecordsModel" "code" "I", .fieldLink RX9 165 "StateRecordsModel" "marks" "I", .fieldLink RX9 151 "StateRecordsModel" "things" "I"] : List Cond) ++ wsX90)
noncomputable def wsX9_told : List Cond := .code yX9_told cX9_told 3 (some .int) :: (([.fieldLink RX9 145 "StateRecordsModel" "code" "I", .fieldLink RX9 45 "StateRecordsModel" "xType" "[I", .fieldLink RX9 13 "StateRecordsModel" "fMany" "[I", .methodLink RX9 154 yX9_isThing, .instanceMethod yX9_isThing, .selects RX9 yX9_isThing yX9_isThing, .initialized RX9, .code yX9_isThing cX9_isThing 2 (some .boolean), .fieldLink RX9 151 "StateRecordsModel" "things" "I"] : List Cond) ++ wsX90)
noncomputable def wsX9_isLane : List Cond := .code yX9_isLane cX9_isLane 5 (some .boolean) :: (([.fieldLink RX9 13 "StateRecordsModel" "fMany" "[I", .fieldLink RX9 45 "StateRecordsModel" "xType" "[I", .methodLink RX9 170 yX9_lane, .instanceMethod yX9_lane, .selects RX9 yX9_lane yX9_lane, .initialized RX9, .code yX9_lane cX9_lane 3 (some .int), .fieldLink RX9 20 "StateRecordsModel" "fLane" "[I"] : List Cond) ++ wsX90)
noncomputable def wsX9_checked_r1 : List Cond := [Cond.fieldLink RX9 33 "StateRecordsModel" "cKind" "[I", Cond.fieldLink RX9 36 "StateRecordsModel" "cA" "[I", Cond.fieldLink RX9 39 "StateRecordsModel" "cB" "[I", Cond.fieldLink RX9 48 "StateRecordsModel" "xVal" "[J", Cond.fieldLink RX9 13 "StateRecordsModel" "fMany" "[I", Cond.fieldLink RX9 45 "StateRecordsModel" "xType" "[I", Cond.fieldLink RX9 42 "StateRecordsModel" "cV" "[J", Cond.fieldLink RX9 54 "StateRecordsModel" "rMany" "[I", Cond.fieldLink RX9 57 "StateRecordsModel" "rItems" "[J", Cond.constantLong RX9 201 (12), Cond.fieldLink RX9 17 "StateRecordsModel" "fName" "[I", Cond.methodLink RX9 197 yX9_isLane, Cond.instanceMethod yX9_isLane, Cond.selects RX9 yX9_isLane yX9_isLane, Cond.initialized RX9, Cond.code yX9_isLane cX9_isLane 5 (some .boolean), Cond.methodLink RX9 170 yX9_lane, Cond.instanceMethod yX9_lane, Cond.selects RX9 yX9_lane yX9_lane, Cond.code yX9_lane cX9_lane 3 (some .int), Cond.fieldLink RX9 20 "StateRecordsModel" "fLane" "[I", Cond.methodLink RX9 161 yX9_named, Cond.instanceMethod yX9_named, Cond.selects RX9 yX9_named yX9_named]
noncomputable def wsX9_checked_r2 : List Cond := [Cond.code yX9_named cX9_named 4 (some .int)]
noncomputable def wsX9_checked : List Cond := .code yX9_checked cX9_checked 13 (some .int) :: ((wsX9_checked_r1 ++ wsX9_checked_r2) ++ wsX90)
noncomputable def wsX9_judged_r1 : List Cond := [Cond.fieldLink RX9 45 "StateRecordsModel" "xType" "[I", Cond.fieldLink RX9 30 "StateRecordsModel" "cMany" "[I", Cond.fieldLink RX9 206 "StateRecordsModel" "checkAt" "I", Cond.methodLink RX9 203 yX9_checked, Cond.instanceMethod yX9_checked, Cond.selects RX9 yX9_checked yX9_checked, Cond.initialized RX9, Cond.code yX9_checked cX9_checked 13 (some .int), Cond.fieldLink RX9 33 "StateRecordsModel" "cKind" "[I", Cond.fieldLink RX9 36 "StateRecordsModel" "cA" "[I", Cond.fieldLink RX9 39 "StateRecordsModel" "cB" "[I", Cond.fieldLink RX9 48 "StateRecordsModel" "xVal" "[J", Cond.fieldLink RX9 13 "StateRecordsModel" "fMany" "[I", Cond.fieldLink RX9 42 "StateRecordsModel" "cV" "[J", Cond.fieldLink RX9 54 "StateRecordsModel" "rMany" "[I", Cond.fieldLink RX9 57 "StateRecordsModel" "rItems" "[J", Cond.constantLong RX9 201 (12), Cond.fieldLink RX9 17 "StateRecordsModel" "fName" "[I", Cond.methodLink RX9 197 yX9_isLane, Cond.instanceMethod yX9_isLane, Cond.selects RX9 yX9_isLane yX9_isLane, Cond.code yX9_isLane cX9_isLane 5 (some .boolean), Cond.methodLink RX9 170 yX9_lane, Cond.instanceMethod yX9_lane]
noncomputable def wsX9_judged_r2 : List Cond := [Cond.selects RX9 yX9_lane yX9_lane, Cond.code yX9_lane cX9_lane 3 (some .int), Cond.fieldLink RX9 20 "StateRecordsModel" "fLane" "[I", Cond.methodLink RX9 161 yX9_named, Cond.instanceMethod yX9_named, Cond.selects RX9 yX9_named yX9_named, Cond.code yX9_named cX9_named 4 (some .int)]
noncomputable def wsX9_judged : List Cond := .code yX9_judged cX9_judged 5 (some .int) :: ((wsX9_judged_r1 ++ wsX9_judged_r2) ++ wsX90)
noncomputable def wsX9_judge_r1 : List Cond := [Cond.fieldLink RX9 145 "StateRecordsModel" "code" "I", Cond.methodLink RX9 154 yX9_isThing, Cond.instanceMethod yX9_isThing, Cond.selects RX9 yX9_isThing yX9_isThing, Cond.initialized RX9, Cond.code yX9_isThing cX9_isThing 2 (some .boolean), Cond.fieldLink RX9 151 "StateRecordsModel" "things" "I", Cond.methodLink RX9 209 yX9_judged, Cond.instanceMethod yX9_judged, Cond.selects RX9 yX9_judged yX9_judged, Cond.code yX9_judged cX9_judged 5 (some .int), Cond.fieldLink RX9 45 "StateRecordsModel" "xType" "[I", Cond.fieldLink RX9 30 "StateRecordsModel" "cMany" "[I", Cond.fieldLink RX9 206 "StateRecordsModel" "checkAt" "I", Cond.methodLink RX9 203 yX9_checked, Cond.instanceMethod yX9_checked, Cond.selects RX9 yX9_checked yX9_checked, Cond.code yX9_checked cX9_checked 13 (some .int), Cond.fieldLink RX9 33 "StateRecordsModel" "cKind" "[I", Cond.fieldLink RX9 36 "StateRecordsModel" "cA" "[I", Cond.fieldLink RX9 39 "StateRecordsModel" "cB" "[I", Cond.fieldLink RX9 48 "StateRecordsModel" "xVal" "[J", Cond.fieldLink RX9 13 "StateRecordsModel" "fMany" "[I", Cond.fieldLink RX9 42 "StateRecordsModel" "cV" "[J"]
noncomputable def wsX9_judge_r2 : List Cond := [Cond.fieldLink RX9 54 "StateRecordsModel" "rMany" "[I", Cond.fieldLink RX9 57 "StateRecordsModel" "rItems" "[J", Cond.constantLong RX9 201 (12), Cond.fieldLink RX9 17 "StateRecordsModel" "fName" "[I", Cond.methodLink RX9 197 yX9_isLane, Cond.instanceMethod yX9_isLane, Cond.selects RX9 yX9_isLane yX9_isLane, Cond.code yX9_isLane cX9_isLane 5 (some .boolean), Cond.methodLink RX9 170 yX9_lane, Cond.instanceMethod yX9_lane, Cond.selects RX9 yX9_lane yX9_lane, Cond.code yX9_lane cX9_lane 3 (some .int), Cond.fieldLink RX9 20 "StateRecordsModel" "fLane" "[I", Cond.methodLink RX9 161 yX9_named, Cond.instanceMethod yX9_named, Cond.selects RX9 yX9_named yX9_named, Cond.code yX9_named cX9_named 4 (some .int)]
noncomputable def wsX9_judge : List Cond := .code yX9_judge cX9_judge 3 (some .int) :: ((wsX9_judge_r1 ++ wsX9_judge_r2) ++ wsX90)
noncomputable def wsX9_faulty : List Cond := .code yX9_faulty cX9_faulty 5 (some .int) :: (([.fieldLink RX9 117 "StateRecordsModel" "faultRecord" "I", .fieldLink RX9 121 "StateRecordsModel" "faultName" "I", .fieldLink RX9 124 "StateRecordsModel" "faultCheck" "I"] : List Cond) ++ wsX90)
noncomputable def wsX9_recordOf : List Cond := .code yX9_recordOf cX9_recordOf 4 (some .int) :: (([.fieldLink RX9 81 "StateRecordsModel" "sMany" "[I", .fieldLink RX9 111 "StateRecordsModel" "order" "[I"] : List Cond) ++ wsX90)
noncomputable def wsX9_rowOf : List Cond := .code yX9_rowOf cX9_rowOf 5 (some .int) :: (([.fieldLink RX9 99 "StateRecordsModel" "sRows" "[I", .fieldLink RX9 114 "StateRecordsModel" "rowOrder" "[I", .fieldLink RX9 102 "StateRecordsModel" "sRowLane" "[I", .fieldLink RX9 51 "StateRecordsModel" "rLane" "[I", .fieldLink RX9 105 "StateRecordsModel" "sRowMany" "[I", .fieldLink RX9 54 "StateRecordsModel" "rMany" "[I", .fieldLink RX9 108 "StateRecordsModel" "sRowItems" "[J", .fieldLink RX9 57 "StateRecordsModel" "rItems" "[J"] : List Cond) ++ wsX90)
noncomputable def wsX9_saves_r1 : List Cond := [Cond.fieldLink RX9 81 "StateRecordsModel" "sMany" "[I", Cond.fieldLink RX9 99 "StateRecordsModel" "sRows" "[I", Cond.fieldLink RX9 111 "StateRecordsModel" "order" "[I", Cond.fieldLink RX9 45 "StateRecordsModel" "xType" "[I", Cond.fieldLink RX9 84 "StateRecordsModel" "sType" "[I", Cond.fieldLink RX9 87 "StateRecordsModel" "sFields" "[I", Cond.fieldLink RX9 13 "StateRecordsModel" "fMany" "[I", Cond.fieldLink RX9 27 "StateRecordsModel" "fShut" "[Z", Cond.fieldLink RX9 17 "StateRecordsModel" "fName" "[I", Cond.fieldLink RX9 48 "StateRecordsModel" "xVal" "[J", Cond.fieldLink RX9 90 "StateRecordsModel" "sName" "[I", Cond.fieldLink RX9 93 "StateRecordsModel" "sLane" "[I", Cond.fieldLink RX9 20 "StateRecordsModel" "fLane" "[I", Cond.fieldLink RX9 96 "StateRecordsModel" "sVal" "[J", Cond.methodLink RX9 213 yX9_recordOf, Cond.instanceMethod yX9_recordOf, Cond.selects RX9 yX9_recordOf yX9_recordOf, Cond.initialized RX9, Cond.code yX9_recordOf cX9_recordOf 4 (some .int), Cond.methodLink RX9 216 yX9_faulty, Cond.instanceMethod yX9_faulty, Cond.selects RX9 yX9_faulty yX9_faulty, Cond.code yX9_faulty cX9_faulty 5 (some .int), Cond.fieldLink RX9 117 "StateRecordsModel" "faultRecord" "I"]
noncomputable def wsX9_saves_r2 : List Cond := [Cond.fieldLink RX9 121 "StateRecordsModel" "faultName" "I", Cond.fieldLink RX9 124 "StateRecordsModel" "faultCheck" "I", Cond.methodLink RX9 220 yX9_rowOf, Cond.instanceMethod yX9_rowOf, Cond.selects RX9 yX9_rowOf yX9_rowOf, Cond.code yX9_rowOf cX9_rowOf 5 (some .int), Cond.fieldLink RX9 114 "StateRecordsModel" "rowOrder" "[I", Cond.fieldLink RX9 102 "StateRecordsModel" "sRowLane" "[I", Cond.fieldLink RX9 51 "StateRecordsModel" "rLane" "[I", Cond.fieldLink RX9 105 "StateRecordsModel" "sRowMany" "[I", Cond.fieldLink RX9 54 "StateRecordsModel" "rMany" "[I", Cond.fieldLink RX9 108 "StateRecordsModel" "sRowItems" "[J", Cond.fieldLink RX9 57 "StateRecordsModel" "rItems" "[J"]
noncomputable def wsX9_saves : List Cond := .code yX9_saves cX9_saves 10 (some .int) :: ((wsX9_saves_r1 ++ wsX9_saves_r2) ++ wsX90)
noncomputable def wsX9_isSave : List Cond := .code yX9_isSave cX9_isSave 2 (some .boolean) :: ([])
noncomputable def wsX9_save_r1 : List Cond := [Cond.fieldLink RX9 145 "StateRecordsModel" "code" "I", Cond.fieldLink RX9 81 "StateRecordsModel" "sMany" "[I", Cond.fieldLink RX9 99 "StateRecordsModel" "sRows" "[I", Cond.fieldLink RX9 84 "StateRecordsModel" "sType" "[I", Cond.fieldLink RX9 87 "StateRecordsModel" "sFields" "[I", Cond.fieldLink RX9 90 "StateRecordsModel" "sName" "[I", Cond.fieldLink RX9 93 "StateRecordsModel" "sLane" "[I", Cond.fieldLink RX9 96 "StateRecordsModel" "sVal" "[J", Cond.fieldLink RX9 102 "StateRecordsModel" "sRowLane" "[I", Cond.fieldLink RX9 105 "StateRecordsModel" "sRowMany" "[I", Cond.fieldLink RX9 108 "StateRecordsModel" "sRowItems" "[J", Cond.methodLink RX9 223 yX9_isSave, Cond.instanceMethod yX9_isSave, Cond.selects RX9 yX9_isSave yX9_isSave, Cond.initialized RX9, Cond.code yX9_isSave cX9_isSave 2 (some .boolean), Cond.methodLink RX9 154 yX9_isThing, Cond.instanceMethod yX9_isThing, Cond.selects RX9 yX9_isThing yX9_isThing, Cond.code yX9_isThing cX9_isThing 2 (some .boolean), Cond.fieldLink RX9 151 "StateRecordsModel" "things" "I", Cond.methodLink RX9 226 yX9_saves, Cond.instanceMethod yX9_saves, Cond.selects RX9 yX9_saves yX9_saves]
noncomputable def wsX9_save_r2 : List Cond := [Cond.code yX9_saves cX9_saves 10 (some .int), Cond.fieldLink RX9 111 "StateRecordsModel" "order" "[I", Cond.fieldLink RX9 45 "StateRecordsModel" "xType" "[I", Cond.fieldLink RX9 13 "StateRecordsModel" "fMany" "[I", Cond.fieldLink RX9 27 "StateRecordsModel" "fShut" "[Z", Cond.fieldLink RX9 17 "StateRecordsModel" "fName" "[I", Cond.fieldLink RX9 48 "StateRecordsModel" "xVal" "[J", Cond.fieldLink RX9 20 "StateRecordsModel" "fLane" "[I", Cond.methodLink RX9 213 yX9_recordOf, Cond.instanceMethod yX9_recordOf, Cond.selects RX9 yX9_recordOf yX9_recordOf, Cond.code yX9_recordOf cX9_recordOf 4 (some .int), Cond.methodLink RX9 216 yX9_faulty, Cond.instanceMethod yX9_faulty, Cond.selects RX9 yX9_faulty yX9_faulty, Cond.code yX9_faulty cX9_faulty 5 (some .int), Cond.fieldLink RX9 117 "StateRecordsModel" "faultRecord" "I", Cond.fieldLink RX9 121 "StateRecordsModel" "faultName" "I", Cond.fieldLink RX9 124 "StateRecordsModel" "faultCheck" "I", Cond.methodLink RX9 220 yX9_rowOf, Cond.instanceMethod yX9_rowOf, Cond.selects RX9 yX9_rowOf yX9_rowOf, Cond.code yX9_rowOf cX9_rowOf 5 (some .int), Cond.fieldLink RX9 114 "StateRecordsModel" "rowOrder" "[I"]
noncomputable def wsX9_save_r3 : List Cond := [Cond.fieldLink RX9 51 "StateRecordsModel" "rLane" "[I", Cond.fieldLink RX9 54 "StateRecordsModel" "rMany" "[I", Cond.fieldLink RX9 57 "StateRecordsModel" "rItems" "[J"]
noncomputable def wsX9_save : List Cond := .code yX9_save cX9_save 6 (some .int) :: ((wsX9_save_r1 ++ (wsX9_save_r2 ++ wsX9_save_r3)) ++ wsX90)
noncomputable def wsX9_saved : List Cond := .code yX9_saved cX9_saved 3 (some .int) :: (([.fieldLink RX9 145 "StateRecordsModel" "code" "I", .fieldLink RX9 81 "StateRecordsModel" "sMany" "[I", .fieldLink RX9 99 "StateRecordsModel" "sRows" "[I", .methodLink RX9 223 yX9_isSave, .instanceMethod yX9_isSave, .selects RX9 yX9_isSave yX9_isSave, .initialized RX9, .code yX9_isSave cX9_isSave 2 (some .boolean)] : List Cond) ++ wsX90)
noncomputable def wsX9_goes : List Cond := .code yX9_goes cX9_goes 2 (some .boolean) :: ([])
noncomputable def wsX9_rowBack : List Cond := .code yX9_rowBack cX9_rowBack 8 (some .int) :: (([.fieldLink RX9 127 "StateRecordsModel" "back" "[I", .fieldLink RX9 105 "StateRecordsModel" "sRowMany" "[I", .fieldLink RX9 57 "StateRecordsModel" "rItems" "[J", .fieldLink RX9 108 "StateRecordsModel" "sRowItems" "[J", .methodLink RX9 190 yX9_newRow, .instanceMethod yX9_newRow, .selects RX9 yX9_newRow yX9_newRow, .initialized RX9, .code yX9_newRow cX9_newRow 5 (some .int), .fieldLink RX9 60 "StateRecordsModel" "rUsed" "[Z", .fieldLink RX9 151 "StateRecordsModel" "things" "I", .fieldLink RX9 13 "StateRecordsModel" "fMany" "[I", .fieldLink RX9 45 "StateRecordsModel" "xType" "[I", .fieldLink RX9 48 "StateRecordsModel" "xVal" "[J", .fieldLink RX9 173 "StateRecordsModel" "notes" "I", .fieldLink RX9 72 "StateRecordsModel" "noteRow" "[I", .fieldLink RX9 51 "StateRecordsModel" "rLane" "[I", .fieldLink RX9 54 "StateRecordsModel" "rMany" "[I", .methodLink RX9 170 yX9_lane, .instanceMethod yX9_lane, .selects RX9 yX9_lane yX9_lane, .code yX9_lane cX9_lane 3 (some .int), .fieldLink RX9 20 "StateRecordsModel" "fLane" "[I"] : List Cond) ++ wsX90)
noncomputable def wsX9_fieldsBack_r1 : List Cond := [Cond.fieldLink RX9 45 "StateRecordsModel" "xType" "[I", Cond.fieldLink RX9 87 "StateRecordsModel" "sFields" "[I", Cond.fieldLink RX9 90 "StateRecordsModel" "sName" "[I", Cond.fieldLink RX9 20 "StateRecordsModel" "fLane" "[I", Cond.fieldLink RX9 93 "StateRecordsModel" "sLane" "[I", Cond.fieldLink RX9 96 "StateRecordsModel" "sVal" "[J", Cond.fieldLink RX9 7 "StateRecordsModel" "isOut" "[Z", Cond.constantLong RX9 168 (-1), Cond.fieldLink RX9 48 "StateRecordsModel" "xVal" "[J", Cond.methodLink RX9 161 yX9_named, Cond.instanceMethod yX9_named, Cond.selects RX9 yX9_named yX9_named, Cond.initialized RX9, Cond.code yX9_named cX9_named 4 (some .int), Cond.fieldLink RX9 13 "StateRecordsModel" "fMany" "[I", Cond.fieldLink RX9 17 "StateRecordsModel" "fName" "[I", Cond.methodLink RX9 216 yX9_faulty, Cond.instanceMethod yX9_faulty, Cond.selects RX9 yX9_faulty yX9_faulty, Cond.code yX9_faulty cX9_faulty 5 (some .int), Cond.fieldLink RX9 117 "StateRecordsModel" "faultRecord" "I", Cond.fieldLink RX9 121 "StateRecordsModel" "faultName" "I", Cond.fieldLink RX9 124 "StateRecordsModel" "faultCheck" "I", Cond.methodLink RX9 230 yX9_goes]
noncomputable def wsX9_fieldsBack_r2 : List Cond := [Cond.static yX9_goes, Cond.code yX9_goes cX9_goes 2 (some .boolean), Cond.methodLink RX9 233 yX9_rowBack, Cond.instanceMethod yX9_rowBack, Cond.selects RX9 yX9_rowBack yX9_rowBack, Cond.code yX9_rowBack cX9_rowBack 8 (some .int), Cond.fieldLink RX9 127 "StateRecordsModel" "back" "[I", Cond.fieldLink RX9 105 "StateRecordsModel" "sRowMany" "[I", Cond.fieldLink RX9 57 "StateRecordsModel" "rItems" "[J", Cond.fieldLink RX9 108 "StateRecordsModel" "sRowItems" "[J", Cond.methodLink RX9 190 yX9_newRow, Cond.instanceMethod yX9_newRow, Cond.selects RX9 yX9_newRow yX9_newRow, Cond.code yX9_newRow cX9_newRow 5 (some .int), Cond.fieldLink RX9 60 "StateRecordsModel" "rUsed" "[Z", Cond.fieldLink RX9 151 "StateRecordsModel" "things" "I", Cond.fieldLink RX9 173 "StateRecordsModel" "notes" "I", Cond.fieldLink RX9 72 "StateRecordsModel" "noteRow" "[I", Cond.fieldLink RX9 51 "StateRecordsModel" "rLane" "[I", Cond.fieldLink RX9 54 "StateRecordsModel" "rMany" "[I", Cond.methodLink RX9 170 yX9_lane, Cond.instanceMethod yX9_lane, Cond.selects RX9 yX9_lane yX9_lane, Cond.code yX9_lane cX9_lane 3 (some .int)]
noncomputable def wsX9_fieldsBack : List Cond := .code yX9_fieldsBack cX9_fieldsBack 13 (some .int) :: ((wsX9_fieldsBack_r1 ++ wsX9_fieldsBack_r2) ++ wsX90)
noncomputable def wsX9_restore_r1 : List Cond := [Cond.fieldLink RX9 145 "StateRecordsModel" "code" "I", Cond.fieldLink RX9 81 "StateRecordsModel" "sMany" "[I", Cond.fieldLink RX9 151 "StateRecordsModel" "things" "I", Cond.fieldLink RX9 127 "StateRecordsModel" "back" "[I", Cond.fieldLink RX9 84 "StateRecordsModel" "sType" "[I", Cond.fieldLink RX9 45 "StateRecordsModel" "xType" "[I", Cond.fieldLink RX9 13 "StateRecordsModel" "fMany" "[I", Cond.fieldLink RX9 48 "StateRecordsModel" "xVal" "[J", Cond.fieldLink RX9 23 "StateRecordsModel" "fFirst" "[J", Cond.fieldLink RX9 206 "StateRecordsModel" "checkAt" "I", Cond.methodLink RX9 223 yX9_isSave, Cond.instanceMethod yX9_isSave, Cond.selects RX9 yX9_isSave yX9_isSave, Cond.initialized RX9, Cond.code yX9_isSave cX9_isSave 2 (some .boolean), Cond.methodLink RX9 237 yX9_fieldsBack, Cond.instanceMethod yX9_fieldsBack, Cond.selects RX9 yX9_fieldsBack yX9_fieldsBack, Cond.code yX9_fieldsBack cX9_fieldsBack 13 (some .int), Cond.fieldLink RX9 87 "StateRecordsModel" "sFields" "[I", Cond.fieldLink RX9 90 "StateRecordsModel" "sName" "[I", Cond.fieldLink RX9 20 "StateRecordsModel" "fLane" "[I", Cond.fieldLink RX9 93 "StateRecordsModel" "sLane" "[I", Cond.fieldLink RX9 96 "StateRecordsModel" "sVal" "[J"]
noncomputable def wsX9_restore_r2 : List Cond := [Cond.fieldLink RX9 7 "StateRecordsModel" "isOut" "[Z", Cond.constantLong RX9 168 (-1), Cond.methodLink RX9 161 yX9_named, Cond.instanceMethod yX9_named, Cond.selects RX9 yX9_named yX9_named, Cond.code yX9_named cX9_named 4 (some .int), Cond.fieldLink RX9 17 "StateRecordsModel" "fName" "[I", Cond.methodLink RX9 216 yX9_faulty, Cond.instanceMethod yX9_faulty, Cond.selects RX9 yX9_faulty yX9_faulty, Cond.code yX9_faulty cX9_faulty 5 (some .int), Cond.fieldLink RX9 117 "StateRecordsModel" "faultRecord" "I", Cond.fieldLink RX9 121 "StateRecordsModel" "faultName" "I", Cond.fieldLink RX9 124 "StateRecordsModel" "faultCheck" "I", Cond.methodLink RX9 230 yX9_goes, Cond.static yX9_goes, Cond.code yX9_goes cX9_goes 2 (some .boolean), Cond.methodLink RX9 233 yX9_rowBack, Cond.instanceMethod yX9_rowBack, Cond.selects RX9 yX9_rowBack yX9_rowBack, Cond.code yX9_rowBack cX9_rowBack 8 (some .int), Cond.fieldLink RX9 105 "StateRecordsModel" "sRowMany" "[I", Cond.fieldLink RX9 57 "StateRecordsModel" "rItems" "[J", Cond.fieldLink RX9 108 "StateRecordsModel" "sRowItems" "[J"]
noncomputable def wsX9_restore_r3 : List Cond := [Cond.methodLink RX9 190 yX9_newRow, Cond.instanceMethod yX9_newRow, Cond.selects RX9 yX9_newRow yX9_newRow, Cond.code yX9_newRow cX9_newRow 5 (some .int), Cond.fieldLink RX9 60 "StateRecordsModel" "rUsed" "[Z", Cond.fieldLink RX9 173 "StateRecordsModel" "notes" "I", Cond.fieldLink RX9 72 "StateRecordsModel" "noteRow" "[I", Cond.fieldLink RX9 51 "StateRecordsModel" "rLane" "[I", Cond.fieldLink RX9 54 "StateRecordsModel" "rMany" "[I", Cond.methodLink RX9 170 yX9_lane, Cond.instanceMethod yX9_lane, Cond.selects RX9 yX9_lane yX9_lane, Cond.code yX9_lane cX9_lane 3 (some .int), Cond.methodLink RX9 209 yX9_judged, Cond.instanceMethod yX9_judged, Cond.selects RX9 yX9_judged yX9_judged, Cond.code yX9_judged cX9_judged 5 (some .int), Cond.fieldLink RX9 30 "StateRecordsModel" "cMany" "[I", Cond.methodLink RX9 203 yX9_checked, Cond.instanceMethod yX9_checked, Cond.selects RX9 yX9_checked yX9_checked, Cond.code yX9_checked cX9_checked 13 (some .int), Cond.fieldLink RX9 33 "StateRecordsModel" "cKind" "[I", Cond.fieldLink RX9 36 "StateRecordsModel" "cA" "[I"]
noncomputable def wsX9_restore_r4 : List Cond := [Cond.fieldLink RX9 39 "StateRecordsModel" "cB" "[I", Cond.fieldLink RX9 42 "StateRecordsModel" "cV" "[J", Cond.constantLong RX9 201 (12), Cond.methodLink RX9 197 yX9_isLane, Cond.instanceMethod yX9_isLane, Cond.selects RX9 yX9_isLane yX9_isLane, Cond.code yX9_isLane cX9_isLane 5 (some .boolean)]
noncomputable def wsX9_restore : List Cond := .code yX9_restore cX9_restore 8 (some .int) :: ((wsX9_restore_r1 ++ (wsX9_restore_r2 ++ (wsX9_restore_r3 ++ wsX9_restore_r4))) ++ wsX90)
noncomputable def wsX9_fault : List Cond := .code yX9_fault cX9_fault 2 (some .int) :: (([.fieldLink RX9 145 "StateRecordsModel" "code" "I", .fieldLink RX9 117 "StateRecordsModel" "faultRecord" "I", .fieldLink RX9 121 "StateRecordsModel" "faultName" "I", .fieldLink RX9 124 "StateRecordsModel" "faultCheck" "I"] : List Cond) ++ wsX90)
noncomputable def wsX9_meets : List Cond := .code yX9_meets cX9_meets 3 (some .boolean) :: (([.fieldLink RX9 130 "StateRecordsModel" "mate" "[I", .fieldLink RX9 133 "StateRecordsModel" "mateBack" "[I", .fieldLink RX9 142 "StateRecordsModel" "queue" "[I", .fieldLink RX9 240 "StateRecordsModel" "queued" "I"] : List Cond) ++ wsX90)
noncomputable def wsX9_rowsMeet : List Cond := .code yX9_rowsMeet cX9_rowsMeet 5 (some .boolean) :: (([.fieldLink RX9 136 "StateRecordsModel" "rowMate" "[I", .fieldLink RX9 139 "StateRecordsModel" "rowMateBack" "[I", .fieldLink RX9 54 "StateRecordsModel" "rMany" "[I", .fieldLink RX9 57 "StateRecordsModel" "rItems" "[J"] : List Cond) ++ wsX90)
noncomputable def wsX9_like_r1 : List Cond := [Cond.fieldLink RX9 145 "StateRecordsModel" "code" "I", Cond.fieldLink RX9 130 "StateRecordsModel" "mate" "[I", Cond.fieldLink RX9 133 "StateRecordsModel" "mateBack" "[I", Cond.fieldLink RX9 136 "StateRecordsModel" "rowMate" "[I", Cond.fieldLink RX9 139 "StateRecordsModel" "rowMateBack" "[I", Cond.fieldLink RX9 240 "StateRecordsModel" "queued" "I", Cond.fieldLink RX9 142 "StateRecordsModel" "queue" "[I", Cond.fieldLink RX9 45 "StateRecordsModel" "xType" "[I", Cond.fieldLink RX9 13 "StateRecordsModel" "fMany" "[I", Cond.fieldLink RX9 48 "StateRecordsModel" "xVal" "[J", Cond.methodLink RX9 154 yX9_isThing, Cond.instanceMethod yX9_isThing, Cond.selects RX9 yX9_isThing yX9_isThing, Cond.initialized RX9, Cond.code yX9_isThing cX9_isThing 2 (some .boolean), Cond.fieldLink RX9 151 "StateRecordsModel" "things" "I", Cond.methodLink RX9 243 yX9_meets, Cond.instanceMethod yX9_meets, Cond.selects RX9 yX9_meets yX9_meets, Cond.code yX9_meets cX9_meets 3 (some .boolean), Cond.methodLink RX9 170 yX9_lane, Cond.instanceMethod yX9_lane, Cond.selects RX9 yX9_lane yX9_lane, Cond.code yX9_lane cX9_lane 3 (some .int)]
noncomputable def wsX9_like_r2 : List Cond := [Cond.fieldLink RX9 20 "StateRecordsModel" "fLane" "[I", Cond.methodLink RX9 246 yX9_rowsMeet, Cond.instanceMethod yX9_rowsMeet, Cond.selects RX9 yX9_rowsMeet yX9_rowsMeet, Cond.code yX9_rowsMeet cX9_rowsMeet 5 (some .boolean), Cond.fieldLink RX9 54 "StateRecordsModel" "rMany" "[I", Cond.fieldLink RX9 57 "StateRecordsModel" "rItems" "[J"]
noncomputable def wsX9_like : List Cond := .code yX9_like cX9_like 12 (some .int) :: ((wsX9_like_r1 ++ wsX9_like_r2) ++ wsX90)
noncomputable def wsX9_rowsDiffer : List Cond := .code yX9_rowsDiffer cX9_rowsDiffer 5 (some .boolean) :: (([.fieldLink RX9 102 "StateRecordsModel" "sRowLane" "[I", .fieldLink RX9 105 "StateRecordsModel" "sRowMany" "[I", .fieldLink RX9 108 "StateRecordsModel" "sRowItems" "[J"] : List Cond) ++ wsX90)
noncomputable def wsX9_differs_r1 : List Cond := [Cond.fieldLink RX9 145 "StateRecordsModel" "code" "I", Cond.fieldLink RX9 81 "StateRecordsModel" "sMany" "[I", Cond.fieldLink RX9 84 "StateRecordsModel" "sType" "[I", Cond.fieldLink RX9 87 "StateRecordsModel" "sFields" "[I", Cond.fieldLink RX9 90 "StateRecordsModel" "sName" "[I", Cond.fieldLink RX9 93 "StateRecordsModel" "sLane" "[I", Cond.fieldLink RX9 96 "StateRecordsModel" "sVal" "[J", Cond.methodLink RX9 223 yX9_isSave, Cond.instanceMethod yX9_isSave, Cond.selects RX9 yX9_isSave yX9_isSave, Cond.initialized RX9, Cond.code yX9_isSave cX9_isSave 2 (some .boolean), Cond.methodLink RX9 154 yX9_isThing, Cond.instanceMethod yX9_isThing, Cond.selects RX9 yX9_isThing yX9_isThing, Cond.code yX9_isThing cX9_isThing 2 (some .boolean), Cond.fieldLink RX9 151 "StateRecordsModel" "things" "I", Cond.methodLink RX9 226 yX9_saves, Cond.instanceMethod yX9_saves, Cond.selects RX9 yX9_saves yX9_saves, Cond.code yX9_saves cX9_saves 10 (some .int), Cond.fieldLink RX9 99 "StateRecordsModel" "sRows" "[I", Cond.fieldLink RX9 111 "StateRecordsModel" "order" "[I", Cond.fieldLink RX9 45 "StateRecordsModel" "xType" "[I"]
noncomputable def wsX9_differs_r2 : List Cond := [Cond.fieldLink RX9 13 "StateRecordsModel" "fMany" "[I", Cond.fieldLink RX9 27 "StateRecordsModel" "fShut" "[Z", Cond.fieldLink RX9 17 "StateRecordsModel" "fName" "[I", Cond.fieldLink RX9 48 "StateRecordsModel" "xVal" "[J", Cond.fieldLink RX9 20 "StateRecordsModel" "fLane" "[I", Cond.methodLink RX9 213 yX9_recordOf, Cond.instanceMethod yX9_recordOf, Cond.selects RX9 yX9_recordOf yX9_recordOf, Cond.code yX9_recordOf cX9_recordOf 4 (some .int), Cond.methodLink RX9 216 yX9_faulty, Cond.instanceMethod yX9_faulty, Cond.selects RX9 yX9_faulty yX9_faulty, Cond.code yX9_faulty cX9_faulty 5 (some .int), Cond.fieldLink RX9 117 "StateRecordsModel" "faultRecord" "I", Cond.fieldLink RX9 121 "StateRecordsModel" "faultName" "I", Cond.fieldLink RX9 124 "StateRecordsModel" "faultCheck" "I", Cond.methodLink RX9 220 yX9_rowOf, Cond.instanceMethod yX9_rowOf, Cond.selects RX9 yX9_rowOf yX9_rowOf, Cond.code yX9_rowOf cX9_rowOf 5 (some .int), Cond.fieldLink RX9 114 "StateRecordsModel" "rowOrder" "[I", Cond.fieldLink RX9 102 "StateRecordsModel" "sRowLane" "[I", Cond.fieldLink RX9 51 "StateRecordsModel" "rLane" "[I", Cond.fieldLink RX9 105 "StateRecordsModel" "sRowMany" "[I"]
noncomputable def wsX9_differs_r3 : List Cond := [Cond.fieldLink RX9 54 "StateRecordsModel" "rMany" "[I", Cond.fieldLink RX9 108 "StateRecordsModel" "sRowItems" "[J", Cond.fieldLink RX9 57 "StateRecordsModel" "rItems" "[J", Cond.methodLink RX9 249 yX9_rowsDiffer, Cond.instanceMethod yX9_rowsDiffer, Cond.selects RX9 yX9_rowsDiffer yX9_rowsDiffer, Cond.code yX9_rowsDiffer cX9_rowsDiffer 5 (some .boolean)]
noncomputable def wsX9_differs : List Cond := .code yX9_differs cX9_differs 12 (some .int) :: ((wsX9_differs_r1 ++ (wsX9_differs_r2 ++ wsX9_differs_r3)) ++ wsX90)
noncomputable def wsX9_mark : List Cond := .code yX9_mark cX9_mark 1 (some .int) :: (([.fieldLink RX9 145 "StateRecordsModel" "code" "I", .fieldLink RX9 165 "StateRecordsModel" "marks" "I", .fieldLink RX9 63 "StateRecordsModel" "markAt" "[I", .fieldLink RX9 173 "StateRecordsModel" "notes" "I"] : List Cond) ++ wsX90)
noncomputable def wsX9_undo : List Cond := .code yX9_undo cX9_undo 2 (some .int) :: (([.fieldLink RX9 145 "StateRecordsModel" "code" "I", .fieldLink RX9 165 "StateRecordsModel" "marks" "I", .fieldLink RX9 173 "StateRecordsModel" "notes" "I", .fieldLink RX9 63 "StateRecordsModel" "markAt" "[I", .fieldLink RX9 75 "StateRecordsModel" "noteItem" "[I", .fieldLink RX9 48 "StateRecordsModel" "xVal" "[J", .fieldLink RX9 66 "StateRecordsModel" "noteThing" "[I", .fieldLink RX9 69 "StateRecordsModel" "noteField" "[I", .fieldLink RX9 78 "StateRecordsModel" "noteWas" "[J", .fieldLink RX9 57 "StateRecordsModel" "rItems" "[J", .fieldLink RX9 72 "StateRecordsModel" "noteRow" "[I"] : List Cond) ++ wsX90)
noncomputable def wsX9_count : List Cond := .code yX9_count cX9_count 2 (some .int) :: (([.fieldLink RX9 145 "StateRecordsModel" "code" "I", .fieldLink RX9 148 "StateRecordsModel" "types" "I", .fieldLink RX9 151 "StateRecordsModel" "things" "I", .fieldLink RX9 165 "StateRecordsModel" "marks" "I", .fieldLink RX9 173 "StateRecordsModel" "notes" "I"] : List Cond) ++ wsX90)
noncomputable def wsJ9_max_7cf53 : List Cond := .code yJ9_max_7cf53 cJ9_max_7cf53 2 (some .int) :: ([])
noncomputable def nX0_init : Nat := 0xb11300b504162a1000b51d2a0d00b51c2a0700b51b2a0100b72a
theorem bX0_init : Bts cX0_init nX0_init 26 := by unfold Bts; decide +kernel
theorem dX0_init_0 : decode cX0_init 0 = .ok (.aload_n 0, 1) := dz_42 (b_1 bX0_init (by decide +kernel))
theorem dX0_init_1 : decode cX0_init 1 = .ok (.invokespecial 1, 3) := dz_183 (b_3 (a := 0) (b := 1) bX0_init (by decide +kernel))
theorem dX0_init_4 : decode cX0_init 4 = .ok (.aload_n 0, 1) := dz_42 (b_1 bX0_init (by decide +kernel))
theorem dX0_init_5 : decode cX0_init 5 = .ok (.iload_n 1, 1) := dz_27 (b_1 bX0_init (by decide +kernel))
theorem dX0_init_6 : decode cX0_init 6 = .ok (.putfield 7, 3) := dz_181 (b_3 (a := 0) (b := 7) bX0_init (by decide +kernel))
theorem dX0_init_9 : decode cX0_init 9 = .ok (.aload_n 0, 1) := dz_42 (b_1 bX0_init (by decide +kernel))
theorem dX0_init_10 : decode cX0_init 10 = .ok (.iload_n 2, 1) := dz_28 (b_1 bX0_init (by decide +kernel))
theorem dX0_init_11 : decode cX0_init 11 = .ok (.putfield 13, 3) := dz_181 (b_3 (a := 0) (b := 13) bX0_init (by decide +kernel))
theorem dX0_init_14 : decode cX0_init 14 = .ok (.aload_n 0, 1) := dz_42 (b_1 bX0_init (by decide +kernel))
theorem dX0_init_15 : decode cX0_init 15 = .ok (.iload_n 3, 1) := dz_29 (b_1 bX0_init (by decide +kernel))
theorem dX0_init_16 : decode cX0_init 16 = .ok (.putfield 16, 3) := dz_181 (b_3 (a := 0) (b := 16) bX0_init (by decide +kernel))
theorem dX0_init_19 : decode cX0_init 19 = .ok (.aload_n 0, 1) := dz_42 (b_1 bX0_init (by decide +kernel))
theorem dX0_init_20 : decode cX0_init 20 = .ok (.lload 4, 2) := dz_22 (b_2 (a := 4) bX0_init (by decide +kernel))
theorem dX0_init_22 : decode cX0_init 22 = .ok (.putfield 19, 3) := dz_181 (b_3 (a := 0) (b := 19) bX0_init (by decide +kernel))
theorem dX0_init_25 : decode cX0_init 25 = .ok (.return_, 1) := dz_177 (b_1 bX0_init (by decide +kernel))
noncomputable def nX1_init : Nat := 0xb10100b72a
theorem bX1_init : Bts cX1_init nX1_init 5 := by unfold Bts; decide +kernel
theorem dX1_init_0 : decode cX1_init 0 = .ok (.aload_n 0, 1) := dz_42 (b_1 bX1_init (by decide +kernel))
theorem dX1_init_1 : decode cX1_init 1 = .ok (.invokespecial 1, 3) := dz_183 (b_3 (a := 0) (b := 1) bX1_init (by decide +kernel))
theorem dX1_init_4 : decode cX1_init 4 = .ok (.return_, 1) := dz_177 (b_1 bX1_init (by decide +kernel))
noncomputable def nX1_tell : Nat := 0xb11400b51d2a1100b51c2a0d00b51b2a0700b5042a
theorem bX1_tell : Bts cX1_tell nX1_tell 21 := by unfold Bts; decide +kernel
theorem dX1_tell_0 : decode cX1_tell 0 = .ok (.aload_n 0, 1) := dz_42 (b_1 bX1_tell (by decide +kernel))
theorem dX1_tell_1 : decode cX1_tell 1 = .ok (.iconst 1, 1) := dz_4 (b_1 bX1_tell (by decide +kernel))
theorem dX1_tell_2 : decode cX1_tell 2 = .ok (.putfield 7, 3) := dz_181 (b_3 (a := 0) (b := 7) bX1_tell (by decide +kernel))
theorem dX1_tell_5 : decode cX1_tell 5 = .ok (.aload_n 0, 1) := dz_42 (b_1 bX1_tell (by decide +kernel))
theorem dX1_tell_6 : decode cX1_tell 6 = .ok (.iload_n 1, 1) := dz_27 (b_1 bX1_tell (by decide +kernel))
theorem dX1_tell_7 : decode cX1_tell 7 = .ok (.putfield 13, 3) := dz_181 (b_3 (a := 0) (b := 13) bX1_tell (by decide +kernel))
theorem dX1_tell_10 : decode cX1_tell 10 = .ok (.aload_n 0, 1) := dz_42 (b_1 bX1_tell (by decide +kernel))
theorem dX1_tell_11 : decode cX1_tell 11 = .ok (.iload_n 2, 1) := dz_28 (b_1 bX1_tell (by decide +kernel))
theorem dX1_tell_12 : decode cX1_tell 12 = .ok (.putfield 17, 3) := dz_181 (b_3 (a := 0) (b := 17) bX1_tell (by decide +kernel))
theorem dX1_tell_15 : decode cX1_tell 15 = .ok (.aload_n 0, 1) := dz_42 (b_1 bX1_tell (by decide +kernel))
theorem dX1_tell_16 : decode cX1_tell 16 = .ok (.iload_n 3, 1) := dz_29 (b_1 bX1_tell (by decide +kernel))
theorem dX1_tell_17 : decode cX1_tell 17 = .ok (.putfield 20, 3) := dz_181 (b_3 (a := 0) (b := 20) bX1_tell (by decide +kernel))
theorem dX1_tell_20 : decode cX1_tell 20 = .ok (.return_, 1) := dz_177 (b_1 bX1_tell (by decide +kernel))
theorem gb_X3_init : wsX3_init.all goodWord = true := by decide +kernel
theorem gj_X2_init_0 : GpS ([.methodLink RX2 3 objectInit, .instanceMethod objectInit, .code objectInit ⟨#[0xb1]⟩ 1 none, .classLink RX2 9 RX3, .fieldLink RX2 11 "StateRecords$Journal" "notes" "[LStateRecords$Note;", .arrayClass .int, .fieldLink RX2 17 "StateRecords$Journal" "starts" "[I", .instantiable RX3 4, .initialized RX3, .instanceMethod yX3_init, .code yX3_init cX3_init 1 none, .methodLink RX3 1 objectInit]) wsX2_init := fun w h => List.mem_cons_of_mem _ (List.mem_append_left _ (List.mem_append_left _ (h)))
set_option maxRecDepth 20000 in
theorem ggX2_init_X3_init : GoodIn wsX2_init wsX3_init := gp_s (gp_c (gj_X2_init_0 _ (gp_4 (gp_4 (gp_1 (gp_1 gp_h))))) (gp_c (gj_X2_init_0 _ (gp_4 (gp_4 (gp_1 (gp_1 (gp_1 gp_h)))))) (gp_c (gj_X2_init_0 _ (gp_1 gp_h)) (gp_c (gj_X2_init_0 _ (gp_1 (gp_1 gp_h))) (gp_n))))) gb_X3_init
set_option maxRecDepth 20000 in
theorem gX2_init_X3_init_n21 : GoodIn wsX2_init (wsX3_init) := ggX2_init_X3_init
noncomputable def nX2_init : Nat := 0xb1eaffa7010184531500b7590900bb1b0b00b42a1600a250101b3c031100b50abc072a0b00b50900bd50102a0300b72a
theorem bX2_init : Bts cX2_init nX2_init 48 := by unfold Bts; decide +kernel
theorem dX2_init_0 : decode cX2_init 0 = .ok (.aload_n 0, 1) := dz_42 (b_1 bX2_init (by decide +kernel))
theorem dX2_init_1 : decode cX2_init 1 = .ok (.invokespecial 3, 3) := dz_183 (b_3 (a := 0) (b := 3) bX2_init (by decide +kernel))
theorem dX2_init_4 : decode cX2_init 4 = .ok (.aload_n 0, 1) := dz_42 (b_1 bX2_init (by decide +kernel))
theorem dX2_init_5 : decode cX2_init 5 = .ok (.bipush 80, 2) := dz_16 (b_2 (a := 80) bX2_init (by decide +kernel)) (by decide +kernel)
theorem dX2_init_7 : decode cX2_init 7 = .ok (.anewarray 9, 3) := dz_189 (b_3 (a := 0) (b := 9) bX2_init (by decide +kernel))
theorem dX2_init_10 : decode cX2_init 10 = .ok (.putfield 11, 3) := dz_181 (b_3 (a := 0) (b := 11) bX2_init (by decide +kernel))
theorem dX2_init_13 : decode cX2_init 13 = .ok (.aload_n 0, 1) := dz_42 (b_1 bX2_init (by decide +kernel))
theorem dX2_init_14 : decode cX2_init 14 = .ok (.iconst 4, 1) := dz_7 (b_1 bX2_init (by decide +kernel))
theorem dX2_init_15 : decode cX2_init 15 = .ok (.newarray .int, 2) := by decide +kernel
theorem dX2_init_17 : decode cX2_init 17 = .ok (.putfield 17, 3) := dz_181 (b_3 (a := 0) (b := 17) bX2_init (by decide +kernel))
theorem dX2_init_20 : decode cX2_init 20 = .ok (.iconst 0, 1) := dz_3 (b_1 bX2_init (by decide +kernel))
theorem dX2_init_21 : decode cX2_init 21 = .ok (.istore_n 1, 1) := dz_60 (b_1 bX2_init (by decide +kernel))
theorem dX2_init_22 : decode cX2_init 22 = .ok (.iload_n 1, 1) := dz_27 (b_1 bX2_init (by decide +kernel))
theorem dX2_init_23 : decode cX2_init 23 = .ok (.bipush 80, 2) := dz_16 (b_2 (a := 80) bX2_init (by decide +kernel)) (by decide +kernel)
theorem dX2_init_25 : decode cX2_init 25 = .ok (.if_icmp .ge 22, 3) := dz_162 (b_3 (a := 0) (b := 22) bX2_init (by decide +kernel)) (by decide +kernel)
theorem dX2_init_28 : decode cX2_init 28 = .ok (.aload_n 0, 1) := dz_42 (b_1 bX2_init (by decide +kernel))
theorem dX2_init_29 : decode cX2_init 29 = .ok (.getfield 11, 3) := dz_180 (b_3 (a := 0) (b := 11) bX2_init (by decide +kernel))
theorem dX2_init_32 : decode cX2_init 32 = .ok (.iload_n 1, 1) := dz_27 (b_1 bX2_init (by decide +kernel))
theorem dX2_init_33 : decode cX2_init 33 = .ok (.new 9, 3) := dz_187 (b_3 (a := 0) (b := 9) bX2_init (by decide +kernel))
theorem dX2_init_36 : decode cX2_init 36 = .ok (.dup, 1) := dz_89 (b_1 bX2_init (by decide +kernel))
theorem dX2_init_37 : decode cX2_init 37 = .ok (.invokespecial 21, 3) := dz_183 (b_3 (a := 0) (b := 21) bX2_init (by decide +kernel))
theorem dX2_init_40 : decode cX2_init 40 = .ok (.aastore, 1) := dz_83 (b_1 bX2_init (by decide +kernel))
theorem dX2_init_41 : decode cX2_init 41 = .ok (.iinc 1 1, 3) := dz_132 (b_3 (a := 1) (b := 1) bX2_init (by decide +kernel)) (by decide +kernel)
theorem dX2_init_44 : decode cX2_init 44 = .ok (.goto (-22), 3) := dz_167 (b_3 (a := 255) (b := 234) bX2_init (by decide +kernel)) (by decide +kernel)
theorem dX2_init_47 : decode cX2_init 47 = .ok (.return_, 1) := dz_177 (b_1 bX2_init (by decide +kernel))
noncomputable def nX2_isFull : Nat := 0xac030400a7040700a150101600b42a
theorem bX2_isFull : Bts cX2_isFull nX2_isFull 15 := by unfold Bts; decide +kernel
theorem dX2_isFull_0 : decode cX2_isFull 0 = .ok (.aload_n 0, 1) := dz_42 (b_1 bX2_isFull (by decide +kernel))
theorem dX2_isFull_1 : decode cX2_isFull 1 = .ok (.getfield 22, 3) := dz_180 (b_3 (a := 0) (b := 22) bX2_isFull (by decide +kernel))
theorem dX2_isFull_4 : decode cX2_isFull 4 = .ok (.bipush 80, 2) := dz_16 (b_2 (a := 80) bX2_isFull (by decide +kernel)) (by decide +kernel)
theorem dX2_isFull_6 : decode cX2_isFull 6 = .ok (.if_icmp .lt 7, 3) := dz_161 (b_3 (a := 0) (b := 7) bX2_isFull (by decide +kernel)) (by decide +kernel)
theorem dX2_isFull_9 : decode cX2_isFull 9 = .ok (.iconst 1, 1) := dz_4 (b_1 bX2_isFull (by decide +kernel))
theorem dX2_isFull_10 : decode cX2_isFull 10 = .ok (.goto 4, 3) := dz_167 (b_3 (a := 0) (b := 4) bX2_isFull (by decide +kernel)) (by decide +kernel)
theorem dX2_isFull_13 : decode cX2_isFull 13 = .ok (.iconst 0, 1) := dz_3 (b_1 bX2_isFull (by decide +kernel))
theorem dX2_isFull_14 : decode cX2_isFull 14 = .ok (.ireturn, 1) := dz_172 (b_1 bX2_isFull (by decide +kernel))
theorem gb_X2_write : wsX2_write.all goodWord = true := by decide +kernel
theorem gj_X2_noteField_0 : GpS ([.fieldLink RX2 26 "StateRecords$Thing" "values" "[J", .fieldLink RX2 32 "StateRecords$Thing" "rows" "[LStateRecords$Row;", .methodLink RX2 36 yX2_write, .instanceMethod yX2_write, .selects RX2 yX2_write yX2_write, .initialized RX2, .code yX2_write cX2_write 7 none, .fieldLink RX2 45 "StateRecords$Journal" "markCount" "I", .fieldLink RX2 11 "StateRecords$Journal" "notes" "[LStateRecords$Note;", .fieldLink RX2 22 "StateRecords$Journal" "noteCount" "I", .fieldLink RX2 52 "StateRecords$Note" "thing" "LStateRecords$Thing;", .fieldLink RX2 56 "StateRecords$Note" "index" "I", .fieldLink RX2 59 "StateRecords$Note" "value" "J", .fieldLink RX2 63 "StateRecords$Note" "row" "LStateRecords$Row;", .methodLink RX2 48 yX2_isFull, .instanceMethod yX2_isFull, .selects RX2 yX2_isFull yX2_isFull, .code yX2_isFull cX2_isFull 1 (some .boolean)]) wsX2_noteField := fun w h => List.mem_cons_of_mem _ (List.mem_append_left _ (List.mem_append_left _ (List.mem_append_left _ (h))))
theorem gj_X2_noteField_2 : GpS (wsX20) wsX2_noteField := fun w h => List.mem_cons_of_mem _ (List.mem_append_left _ (List.mem_append_right _ (h)))
theorem gj_X2_noteField_3 : GpS (wsX30) wsX2_noteField := fun w h => List.mem_cons_of_mem _ (List.mem_append_right _ (h))
set_option maxRecDepth 20000 in
theorem ggX2_noteField_X2_write : GoodIn wsX2_noteField wsX2_write := gp_s (gp_c (gj_X2_noteField_0 _ (gp_4 (gp_1 (gp_1 gp_h)))) (gp_a (gp_a (gp_c (gj_X2_noteField_0 _ (gp_4 (gp_1 (gp_1 (gp_1 gp_h))))) (gp_c (gj_X2_noteField_0 _ (gp_4 (gp_4 gp_h))) (gp_c (gj_X2_noteField_0 _ (gp_4 (gp_4 (gp_1 gp_h)))) (gp_c (gj_X2_noteField_0 _ (gp_4 (gp_4 (gp_1 (gp_1 gp_h))))) (gp_c (gj_X2_noteField_0 _ (gp_4 (gp_4 (gp_1 (gp_1 (gp_1 gp_h)))))) (gp_c (gj_X2_noteField_0 _ (gp_4 (gp_4 (gp_4 gp_h)))) (gp_c (gj_X2_noteField_0 _ (gp_4 (gp_4 (gp_4 (gp_1 gp_h))))) (gp_c (gj_X2_noteField_0 _ (gp_4 (gp_4 (gp_4 (gp_1 (gp_1 gp_h)))))) (gp_c (gj_X2_noteField_0 _ (gp_4 (gp_4 (gp_4 (gp_1 (gp_1 (gp_1 gp_h))))))) (gp_c (gj_X2_noteField_0 _ (gp_16 gp_h)) (gp_c (gj_X2_noteField_0 _ (gp_4 (gp_1 gp_h))) (gp_c (gj_X2_noteField_0 _ (gp_16 (gp_1 gp_h))) (gp_n))))))))))))) (gj_X2_noteField_2)) (gj_X2_noteField_3))) gb_X2_write
set_option maxRecDepth 20000 in
theorem gX2_noteField_X2_write : GoodIn wsX2_noteField (wsV RX2 36 RX2 yX2_write wsX2_write) := goodIn_app (gp_s (gp_c (gj_X2_noteField_0 _ (gp_1 (gp_1 gp_h))) (gp_c (gj_X2_noteField_0 _ (gp_1 (gp_1 (gp_1 gp_h)))) (gp_c (gj_X2_noteField_0 _ (gp_4 gp_h)) (gp_c (gj_X2_noteField_0 _ (gp_4 (gp_1 gp_h))) (gp_n))))) (gp_v)) ggX2_noteField_X2_write
noncomputable def nX2_noteField : Nat := 0xb12400b6321c2000b42b2f1c1a00b42b1c2b2a
theorem bX2_noteField : Bts cX2_noteField nX2_noteField 19 := by unfold Bts; decide +kernel
theorem dX2_noteField_0 : decode cX2_noteField 0 = .ok (.aload_n 0, 1) := dz_42 (b_1 bX2_noteField (by decide +kernel))
theorem dX2_noteField_1 : decode cX2_noteField 1 = .ok (.aload_n 1, 1) := dz_43 (b_1 bX2_noteField (by decide +kernel))
theorem dX2_noteField_2 : decode cX2_noteField 2 = .ok (.iload_n 2, 1) := dz_28 (b_1 bX2_noteField (by decide +kernel))
theorem dX2_noteField_3 : decode cX2_noteField 3 = .ok (.aload_n 1, 1) := dz_43 (b_1 bX2_noteField (by decide +kernel))
theorem dX2_noteField_4 : decode cX2_noteField 4 = .ok (.getfield 26, 3) := dz_180 (b_3 (a := 0) (b := 26) bX2_noteField (by decide +kernel))
theorem dX2_noteField_7 : decode cX2_noteField 7 = .ok (.iload_n 2, 1) := dz_28 (b_1 bX2_noteField (by decide +kernel))
theorem dX2_noteField_8 : decode cX2_noteField 8 = .ok (.laload, 1) := dz_47 (b_1 bX2_noteField (by decide +kernel))
theorem dX2_noteField_9 : decode cX2_noteField 9 = .ok (.aload_n 1, 1) := dz_43 (b_1 bX2_noteField (by decide +kernel))
theorem dX2_noteField_10 : decode cX2_noteField 10 = .ok (.getfield 32, 3) := dz_180 (b_3 (a := 0) (b := 32) bX2_noteField (by decide +kernel))
theorem dX2_noteField_13 : decode cX2_noteField 13 = .ok (.iload_n 2, 1) := dz_28 (b_1 bX2_noteField (by decide +kernel))
theorem dX2_noteField_14 : decode cX2_noteField 14 = .ok (.aaload, 1) := dz_50 (b_1 bX2_noteField (by decide +kernel))
theorem dX2_noteField_15 : decode cX2_noteField 15 = .ok (.invokevirtual 36, 3) := dz_182 (b_3 (a := 0) (b := 36) bX2_noteField (by decide +kernel))
theorem dX2_noteField_18 : decode cX2_noteField 18 = .ok (.return_, 1) := dz_177 (b_1 bX2_noteField (by decide +kernel))
theorem gj_X2_noteItem_0 : GpS ([.fieldLink RX2 40 "StateRecords$Row" "items" "[J", .methodLink RX2 36 yX2_write, .instanceMethod yX2_write, .selects RX2 yX2_write yX2_write, .initialized RX2, .code yX2_write cX2_write 7 none, .fieldLink RX2 45 "StateRecords$Journal" "markCount" "I", .fieldLink RX2 11 "StateRecords$Journal" "notes" "[LStateRecords$Note;", .fieldLink RX2 22 "StateRecords$Journal" "noteCount" "I", .fieldLink RX2 52 "StateRecords$Note" "thing" "LStateRecords$Thing;", .fieldLink RX2 56 "StateRecords$Note" "index" "I", .fieldLink RX2 59 "StateRecords$Note" "value" "J", .fieldLink RX2 63 "StateRecords$Note" "row" "LStateRecords$Row;", .methodLink RX2 48 yX2_isFull, .instanceMethod yX2_isFull, .selects RX2 yX2_isFull yX2_isFull, .code yX2_isFull cX2_isFull 1 (some .boolean)]) wsX2_noteItem := fun w h => List.mem_cons_of_mem _ (List.mem_append_left _ (List.mem_append_left _ (List.mem_append_left _ (h))))
theorem gj_X2_noteItem_2 : GpS (wsX20) wsX2_noteItem := fun w h => List.mem_cons_of_mem _ (List.mem_append_left _ (List.mem_append_right _ (h)))
theorem gj_X2_noteItem_3 : GpS (wsX30) wsX2_noteItem := fun w h => List.mem_cons_of_mem _ (List.mem_append_right _ (h))
set_option maxRecDepth 20000 in
theorem ggX2_noteItem_X2_write : GoodIn wsX2_noteItem wsX2_write := gp_s (gp_c (gj_X2_noteItem_0 _ (gp_4 (gp_1 gp_h))) (gp_a (gp_a (gp_c (gj_X2_noteItem_0 _ (gp_4 (gp_1 (gp_1 gp_h)))) (gp_c (gj_X2_noteItem_0 _ (gp_4 (gp_1 (gp_1 (gp_1 gp_h))))) (gp_c (gj_X2_noteItem_0 _ (gp_4 (gp_4 gp_h))) (gp_c (gj_X2_noteItem_0 _ (gp_4 (gp_4 (gp_1 gp_h)))) (gp_c (gj_X2_noteItem_0 _ (gp_4 (gp_4 (gp_1 (gp_1 gp_h))))) (gp_c (gj_X2_noteItem_0 _ (gp_4 (gp_4 (gp_1 (gp_1 (gp_1 gp_h)))))) (gp_c (gj_X2_noteItem_0 _ (gp_4 (gp_4 (gp_4 gp_h)))) (gp_c (gj_X2_noteItem_0 _ (gp_4 (gp_4 (gp_4 (gp_1 gp_h))))) (gp_c (gj_X2_noteItem_0 _ (gp_4 (gp_4 (gp_4 (gp_1 (gp_1 gp_h)))))) (gp_c (gj_X2_noteItem_0 _ (gp_4 (gp_4 (gp_4 (gp_1 (gp_1 (gp_1 gp_h))))))) (gp_c (gj_X2_noteItem_0 _ (gp_4 gp_h)) (gp_c (gj_X2_noteItem_0 _ (gp_16 gp_h)) (gp_n))))))))))))) (gj_X2_noteItem_2)) (gj_X2_noteItem_3))) gb_X2_write
set_option maxRecDepth 20000 in
theorem gX2_noteItem_X2_write : GoodIn wsX2_noteItem (wsV RX2 36 RX2 yX2_write wsX2_write) := goodIn_app (gp_s (gp_c (gj_X2_noteItem_0 _ (gp_1 gp_h)) (gp_c (gj_X2_noteItem_0 _ (gp_1 (gp_1 gp_h))) (gp_c (gj_X2_noteItem_0 _ (gp_1 (gp_1 (gp_1 gp_h)))) (gp_c (gj_X2_noteItem_0 _ (gp_4 gp_h)) (gp_n))))) (gp_v)) ggX2_noteItem_X2_write
noncomputable def nX2_noteItem : Nat := 0xb12400b62b2f1c2800b42b1c012a
theorem bX2_noteItem : Bts cX2_noteItem nX2_noteItem 14 := by unfold Bts; decide +kernel
theorem dX2_noteItem_0 : decode cX2_noteItem 0 = .ok (.aload_n 0, 1) := dz_42 (b_1 bX2_noteItem (by decide +kernel))
theorem dX2_noteItem_1 : decode cX2_noteItem 1 = .ok (.aconst_null, 1) := dz_1 (b_1 bX2_noteItem (by decide +kernel))
theorem dX2_noteItem_2 : decode cX2_noteItem 2 = .ok (.iload_n 2, 1) := dz_28 (b_1 bX2_noteItem (by decide +kernel))
theorem dX2_noteItem_3 : decode cX2_noteItem 3 = .ok (.aload_n 1, 1) := dz_43 (b_1 bX2_noteItem (by decide +kernel))
theorem dX2_noteItem_4 : decode cX2_noteItem 4 = .ok (.getfield 40, 3) := dz_180 (b_3 (a := 0) (b := 40) bX2_noteItem (by decide +kernel))
theorem dX2_noteItem_7 : decode cX2_noteItem 7 = .ok (.iload_n 2, 1) := dz_28 (b_1 bX2_noteItem (by decide +kernel))
theorem dX2_noteItem_8 : decode cX2_noteItem 8 = .ok (.laload, 1) := dz_47 (b_1 bX2_noteItem (by decide +kernel))
theorem dX2_noteItem_9 : decode cX2_noteItem 9 = .ok (.aload_n 1, 1) := dz_43 (b_1 bX2_noteItem (by decide +kernel))
theorem dX2_noteItem_10 : decode cX2_noteItem 10 = .ok (.invokevirtual 36, 3) := dz_182 (b_3 (a := 0) (b := 36) bX2_noteItem (by decide +kernel))
theorem dX2_noteItem_13 : decode cX2_noteItem 13 = .ok (.return_, 1) := dz_177 (b_1 bX2_noteItem (by decide +kernel))
theorem gb_X2_isFull : wsX2_isFull.all goodWord = true := by decide +kernel
theorem gj_X2_write_0 : GpS ([.fieldLink RX2 45 "StateRecords$Journal" "markCount" "I", .fieldLink RX2 11 "StateRecords$Journal" "notes" "[LStateRecords$Note;", .fieldLink RX2 22 "StateRecords$Journal" "noteCount" "I", .fieldLink RX2 52 "StateRecords$Note" "thing" "LStateRecords$Thing;", .fieldLink RX2 56 "StateRecords$Note" "index" "I", .fieldLink RX2 59 "StateRecords$Note" "value" "J", .fieldLink RX2 63 "StateRecords$Note" "row" "LStateRecords$Row;", .methodLink RX2 48 yX2_isFull, .instanceMethod yX2_isFull, .selects RX2 yX2_isFull yX2_isFull, .initialized RX2, .code yX2_isFull cX2_isFull 1 (some .boolean)]) wsX2_write := fun w h => List.mem_cons_of_mem _ (List.mem_append_left _ (List.mem_append_left _ (h)))
theorem gj_X2_write_1 : GpS (wsX20) wsX2_write := fun w h => List.mem_cons_of_mem _ (List.mem_append_left _ (List.mem_append_right _ (h)))
set_option maxRecDepth 20000 in
theorem ggX2_write_X2_isFull : GoodIn wsX2_write wsX2_isFull := gp_s (gp_c (gj_X2_write_0 _ (gp_4 (gp_4 (gp_1 (gp_1 (gp_1 gp_h)))))) (gp_a (gp_c (gj_X2_write_0 _ (gp_1 (gp_1 gp_h))) (gp_n)) (gj_X2_write_1))) gb_X2_isFull
set_option maxRecDepth 20000 in
theorem gX2_write_X2_isFull : GoodIn wsX2_write (wsV RX2 48 RX2 yX2_isFull wsX2_isFull) := goodIn_app (gp_s (gp_c (gj_X2_write_0 _ (gp_4 (gp_1 (gp_1 (gp_1 gp_h))))) (gp_c (gj_X2_write_0 _ (gp_4 (gp_4 gp_h))) (gp_c (gj_X2_write_0 _ (gp_4 (gp_4 (gp_1 gp_h)))) (gp_c (gj_X2_write_0 _ (gp_4 (gp_4 (gp_1 (gp_1 gp_h))))) (gp_n))))) (gp_v)) ggX2_write_X2_isFull
noncomputable def nX2_write : Nat := 0xb11600b560041600b4592a3f00b5051906193b00b52106193800b51c06193400b52b0619063a321600b42a0b00b42ab10400993000b62a0a00992d00b42a
theorem bX2_write : Bts cX2_write nX2_write 62 := by unfold Bts; decide +kernel
theorem dX2_write_0 : decode cX2_write 0 = .ok (.aload_n 0, 1) := dz_42 (b_1 bX2_write (by decide +kernel))
theorem dX2_write_1 : decode cX2_write 1 = .ok (.getfield 45, 3) := dz_180 (b_3 (a := 0) (b := 45) bX2_write (by decide +kernel))
theorem dX2_write_4 : decode cX2_write 4 = .ok (.ifCond .eq 10, 3) := dz_153 (b_3 (a := 0) (b := 10) bX2_write (by decide +kernel)) (by decide +kernel)
theorem dX2_write_7 : decode cX2_write 7 = .ok (.aload_n 0, 1) := dz_42 (b_1 bX2_write (by decide +kernel))
theorem dX2_write_8 : decode cX2_write 8 = .ok (.invokevirtual 48, 3) := dz_182 (b_3 (a := 0) (b := 48) bX2_write (by decide +kernel))
theorem dX2_write_11 : decode cX2_write 11 = .ok (.ifCond .eq 4, 3) := dz_153 (b_3 (a := 0) (b := 4) bX2_write (by decide +kernel)) (by decide +kernel)
theorem dX2_write_14 : decode cX2_write 14 = .ok (.return_, 1) := dz_177 (b_1 bX2_write (by decide +kernel))
theorem dX2_write_15 : decode cX2_write 15 = .ok (.aload_n 0, 1) := dz_42 (b_1 bX2_write (by decide +kernel))
theorem dX2_write_16 : decode cX2_write 16 = .ok (.getfield 11, 3) := dz_180 (b_3 (a := 0) (b := 11) bX2_write (by decide +kernel))
theorem dX2_write_19 : decode cX2_write 19 = .ok (.aload_n 0, 1) := dz_42 (b_1 bX2_write (by decide +kernel))
theorem dX2_write_20 : decode cX2_write 20 = .ok (.getfield 22, 3) := dz_180 (b_3 (a := 0) (b := 22) bX2_write (by decide +kernel))
theorem dX2_write_23 : decode cX2_write 23 = .ok (.aaload, 1) := dz_50 (b_1 bX2_write (by decide +kernel))
theorem dX2_write_24 : decode cX2_write 24 = .ok (.astore 6, 2) := dz_58 (b_2 (a := 6) bX2_write (by decide +kernel))
theorem dX2_write_26 : decode cX2_write 26 = .ok (.aload 6, 2) := dz_25 (b_2 (a := 6) bX2_write (by decide +kernel))
theorem dX2_write_28 : decode cX2_write 28 = .ok (.aload_n 1, 1) := dz_43 (b_1 bX2_write (by decide +kernel))
theorem dX2_write_29 : decode cX2_write 29 = .ok (.putfield 52, 3) := dz_181 (b_3 (a := 0) (b := 52) bX2_write (by decide +kernel))
theorem dX2_write_32 : decode cX2_write 32 = .ok (.aload 6, 2) := dz_25 (b_2 (a := 6) bX2_write (by decide +kernel))
theorem dX2_write_34 : decode cX2_write 34 = .ok (.iload_n 2, 1) := dz_28 (b_1 bX2_write (by decide +kernel))
theorem dX2_write_35 : decode cX2_write 35 = .ok (.putfield 56, 3) := dz_181 (b_3 (a := 0) (b := 56) bX2_write (by decide +kernel))
theorem dX2_write_38 : decode cX2_write 38 = .ok (.aload 6, 2) := dz_25 (b_2 (a := 6) bX2_write (by decide +kernel))
theorem dX2_write_40 : decode cX2_write 40 = .ok (.lload_n 3, 1) := dz_33 (b_1 bX2_write (by decide +kernel))
theorem dX2_write_41 : decode cX2_write 41 = .ok (.putfield 59, 3) := dz_181 (b_3 (a := 0) (b := 59) bX2_write (by decide +kernel))
theorem dX2_write_44 : decode cX2_write 44 = .ok (.aload 6, 2) := dz_25 (b_2 (a := 6) bX2_write (by decide +kernel))
theorem dX2_write_46 : decode cX2_write 46 = .ok (.aload 5, 2) := dz_25 (b_2 (a := 5) bX2_write (by decide +kernel))
theorem dX2_write_48 : decode cX2_write 48 = .ok (.putfield 63, 3) := dz_181 (b_3 (a := 0) (b := 63) bX2_write (by decide +kernel))
theorem dX2_write_51 : decode cX2_write 51 = .ok (.aload_n 0, 1) := dz_42 (b_1 bX2_write (by decide +kernel))
theorem dX2_write_52 : decode cX2_write 52 = .ok (.dup, 1) := dz_89 (b_1 bX2_write (by decide +kernel))
theorem dX2_write_53 : decode cX2_write 53 = .ok (.getfield 22, 3) := dz_180 (b_3 (a := 0) (b := 22) bX2_write (by decide +kernel))
theorem dX2_write_56 : decode cX2_write 56 = .ok (.iconst 1, 1) := dz_4 (b_1 bX2_write (by decide +kernel))
theorem dX2_write_57 : decode cX2_write 57 = .ok (.iadd, 1) := dz_96 (b_1 bX2_write (by decide +kernel))
theorem dX2_write_58 : decode cX2_write 58 = .ok (.putfield 22, 3) := dz_181 (b_3 (a := 0) (b := 22) bX2_write (by decide +kernel))
theorem dX2_write_61 : decode cX2_write 61 = .ok (.return_, 1) := dz_177 (b_1 bX2_write (by decide +kernel))
noncomputable def nX2_addMark : Nat := 0xb12d00b560042d00b4592a4f1600b42a2d00b42a1100b42a
theorem bX2_addMark : Bts cX2_addMark nX2_addMark 24 := by unfold Bts; decide +kernel
theorem dX2_addMark_0 : decode cX2_addMark 0 = .ok (.aload_n 0, 1) := dz_42 (b_1 bX2_addMark (by decide +kernel))
theorem dX2_addMark_1 : decode cX2_addMark 1 = .ok (.getfield 17, 3) := dz_180 (b_3 (a := 0) (b := 17) bX2_addMark (by decide +kernel))
theorem dX2_addMark_4 : decode cX2_addMark 4 = .ok (.aload_n 0, 1) := dz_42 (b_1 bX2_addMark (by decide +kernel))
theorem dX2_addMark_5 : decode cX2_addMark 5 = .ok (.getfield 45, 3) := dz_180 (b_3 (a := 0) (b := 45) bX2_addMark (by decide +kernel))
theorem dX2_addMark_8 : decode cX2_addMark 8 = .ok (.aload_n 0, 1) := dz_42 (b_1 bX2_addMark (by decide +kernel))
theorem dX2_addMark_9 : decode cX2_addMark 9 = .ok (.getfield 22, 3) := dz_180 (b_3 (a := 0) (b := 22) bX2_addMark (by decide +kernel))
theorem dX2_addMark_12 : decode cX2_addMark 12 = .ok (.iastore, 1) := dz_79 (b_1 bX2_addMark (by decide +kernel))
theorem dX2_addMark_13 : decode cX2_addMark 13 = .ok (.aload_n 0, 1) := dz_42 (b_1 bX2_addMark (by decide +kernel))
theorem dX2_addMark_14 : decode cX2_addMark 14 = .ok (.dup, 1) := dz_89 (b_1 bX2_addMark (by decide +kernel))
theorem dX2_addMark_15 : decode cX2_addMark 15 = .ok (.getfield 45, 3) := dz_180 (b_3 (a := 0) (b := 45) bX2_addMark (by decide +kernel))
theorem dX2_addMark_18 : decode cX2_addMark 18 = .ok (.iconst 1, 1) := dz_4 (b_1 bX2_addMark (by decide +kernel))
theorem dX2_addMark_19 : decode cX2_addMark 19 = .ok (.iadd, 1) := dz_96 (b_1 bX2_addMark (by decide +kernel))
theorem dX2_addMark_20 : decode cX2_addMark 20 = .ok (.putfield 45, 3) := dz_181 (b_3 (a := 0) (b := 45) bX2_addMark (by decide +kernel))
theorem dX2_addMark_23 : decode cX2_addMark 23 = .ok (.return_, 1) := dz_177 (b_1 bX2_addMark (by decide +kernel))
theorem gb_X3_takeBack : wsX3_takeBack.all goodWord = true := by decide +kernel
theorem gj_X2_undoLatestMark_0 : GpS ([.fieldLink RX2 45 "StateRecords$Journal" "markCount" "I", .fieldLink RX2 17 "StateRecords$Journal" "starts" "[I", .fieldLink RX2 22 "StateRecords$Journal" "noteCount" "I", .fieldLink RX2 11 "StateRecords$Journal" "notes" "[LStateRecords$Note;", .methodLink RX2 67 yX3_takeBack, .instanceMethod yX3_takeBack, .selects RX3 yX3_takeBack yX3_takeBack, .initialized RX3, .code yX3_takeBack cX3_takeBack 1 none, .fieldLink RX3 7 "StateRecords$Note" "thing" "LStateRecords$Thing;", .fieldLink RX3 13 "StateRecords$Thing" "values" "[J", .fieldLink RX3 19 "StateRecords$Note" "index" "I", .fieldLink RX3 23 "StateRecords$Note" "value" "J", .fieldLink RX3 27 "StateRecords$Thing" "rows" "[LStateRecords$Row;", .fieldLink RX3 31 "StateRecords$Note" "row" "LStateRecords$Row;", .fieldLink RX3 35 "StateRecords$Row" "items" "[J"]) wsX2_undoLatestMark := fun w h => List.mem_cons_of_mem _ (List.mem_append_left _ (List.mem_append_left _ (List.mem_append_left _ (List.mem_append_left _ (h)))))
theorem gj_X2_undoLatestMark_2 : GpS (wsX30) wsX2_undoLatestMark := fun w h => List.mem_cons_of_mem _ (List.mem_append_left _ (List.mem_append_left _ (List.mem_append_right _ (h))))
theorem gj_X2_undoLatestMark_3 : GpS (wsX60) wsX2_undoLatestMark := fun w h => List.mem_cons_of_mem _ (List.mem_append_left _ (List.mem_append_right _ (h)))
theorem gj_X2_undoLatestMark_4 : GpS (wsX50) wsX2_undoLatestMark := fun w h => List.mem_cons_of_mem _ (List.mem_append_right _ (h))
set_option maxRecDepth 20000 in
theorem ggX2_undoLatestMark_X3_takeBack : GoodIn wsX2_undoLatestMark wsX3_takeBack := gp_s (gp_c (gj_X2_undoLatestMark_0 _ (gp_4 (gp_4 gp_h))) (gp_a (gp_a (gp_a (gp_c (gj_X2_undoLatestMark_0 _ (gp_4 (gp_4 (gp_1 gp_h)))) (gp_c (gj_X2_undoLatestMark_0 _ (gp_4 (gp_4 (gp_1 (gp_1 gp_h))))) (gp_c (gj_X2_undoLatestMark_0 _ (gp_4 (gp_4 (gp_1 (gp_1 (gp_1 gp_h)))))) (gp_c (gj_X2_undoLatestMark_0 _ (gp_4 (gp_4 (gp_4 gp_h)))) (gp_c (gj_X2_undoLatestMark_0 _ (gp_4 (gp_4 (gp_4 (gp_1 gp_h))))) (gp_c (gj_X2_undoLatestMark_0 _ (gp_4 (gp_4 (gp_4 (gp_1 (gp_1 gp_h)))))) (gp_c (gj_X2_undoLatestMark_0 _ (gp_4 (gp_4 (gp_4 (gp_1 (gp_1 (gp_1 gp_h))))))) (gp_n)))))))) (gj_X2_undoLatestMark_2)) (gj_X2_undoLatestMark_3)) (gj_X2_undoLatestMark_4))) gb_X3_takeBack
set_option maxRecDepth 20000 in
theorem gX2_undoLatestMark_X3_takeBack : GoodIn wsX2_undoLatestMark (wsV RX2 67 RX3 yX3_takeBack wsX3_takeBack) := goodIn_app (gp_s (gp_c (gj_X2_undoLatestMark_0 _ (gp_4 gp_h)) (gp_c (gj_X2_undoLatestMark_0 _ (gp_4 (gp_1 gp_h))) (gp_c (gj_X2_undoLatestMark_0 _ (gp_4 (gp_1 (gp_1 gp_h)))) (gp_c (gj_X2_undoLatestMark_0 _ (gp_4 (gp_1 (gp_1 (gp_1 gp_h))))) (gp_n))))) (gp_v)) ggX2_undoLatestMark_X3_takeBack
noncomputable def nX2_undoLatestMark : Nat := 0xac1c1600b51b2aefffa7ff03844300b6321d0b00b42a1200a11b1d3e64041600b42a3d641b1600b42a3c2e2d00b42a1100b42a2d00b564042d00b4592a
theorem bX2_undoLatestMark : Bts cX2_undoLatestMark nX2_undoLatestMark 61 := by unfold Bts; decide +kernel
theorem dX2_undoLatestMark_0 : decode cX2_undoLatestMark 0 = .ok (.aload_n 0, 1) := dz_42 (b_1 bX2_undoLatestMark (by decide +kernel))
theorem dX2_undoLatestMark_1 : decode cX2_undoLatestMark 1 = .ok (.dup, 1) := dz_89 (b_1 bX2_undoLatestMark (by decide +kernel))
theorem dX2_undoLatestMark_2 : decode cX2_undoLatestMark 2 = .ok (.getfield 45, 3) := dz_180 (b_3 (a := 0) (b := 45) bX2_undoLatestMark (by decide +kernel))
theorem dX2_undoLatestMark_5 : decode cX2_undoLatestMark 5 = .ok (.iconst 1, 1) := dz_4 (b_1 bX2_undoLatestMark (by decide +kernel))
theorem dX2_undoLatestMark_6 : decode cX2_undoLatestMark 6 = .ok (.isub, 1) := dz_100 (b_1 bX2_undoLatestMark (by decide +kernel))
theorem dX2_undoLatestMark_7 : decode cX2_undoLatestMark 7 = .ok (.putfield 45, 3) := dz_181 (b_3 (a := 0) (b := 45) bX2_undoLatestMark (by decide +kernel))
theorem dX2_undoLatestMark_10 : decode cX2_undoLatestMark 10 = .ok (.aload_n 0, 1) := dz_42 (b_1 bX2_undoLatestMark (by decide +kernel))
theorem dX2_undoLatestMark_11 : decode cX2_undoLatestMark 11 = .ok (.getfield 17, 3) := dz_180 (b_3 (a := 0) (b := 17) bX2_undoLatestMark (by decide +kernel))
theorem dX2_undoLatestMark_14 : decode cX2_undoLatestMark 14 = .ok (.aload_n 0, 1) := dz_42 (b_1 bX2_undoLatestMark (by decide +kernel))
theorem dX2_undoLatestMark_15 : decode cX2_undoLatestMark 15 = .ok (.getfield 45, 3) := dz_180 (b_3 (a := 0) (b := 45) bX2_undoLatestMark (by decide +kernel))
theorem dX2_undoLatestMark_18 : decode cX2_undoLatestMark 18 = .ok (.iaload, 1) := dz_46 (b_1 bX2_undoLatestMark (by decide +kernel))
theorem dX2_undoLatestMark_19 : decode cX2_undoLatestMark 19 = .ok (.istore_n 1, 1) := dz_60 (b_1 bX2_undoLatestMark (by decide +kernel))
theorem dX2_undoLatestMark_20 : decode cX2_undoLatestMark 20 = .ok (.aload_n 0, 1) := dz_42 (b_1 bX2_undoLatestMark (by decide +kernel))
theorem dX2_undoLatestMark_21 : decode cX2_undoLatestMark 21 = .ok (.getfield 22, 3) := dz_180 (b_3 (a := 0) (b := 22) bX2_undoLatestMark (by decide +kernel))
theorem dX2_undoLatestMark_24 : decode cX2_undoLatestMark 24 = .ok (.iload_n 1, 1) := dz_27 (b_1 bX2_undoLatestMark (by decide +kernel))
theorem dX2_undoLatestMark_25 : decode cX2_undoLatestMark 25 = .ok (.isub, 1) := dz_100 (b_1 bX2_undoLatestMark (by decide +kernel))
theorem dX2_undoLatestMark_26 : decode cX2_undoLatestMark 26 = .ok (.istore_n 2, 1) := dz_61 (b_1 bX2_undoLatestMark (by decide +kernel))
theorem dX2_undoLatestMark_27 : decode cX2_undoLatestMark 27 = .ok (.aload_n 0, 1) := dz_42 (b_1 bX2_undoLatestMark (by decide +kernel))
theorem dX2_undoLatestMark_28 : decode cX2_undoLatestMark 28 = .ok (.getfield 22, 3) := dz_180 (b_3 (a := 0) (b := 22) bX2_undoLatestMark (by decide +kernel))
theorem dX2_undoLatestMark_31 : decode cX2_undoLatestMark 31 = .ok (.iconst 1, 1) := dz_4 (b_1 bX2_undoLatestMark (by decide +kernel))
theorem dX2_undoLatestMark_32 : decode cX2_undoLatestMark 32 = .ok (.isub, 1) := dz_100 (b_1 bX2_undoLatestMark (by decide +kernel))
theorem dX2_undoLatestMark_33 : decode cX2_undoLatestMark 33 = .ok (.istore_n 3, 1) := dz_62 (b_1 bX2_undoLatestMark (by decide +kernel))
theorem dX2_undoLatestMark_34 : decode cX2_undoLatestMark 34 = .ok (.iload_n 3, 1) := dz_29 (b_1 bX2_undoLatestMark (by decide +kernel))
theorem dX2_undoLatestMark_35 : decode cX2_undoLatestMark 35 = .ok (.iload_n 1, 1) := dz_27 (b_1 bX2_undoLatestMark (by decide +kernel))
theorem dX2_undoLatestMark_36 : decode cX2_undoLatestMark 36 = .ok (.if_icmp .lt 18, 3) := dz_161 (b_3 (a := 0) (b := 18) bX2_undoLatestMark (by decide +kernel)) (by decide +kernel)
theorem dX2_undoLatestMark_39 : decode cX2_undoLatestMark 39 = .ok (.aload_n 0, 1) := dz_42 (b_1 bX2_undoLatestMark (by decide +kernel))
theorem dX2_undoLatestMark_40 : decode cX2_undoLatestMark 40 = .ok (.getfield 11, 3) := dz_180 (b_3 (a := 0) (b := 11) bX2_undoLatestMark (by decide +kernel))
theorem dX2_undoLatestMark_43 : decode cX2_undoLatestMark 43 = .ok (.iload_n 3, 1) := dz_29 (b_1 bX2_undoLatestMark (by decide +kernel))
theorem dX2_undoLatestMark_44 : decode cX2_undoLatestMark 44 = .ok (.aaload, 1) := dz_50 (b_1 bX2_undoLatestMark (by decide +kernel))
theorem dX2_undoLatestMark_45 : decode cX2_undoLatestMark 45 = .ok (.invokevirtual 67, 3) := dz_182 (b_3 (a := 0) (b := 67) bX2_undoLatestMark (by decide +kernel))
theorem dX2_undoLatestMark_48 : decode cX2_undoLatestMark 48 = .ok (.iinc 3 (-1), 3) := dz_132 (b_3 (a := 3) (b := 255) bX2_undoLatestMark (by decide +kernel)) (by decide +kernel)
theorem dX2_undoLatestMark_51 : decode cX2_undoLatestMark 51 = .ok (.goto (-17), 3) := dz_167 (b_3 (a := 255) (b := 239) bX2_undoLatestMark (by decide +kernel)) (by decide +kernel)
theorem dX2_undoLatestMark_54 : decode cX2_undoLatestMark 54 = .ok (.aload_n 0, 1) := dz_42 (b_1 bX2_undoLatestMark (by decide +kernel))
theorem dX2_undoLatestMark_55 : decode cX2_undoLatestMark 55 = .ok (.iload_n 1, 1) := dz_27 (b_1 bX2_undoLatestMark (by decide +kernel))
theorem dX2_undoLatestMark_56 : decode cX2_undoLatestMark 56 = .ok (.putfield 22, 3) := dz_181 (b_3 (a := 0) (b := 22) bX2_undoLatestMark (by decide +kernel))
theorem dX2_undoLatestMark_59 : decode cX2_undoLatestMark 59 = .ok (.iload_n 2, 1) := dz_28 (b_1 bX2_undoLatestMark (by decide +kernel))
theorem dX2_undoLatestMark_60 : decode cX2_undoLatestMark 60 = .ok (.ireturn, 1) := dz_172 (b_1 bX2_undoLatestMark (by decide +kernel))
noncomputable def nX3_init : Nat := 0xb10100b72a
theorem bX3_init : Bts cX3_init nX3_init 5 := by unfold Bts; decide +kernel
theorem dX3_init_0 : decode cX3_init 0 = .ok (.aload_n 0, 1) := dz_42 (b_1 bX3_init (by decide +kernel))
theorem dX3_init_1 : decode cX3_init 1 = .ok (.invokespecial 1, 3) := dz_183 (b_3 (a := 0) (b := 1) bX3_init (by decide +kernel))
theorem dX3_init_4 : decode cX3_init 4 = .ok (.return_, 1) := dz_177 (b_1 bX3_init (by decide +kernel))
noncomputable def nX3_takeBack : Nat := 0xb1501700b42a1300b42a2300b41f00b42a1300c61f00b42a1a00a7531f00b42a1300b42a1b00b40700b42a501700b42a1300b42a0d00b40700b42a2600c60700b42a
theorem bX3_takeBack : Bts cX3_takeBack nX3_takeBack 66 := by unfold Bts; decide +kernel
theorem dX3_takeBack_0 : decode cX3_takeBack 0 = .ok (.aload_n 0, 1) := dz_42 (b_1 bX3_takeBack (by decide +kernel))
theorem dX3_takeBack_1 : decode cX3_takeBack 1 = .ok (.getfield 7, 3) := dz_180 (b_3 (a := 0) (b := 7) bX3_takeBack (by decide +kernel))
theorem dX3_takeBack_4 : decode cX3_takeBack 4 = .ok (.ifnull 38, 3) := dz_198 (b_3 (a := 0) (b := 38) bX3_takeBack (by decide +kernel)) (by decide +kernel)
theorem dX3_takeBack_7 : decode cX3_takeBack 7 = .ok (.aload_n 0, 1) := dz_42 (b_1 bX3_takeBack (by decide +kernel))
theorem dX3_takeBack_8 : decode cX3_takeBack 8 = .ok (.getfield 7, 3) := dz_180 (b_3 (a := 0) (b := 7) bX3_takeBack (by decide +kernel))
theorem dX3_takeBack_11 : decode cX3_takeBack 11 = .ok (.getfield 13, 3) := dz_180 (b_3 (a := 0) (b := 13) bX3_takeBack (by decide +kernel))
theorem dX3_takeBack_14 : decode cX3_takeBack 14 = .ok (.aload_n 0, 1) := dz_42 (b_1 bX3_takeBack (by decide +kernel))
theorem dX3_takeBack_15 : decode cX3_takeBack 15 = .ok (.getfield 19, 3) := dz_180 (b_3 (a := 0) (b := 19) bX3_takeBack (by decide +kernel))
theorem dX3_takeBack_18 : decode cX3_takeBack 18 = .ok (.aload_n 0, 1) := dz_42 (b_1 bX3_takeBack (by decide +kernel))
theorem dX3_takeBack_19 : decode cX3_takeBack 19 = .ok (.getfield 23, 3) := dz_180 (b_3 (a := 0) (b := 23) bX3_takeBack (by decide +kernel))
theorem dX3_takeBack_22 : decode cX3_takeBack 22 = .ok (.lastore, 1) := dz_80 (b_1 bX3_takeBack (by decide +kernel))
theorem dX3_takeBack_23 : decode cX3_takeBack 23 = .ok (.aload_n 0, 1) := dz_42 (b_1 bX3_takeBack (by decide +kernel))
theorem dX3_takeBack_24 : decode cX3_takeBack 24 = .ok (.getfield 7, 3) := dz_180 (b_3 (a := 0) (b := 7) bX3_takeBack (by decide +kernel))
theorem dX3_takeBack_27 : decode cX3_takeBack 27 = .ok (.getfield 27, 3) := dz_180 (b_3 (a := 0) (b := 27) bX3_takeBack (by decide +kernel))
theorem dX3_takeBack_30 : decode cX3_takeBack 30 = .ok (.aload_n 0, 1) := dz_42 (b_1 bX3_takeBack (by decide +kernel))
theorem dX3_takeBack_31 : decode cX3_takeBack 31 = .ok (.getfield 19, 3) := dz_180 (b_3 (a := 0) (b := 19) bX3_takeBack (by decide +kernel))
theorem dX3_takeBack_34 : decode cX3_takeBack 34 = .ok (.aload_n 0, 1) := dz_42 (b_1 bX3_takeBack (by decide +kernel))
theorem dX3_takeBack_35 : decode cX3_takeBack 35 = .ok (.getfield 31, 3) := dz_180 (b_3 (a := 0) (b := 31) bX3_takeBack (by decide +kernel))
theorem dX3_takeBack_38 : decode cX3_takeBack 38 = .ok (.aastore, 1) := dz_83 (b_1 bX3_takeBack (by decide +kernel))
theorem dX3_takeBack_39 : decode cX3_takeBack 39 = .ok (.goto 26, 3) := dz_167 (b_3 (a := 0) (b := 26) bX3_takeBack (by decide +kernel)) (by decide +kernel)
theorem dX3_takeBack_42 : decode cX3_takeBack 42 = .ok (.aload_n 0, 1) := dz_42 (b_1 bX3_takeBack (by decide +kernel))
theorem dX3_takeBack_43 : decode cX3_takeBack 43 = .ok (.getfield 31, 3) := dz_180 (b_3 (a := 0) (b := 31) bX3_takeBack (by decide +kernel))
theorem dX3_takeBack_46 : decode cX3_takeBack 46 = .ok (.ifnull 19, 3) := dz_198 (b_3 (a := 0) (b := 19) bX3_takeBack (by decide +kernel)) (by decide +kernel)
theorem dX3_takeBack_49 : decode cX3_takeBack 49 = .ok (.aload_n 0, 1) := dz_42 (b_1 bX3_takeBack (by decide +kernel))
theorem dX3_takeBack_50 : decode cX3_takeBack 50 = .ok (.getfield 31, 3) := dz_180 (b_3 (a := 0) (b := 31) bX3_takeBack (by decide +kernel))
theorem dX3_takeBack_53 : decode cX3_takeBack 53 = .ok (.getfield 35, 3) := dz_180 (b_3 (a := 0) (b := 35) bX3_takeBack (by decide +kernel))
theorem dX3_takeBack_56 : decode cX3_takeBack 56 = .ok (.aload_n 0, 1) := dz_42 (b_1 bX3_takeBack (by decide +kernel))
theorem dX3_takeBack_57 : decode cX3_takeBack 57 = .ok (.getfield 19, 3) := dz_180 (b_3 (a := 0) (b := 19) bX3_takeBack (by decide +kernel))
theorem dX3_takeBack_60 : decode cX3_takeBack 60 = .ok (.aload_n 0, 1) := dz_42 (b_1 bX3_takeBack (by decide +kernel))
theorem dX3_takeBack_61 : decode cX3_takeBack 61 = .ok (.getfield 23, 3) := dz_180 (b_3 (a := 0) (b := 23) bX3_takeBack (by decide +kernel))
theorem dX3_takeBack_64 : decode cX3_takeBack 64 = .ok (.lastore, 1) := dz_80 (b_1 bX3_takeBack (by decide +kernel))
theorem dX3_takeBack_65 : decode cX3_takeBack 65 = .ok (.return_, 1) := dz_177 (b_1 bX3_takeBack (by decide +kernel))
noncomputable def nX4_init : Nat := 0xb11f00b50bbc0807112a1c00b50abc9600112a1800b50bbc9600112a1500b50abc9600112a1200b50abc9600112a0f00b50abc1e102a0900b50abc1e102a0300b72a
theorem bX4_init : Bts cX4_init nX4_init 66 := by unfold Bts; decide +kernel
theorem dX4_init_0 : decode cX4_init 0 = .ok (.aload_n 0, 1) := dz_42 (b_1 bX4_init (by decide +kernel))
theorem dX4_init_1 : decode cX4_init 1 = .ok (.invokespecial 3, 3) := dz_183 (b_3 (a := 0) (b := 3) bX4_init (by decide +kernel))
theorem dX4_init_4 : decode cX4_init 4 = .ok (.aload_n 0, 1) := dz_42 (b_1 bX4_init (by decide +kernel))
theorem dX4_init_5 : decode cX4_init 5 = .ok (.bipush 30, 2) := dz_16 (b_2 (a := 30) bX4_init (by decide +kernel)) (by decide +kernel)
theorem dX4_init_7 : decode cX4_init 7 = .ok (.newarray .int, 2) := by decide +kernel
theorem dX4_init_9 : decode cX4_init 9 = .ok (.putfield 9, 3) := dz_181 (b_3 (a := 0) (b := 9) bX4_init (by decide +kernel))
theorem dX4_init_12 : decode cX4_init 12 = .ok (.aload_n 0, 1) := dz_42 (b_1 bX4_init (by decide +kernel))
theorem dX4_init_13 : decode cX4_init 13 = .ok (.bipush 30, 2) := dz_16 (b_2 (a := 30) bX4_init (by decide +kernel)) (by decide +kernel)
theorem dX4_init_15 : decode cX4_init 15 = .ok (.newarray .int, 2) := by decide +kernel
theorem dX4_init_17 : decode cX4_init 17 = .ok (.putfield 15, 3) := dz_181 (b_3 (a := 0) (b := 15) bX4_init (by decide +kernel))
theorem dX4_init_20 : decode cX4_init 20 = .ok (.aload_n 0, 1) := dz_42 (b_1 bX4_init (by decide +kernel))
theorem dX4_init_21 : decode cX4_init 21 = .ok (.sipush 150, 3) := dz_17 (b_3 (a := 0) (b := 150) bX4_init (by decide +kernel)) (by decide +kernel)
theorem dX4_init_24 : decode cX4_init 24 = .ok (.newarray .int, 2) := by decide +kernel
theorem dX4_init_26 : decode cX4_init 26 = .ok (.putfield 18, 3) := dz_181 (b_3 (a := 0) (b := 18) bX4_init (by decide +kernel))
theorem dX4_init_29 : decode cX4_init 29 = .ok (.aload_n 0, 1) := dz_42 (b_1 bX4_init (by decide +kernel))
theorem dX4_init_30 : decode cX4_init 30 = .ok (.sipush 150, 3) := dz_17 (b_3 (a := 0) (b := 150) bX4_init (by decide +kernel)) (by decide +kernel)
theorem dX4_init_33 : decode cX4_init 33 = .ok (.newarray .int, 2) := by decide +kernel
theorem dX4_init_35 : decode cX4_init 35 = .ok (.putfield 21, 3) := dz_181 (b_3 (a := 0) (b := 21) bX4_init (by decide +kernel))
theorem dX4_init_38 : decode cX4_init 38 = .ok (.aload_n 0, 1) := dz_42 (b_1 bX4_init (by decide +kernel))
theorem dX4_init_39 : decode cX4_init 39 = .ok (.sipush 150, 3) := dz_17 (b_3 (a := 0) (b := 150) bX4_init (by decide +kernel)) (by decide +kernel)
theorem dX4_init_42 : decode cX4_init 42 = .ok (.newarray .long, 2) := by decide +kernel
theorem dX4_init_44 : decode cX4_init 44 = .ok (.putfield 24, 3) := dz_181 (b_3 (a := 0) (b := 24) bX4_init (by decide +kernel))
theorem dX4_init_47 : decode cX4_init 47 = .ok (.aload_n 0, 1) := dz_42 (b_1 bX4_init (by decide +kernel))
theorem dX4_init_48 : decode cX4_init 48 = .ok (.sipush 150, 3) := dz_17 (b_3 (a := 0) (b := 150) bX4_init (by decide +kernel)) (by decide +kernel)
theorem dX4_init_51 : decode cX4_init 51 = .ok (.newarray .int, 2) := by decide +kernel
theorem dX4_init_53 : decode cX4_init 53 = .ok (.putfield 28, 3) := dz_181 (b_3 (a := 0) (b := 28) bX4_init (by decide +kernel))
theorem dX4_init_56 : decode cX4_init 56 = .ok (.aload_n 0, 1) := dz_42 (b_1 bX4_init (by decide +kernel))
theorem dX4_init_57 : decode cX4_init 57 = .ok (.sipush 1800, 3) := dz_17 (b_3 (a := 7) (b := 8) bX4_init (by decide +kernel)) (by decide +kernel)
theorem dX4_init_60 : decode cX4_init 60 = .ok (.newarray .long, 2) := by decide +kernel
theorem dX4_init_62 : decode cX4_init 62 = .ok (.putfield 31, 3) := dz_181 (b_3 (a := 0) (b := 31) bX4_init (by decide +kernel))
theorem dX4_init_65 : decode cX4_init 65 = .ok (.return_, 1) := dz_177 (b_1 bX4_init (by decide +kernel))
noncomputable def nX4_numberOf : Nat := 0xac2200b42b2800b560042800b4592ae0ffa7010284502f1c2b00b42b601c680c102800b42a1f00b42a1d00a2be2b00b42b1c3d034fbe2b00b42b2800b42a1c00b42a2200b52800b42a2b4800a0022200b42b
theorem bX4_numberOf : Bts cX4_numberOf nX4_numberOf 82 := by unfold Bts; decide +kernel
theorem dX4_numberOf_0 : decode cX4_numberOf 0 = .ok (.aload_n 1, 1) := dz_43 (b_1 bX4_numberOf (by decide +kernel))
theorem dX4_numberOf_1 : decode cX4_numberOf 1 = .ok (.getfield 34, 3) := dz_180 (b_3 (a := 0) (b := 34) bX4_numberOf (by decide +kernel))
theorem dX4_numberOf_4 : decode cX4_numberOf 4 = .ok (.iconst (-1), 1) := dz_2 (b_1 bX4_numberOf (by decide +kernel))
theorem dX4_numberOf_5 : decode cX4_numberOf 5 = .ok (.if_icmp .ne 72, 3) := dz_160 (b_3 (a := 0) (b := 72) bX4_numberOf (by decide +kernel)) (by decide +kernel)
theorem dX4_numberOf_8 : decode cX4_numberOf 8 = .ok (.aload_n 1, 1) := dz_43 (b_1 bX4_numberOf (by decide +kernel))
theorem dX4_numberOf_9 : decode cX4_numberOf 9 = .ok (.aload_n 0, 1) := dz_42 (b_1 bX4_numberOf (by decide +kernel))
theorem dX4_numberOf_10 : decode cX4_numberOf 10 = .ok (.getfield 40, 3) := dz_180 (b_3 (a := 0) (b := 40) bX4_numberOf (by decide +kernel))
theorem dX4_numberOf_13 : decode cX4_numberOf 13 = .ok (.putfield 34, 3) := dz_181 (b_3 (a := 0) (b := 34) bX4_numberOf (by decide +kernel))
theorem dX4_numberOf_16 : decode cX4_numberOf 16 = .ok (.aload_n 0, 1) := dz_42 (b_1 bX4_numberOf (by decide +kernel))
theorem dX4_numberOf_17 : decode cX4_numberOf 17 = .ok (.getfield 28, 3) := dz_180 (b_3 (a := 0) (b := 28) bX4_numberOf (by decide +kernel))
theorem dX4_numberOf_20 : decode cX4_numberOf 20 = .ok (.aload_n 0, 1) := dz_42 (b_1 bX4_numberOf (by decide +kernel))
theorem dX4_numberOf_21 : decode cX4_numberOf 21 = .ok (.getfield 40, 3) := dz_180 (b_3 (a := 0) (b := 40) bX4_numberOf (by decide +kernel))
theorem dX4_numberOf_24 : decode cX4_numberOf 24 = .ok (.aload_n 1, 1) := dz_43 (b_1 bX4_numberOf (by decide +kernel))
theorem dX4_numberOf_25 : decode cX4_numberOf 25 = .ok (.getfield 43, 3) := dz_180 (b_3 (a := 0) (b := 43) bX4_numberOf (by decide +kernel))
theorem dX4_numberOf_28 : decode cX4_numberOf 28 = .ok (.arraylength, 1) := dz_190 (b_1 bX4_numberOf (by decide +kernel))
theorem dX4_numberOf_29 : decode cX4_numberOf 29 = .ok (.iastore, 1) := dz_79 (b_1 bX4_numberOf (by decide +kernel))
theorem dX4_numberOf_30 : decode cX4_numberOf 30 = .ok (.iconst 0, 1) := dz_3 (b_1 bX4_numberOf (by decide +kernel))
theorem dX4_numberOf_31 : decode cX4_numberOf 31 = .ok (.istore_n 2, 1) := dz_61 (b_1 bX4_numberOf (by decide +kernel))
theorem dX4_numberOf_32 : decode cX4_numberOf 32 = .ok (.iload_n 2, 1) := dz_28 (b_1 bX4_numberOf (by decide +kernel))
theorem dX4_numberOf_33 : decode cX4_numberOf 33 = .ok (.aload_n 1, 1) := dz_43 (b_1 bX4_numberOf (by decide +kernel))
theorem dX4_numberOf_34 : decode cX4_numberOf 34 = .ok (.getfield 43, 3) := dz_180 (b_3 (a := 0) (b := 43) bX4_numberOf (by decide +kernel))
theorem dX4_numberOf_37 : decode cX4_numberOf 37 = .ok (.arraylength, 1) := dz_190 (b_1 bX4_numberOf (by decide +kernel))
theorem dX4_numberOf_38 : decode cX4_numberOf 38 = .ok (.if_icmp .ge 29, 3) := dz_162 (b_3 (a := 0) (b := 29) bX4_numberOf (by decide +kernel)) (by decide +kernel)
theorem dX4_numberOf_41 : decode cX4_numberOf 41 = .ok (.aload_n 0, 1) := dz_42 (b_1 bX4_numberOf (by decide +kernel))
theorem dX4_numberOf_42 : decode cX4_numberOf 42 = .ok (.getfield 31, 3) := dz_180 (b_3 (a := 0) (b := 31) bX4_numberOf (by decide +kernel))
theorem dX4_numberOf_45 : decode cX4_numberOf 45 = .ok (.aload_n 0, 1) := dz_42 (b_1 bX4_numberOf (by decide +kernel))
theorem dX4_numberOf_46 : decode cX4_numberOf 46 = .ok (.getfield 40, 3) := dz_180 (b_3 (a := 0) (b := 40) bX4_numberOf (by decide +kernel))
theorem dX4_numberOf_49 : decode cX4_numberOf 49 = .ok (.bipush 12, 2) := dz_16 (b_2 (a := 12) bX4_numberOf (by decide +kernel)) (by decide +kernel)
theorem dX4_numberOf_51 : decode cX4_numberOf 51 = .ok (.imul, 1) := dz_104 (b_1 bX4_numberOf (by decide +kernel))
theorem dX4_numberOf_52 : decode cX4_numberOf 52 = .ok (.iload_n 2, 1) := dz_28 (b_1 bX4_numberOf (by decide +kernel))
theorem dX4_numberOf_53 : decode cX4_numberOf 53 = .ok (.iadd, 1) := dz_96 (b_1 bX4_numberOf (by decide +kernel))
theorem dX4_numberOf_54 : decode cX4_numberOf 54 = .ok (.aload_n 1, 1) := dz_43 (b_1 bX4_numberOf (by decide +kernel))
theorem dX4_numberOf_55 : decode cX4_numberOf 55 = .ok (.getfield 43, 3) := dz_180 (b_3 (a := 0) (b := 43) bX4_numberOf (by decide +kernel))
theorem dX4_numberOf_58 : decode cX4_numberOf 58 = .ok (.iload_n 2, 1) := dz_28 (b_1 bX4_numberOf (by decide +kernel))
theorem dX4_numberOf_59 : decode cX4_numberOf 59 = .ok (.laload, 1) := dz_47 (b_1 bX4_numberOf (by decide +kernel))
theorem dX4_numberOf_60 : decode cX4_numberOf 60 = .ok (.lastore, 1) := dz_80 (b_1 bX4_numberOf (by decide +kernel))
theorem dX4_numberOf_61 : decode cX4_numberOf 61 = .ok (.iinc 2 1, 3) := dz_132 (b_3 (a := 2) (b := 1) bX4_numberOf (by decide +kernel)) (by decide +kernel)
theorem dX4_numberOf_64 : decode cX4_numberOf 64 = .ok (.goto (-32), 3) := dz_167 (b_3 (a := 255) (b := 224) bX4_numberOf (by decide +kernel)) (by decide +kernel)
theorem dX4_numberOf_67 : decode cX4_numberOf 67 = .ok (.aload_n 0, 1) := dz_42 (b_1 bX4_numberOf (by decide +kernel))
theorem dX4_numberOf_68 : decode cX4_numberOf 68 = .ok (.dup, 1) := dz_89 (b_1 bX4_numberOf (by decide +kernel))
theorem dX4_numberOf_69 : decode cX4_numberOf 69 = .ok (.getfield 40, 3) := dz_180 (b_3 (a := 0) (b := 40) bX4_numberOf (by decide +kernel))
theorem dX4_numberOf_72 : decode cX4_numberOf 72 = .ok (.iconst 1, 1) := dz_4 (b_1 bX4_numberOf (by decide +kernel))
theorem dX4_numberOf_73 : decode cX4_numberOf 73 = .ok (.iadd, 1) := dz_96 (b_1 bX4_numberOf (by decide +kernel))
theorem dX4_numberOf_74 : decode cX4_numberOf 74 = .ok (.putfield 40, 3) := dz_181 (b_3 (a := 0) (b := 40) bX4_numberOf (by decide +kernel))
theorem dX4_numberOf_77 : decode cX4_numberOf 77 = .ok (.aload_n 1, 1) := dz_43 (b_1 bX4_numberOf (by decide +kernel))
theorem dX4_numberOf_78 : decode cX4_numberOf 78 = .ok (.getfield 34, 3) := dz_180 (b_3 (a := 0) (b := 34) bX4_numberOf (by decide +kernel))
theorem dX4_numberOf_81 : decode cX4_numberOf 81 = .ok (.ireturn, 1) := dz_172 (b_1 bX4_numberOf (by decide +kernel))
theorem gb_X5_init : wsX5_init.all goodWord = true := by decide +kernel
theorem gj_X4_copyOfRow_0 : GpS ([.classLink RX4 35 RX5, .instantiable RX5 2, .initialized RX5, .fieldLink RX4 28 "StateRecords$Records" "rowLengths" "[I", .fieldLink RX4 43 "StateRecords$Row" "items" "[J", .fieldLink RX4 31 "StateRecords$Records" "items" "[J", .methodLink RX4 44 yX5_init, .instanceMethod yX5_init, .code yX5_init cX5_init 2 none, .methodLink RX5 1 objectInit, .instanceMethod objectInit, .code objectInit ⟨#[0xb1]⟩ 1 none, .arrayClass .long, .fieldLink RX5 7 "StateRecords$Row" "items" "[J"]) wsX4_copyOfRow := fun w h => List.mem_cons_of_mem _ (List.mem_append_left _ (List.mem_append_left _ (h)))
theorem gj_X4_copyOfRow_1 : GpS (wsX50) wsX4_copyOfRow := fun w h => List.mem_cons_of_mem _ (List.mem_append_left _ (List.mem_append_right _ (h)))
set_option maxRecDepth 20000 in
theorem ggX4_copyOfRow_X5_init : GoodIn wsX4_copyOfRow wsX5_init := gp_s (gp_c (gj_X4_copyOfRow_0 _ (gp_4 (gp_4 gp_h))) (gp_a (gp_c (gj_X4_copyOfRow_0 _ (gp_4 (gp_4 (gp_1 gp_h)))) (gp_c (gj_X4_copyOfRow_0 _ (gp_4 (gp_4 (gp_1 (gp_1 gp_h))))) (gp_c (gj_X4_copyOfRow_0 _ (gp_4 (gp_4 (gp_1 (gp_1 (gp_1 gp_h)))))) (gp_c (gj_X4_copyOfRow_0 _ (gp_4 (gp_4 (gp_4 gp_h)))) (gp_c (gj_X4_copyOfRow_0 _ (gp_4 (gp_4 (gp_4 (gp_1 gp_h))))) (gp_n)))))) (gj_X4_copyOfRow_1))) gb_X5_init
set_option maxRecDepth 20000 in
theorem gX4_copyOfRow_X5_init : GoodIn wsX4_copyOfRow (wsX5_init) := ggX4_copyOfRow_X5_init
noncomputable def nX4_copyOfRow : Nat := 0xb02ce3ffa7010384502f601d680c101b1f00b42a1d2b00b42c1a00a2be2b00b42c1d3e034d2c00b72e1b1c00b42a592300bb
theorem bX4_copyOfRow : Bts cX4_copyOfRow nX4_copyOfRow 50 := by unfold Bts; decide +kernel
theorem dX4_copyOfRow_0 : decode cX4_copyOfRow 0 = .ok (.new 35, 3) := dz_187 (b_3 (a := 0) (b := 35) bX4_copyOfRow (by decide +kernel))
theorem dX4_copyOfRow_3 : decode cX4_copyOfRow 3 = .ok (.dup, 1) := dz_89 (b_1 bX4_copyOfRow (by decide +kernel))
theorem dX4_copyOfRow_4 : decode cX4_copyOfRow 4 = .ok (.aload_n 0, 1) := dz_42 (b_1 bX4_copyOfRow (by decide +kernel))
theorem dX4_copyOfRow_5 : decode cX4_copyOfRow 5 = .ok (.getfield 28, 3) := dz_180 (b_3 (a := 0) (b := 28) bX4_copyOfRow (by decide +kernel))
theorem dX4_copyOfRow_8 : decode cX4_copyOfRow 8 = .ok (.iload_n 1, 1) := dz_27 (b_1 bX4_copyOfRow (by decide +kernel))
theorem dX4_copyOfRow_9 : decode cX4_copyOfRow 9 = .ok (.iaload, 1) := dz_46 (b_1 bX4_copyOfRow (by decide +kernel))
theorem dX4_copyOfRow_10 : decode cX4_copyOfRow 10 = .ok (.invokespecial 44, 3) := dz_183 (b_3 (a := 0) (b := 44) bX4_copyOfRow (by decide +kernel))
theorem dX4_copyOfRow_13 : decode cX4_copyOfRow 13 = .ok (.astore_n 2, 1) := dz_77 (b_1 bX4_copyOfRow (by decide +kernel))
theorem dX4_copyOfRow_14 : decode cX4_copyOfRow 14 = .ok (.iconst 0, 1) := dz_3 (b_1 bX4_copyOfRow (by decide +kernel))
theorem dX4_copyOfRow_15 : decode cX4_copyOfRow 15 = .ok (.istore_n 3, 1) := dz_62 (b_1 bX4_copyOfRow (by decide +kernel))
theorem dX4_copyOfRow_16 : decode cX4_copyOfRow 16 = .ok (.iload_n 3, 1) := dz_29 (b_1 bX4_copyOfRow (by decide +kernel))
theorem dX4_copyOfRow_17 : decode cX4_copyOfRow 17 = .ok (.aload_n 2, 1) := dz_44 (b_1 bX4_copyOfRow (by decide +kernel))
theorem dX4_copyOfRow_18 : decode cX4_copyOfRow 18 = .ok (.getfield 43, 3) := dz_180 (b_3 (a := 0) (b := 43) bX4_copyOfRow (by decide +kernel))
theorem dX4_copyOfRow_21 : decode cX4_copyOfRow 21 = .ok (.arraylength, 1) := dz_190 (b_1 bX4_copyOfRow (by decide +kernel))
theorem dX4_copyOfRow_22 : decode cX4_copyOfRow 22 = .ok (.if_icmp .ge 26, 3) := dz_162 (b_3 (a := 0) (b := 26) bX4_copyOfRow (by decide +kernel)) (by decide +kernel)
theorem dX4_copyOfRow_25 : decode cX4_copyOfRow 25 = .ok (.aload_n 2, 1) := dz_44 (b_1 bX4_copyOfRow (by decide +kernel))
theorem dX4_copyOfRow_26 : decode cX4_copyOfRow 26 = .ok (.getfield 43, 3) := dz_180 (b_3 (a := 0) (b := 43) bX4_copyOfRow (by decide +kernel))
theorem dX4_copyOfRow_29 : decode cX4_copyOfRow 29 = .ok (.iload_n 3, 1) := dz_29 (b_1 bX4_copyOfRow (by decide +kernel))
theorem dX4_copyOfRow_30 : decode cX4_copyOfRow 30 = .ok (.aload_n 0, 1) := dz_42 (b_1 bX4_copyOfRow (by decide +kernel))
theorem dX4_copyOfRow_31 : decode cX4_copyOfRow 31 = .ok (.getfield 31, 3) := dz_180 (b_3 (a := 0) (b := 31) bX4_copyOfRow (by decide +kernel))
theorem dX4_copyOfRow_34 : decode cX4_copyOfRow 34 = .ok (.iload_n 1, 1) := dz_27 (b_1 bX4_copyOfRow (by decide +kernel))
theorem dX4_copyOfRow_35 : decode cX4_copyOfRow 35 = .ok (.bipush 12, 2) := dz_16 (b_2 (a := 12) bX4_copyOfRow (by decide +kernel)) (by decide +kernel)
theorem dX4_copyOfRow_37 : decode cX4_copyOfRow 37 = .ok (.imul, 1) := dz_104 (b_1 bX4_copyOfRow (by decide +kernel))
theorem dX4_copyOfRow_38 : decode cX4_copyOfRow 38 = .ok (.iload_n 3, 1) := dz_29 (b_1 bX4_copyOfRow (by decide +kernel))
theorem dX4_copyOfRow_39 : decode cX4_copyOfRow 39 = .ok (.iadd, 1) := dz_96 (b_1 bX4_copyOfRow (by decide +kernel))
theorem dX4_copyOfRow_40 : decode cX4_copyOfRow 40 = .ok (.laload, 1) := dz_47 (b_1 bX4_copyOfRow (by decide +kernel))
theorem dX4_copyOfRow_41 : decode cX4_copyOfRow 41 = .ok (.lastore, 1) := dz_80 (b_1 bX4_copyOfRow (by decide +kernel))
theorem dX4_copyOfRow_42 : decode cX4_copyOfRow 42 = .ok (.iinc 3 1, 3) := dz_132 (b_3 (a := 3) (b := 1) bX4_copyOfRow (by decide +kernel)) (by decide +kernel)
theorem dX4_copyOfRow_45 : decode cX4_copyOfRow 45 = .ok (.goto (-29), 3) := dz_167 (b_3 (a := 255) (b := 227) bX4_copyOfRow (by decide +kernel)) (by decide +kernel)
theorem dX4_copyOfRow_48 : decode cX4_copyOfRow 48 = .ok (.aload_n 2, 1) := dz_44 (b_1 bX4_copyOfRow (by decide +kernel))
theorem dX4_copyOfRow_49 : decode cX4_copyOfRow 49 = .ok (.areturn, 1) := dz_176 (b_1 bX4_copyOfRow (by decide +kernel))
noncomputable def nX4_hasShapeOf : Nat := 0xac04c8ffa7010384ac0305009f2e04151500b42b2e04151500b42a1400a02e04151200b42b2e04151200b42a0436601d68081c3400a22e1c0f00b42a1d3e03ac0305009f2e1c0f00b42b2e1c0f00b42a1200a02e1c0900b42b2e1c0900b42a2100a22f00b42b1c2900a22f00b42a1c
theorem bX4_hasShapeOf : Bts cX4_hasShapeOf nX4_hasShapeOf 111 := by unfold Bts; decide +kernel
theorem dX4_hasShapeOf_0 : decode cX4_hasShapeOf 0 = .ok (.iload_n 2, 1) := dz_28 (b_1 bX4_hasShapeOf (by decide +kernel))
theorem dX4_hasShapeOf_1 : decode cX4_hasShapeOf 1 = .ok (.aload_n 0, 1) := dz_42 (b_1 bX4_hasShapeOf (by decide +kernel))
theorem dX4_hasShapeOf_2 : decode cX4_hasShapeOf 2 = .ok (.getfield 47, 3) := dz_180 (b_3 (a := 0) (b := 47) bX4_hasShapeOf (by decide +kernel))
theorem dX4_hasShapeOf_5 : decode cX4_hasShapeOf 5 = .ok (.if_icmp .ge 41, 3) := dz_162 (b_3 (a := 0) (b := 41) bX4_hasShapeOf (by decide +kernel)) (by decide +kernel)
theorem dX4_hasShapeOf_8 : decode cX4_hasShapeOf 8 = .ok (.iload_n 2, 1) := dz_28 (b_1 bX4_hasShapeOf (by decide +kernel))
theorem dX4_hasShapeOf_9 : decode cX4_hasShapeOf 9 = .ok (.aload_n 1, 1) := dz_43 (b_1 bX4_hasShapeOf (by decide +kernel))
theorem dX4_hasShapeOf_10 : decode cX4_hasShapeOf 10 = .ok (.getfield 47, 3) := dz_180 (b_3 (a := 0) (b := 47) bX4_hasShapeOf (by decide +kernel))
theorem dX4_hasShapeOf_13 : decode cX4_hasShapeOf 13 = .ok (.if_icmp .ge 33, 3) := dz_162 (b_3 (a := 0) (b := 33) bX4_hasShapeOf (by decide +kernel)) (by decide +kernel)
theorem dX4_hasShapeOf_16 : decode cX4_hasShapeOf 16 = .ok (.aload_n 0, 1) := dz_42 (b_1 bX4_hasShapeOf (by decide +kernel))
theorem dX4_hasShapeOf_17 : decode cX4_hasShapeOf 17 = .ok (.getfield 9, 3) := dz_180 (b_3 (a := 0) (b := 9) bX4_hasShapeOf (by decide +kernel))
theorem dX4_hasShapeOf_20 : decode cX4_hasShapeOf 20 = .ok (.iload_n 2, 1) := dz_28 (b_1 bX4_hasShapeOf (by decide +kernel))
theorem dX4_hasShapeOf_21 : decode cX4_hasShapeOf 21 = .ok (.iaload, 1) := dz_46 (b_1 bX4_hasShapeOf (by decide +kernel))
theorem dX4_hasShapeOf_22 : decode cX4_hasShapeOf 22 = .ok (.aload_n 1, 1) := dz_43 (b_1 bX4_hasShapeOf (by decide +kernel))
theorem dX4_hasShapeOf_23 : decode cX4_hasShapeOf 23 = .ok (.getfield 9, 3) := dz_180 (b_3 (a := 0) (b := 9) bX4_hasShapeOf (by decide +kernel))
theorem dX4_hasShapeOf_26 : decode cX4_hasShapeOf 26 = .ok (.iload_n 2, 1) := dz_28 (b_1 bX4_hasShapeOf (by decide +kernel))
theorem dX4_hasShapeOf_27 : decode cX4_hasShapeOf 27 = .ok (.iaload, 1) := dz_46 (b_1 bX4_hasShapeOf (by decide +kernel))
theorem dX4_hasShapeOf_28 : decode cX4_hasShapeOf 28 = .ok (.if_icmp .ne 18, 3) := dz_160 (b_3 (a := 0) (b := 18) bX4_hasShapeOf (by decide +kernel)) (by decide +kernel)
theorem dX4_hasShapeOf_31 : decode cX4_hasShapeOf 31 = .ok (.aload_n 0, 1) := dz_42 (b_1 bX4_hasShapeOf (by decide +kernel))
theorem dX4_hasShapeOf_32 : decode cX4_hasShapeOf 32 = .ok (.getfield 15, 3) := dz_180 (b_3 (a := 0) (b := 15) bX4_hasShapeOf (by decide +kernel))
theorem dX4_hasShapeOf_35 : decode cX4_hasShapeOf 35 = .ok (.iload_n 2, 1) := dz_28 (b_1 bX4_hasShapeOf (by decide +kernel))
theorem dX4_hasShapeOf_36 : decode cX4_hasShapeOf 36 = .ok (.iaload, 1) := dz_46 (b_1 bX4_hasShapeOf (by decide +kernel))
theorem dX4_hasShapeOf_37 : decode cX4_hasShapeOf 37 = .ok (.aload_n 1, 1) := dz_43 (b_1 bX4_hasShapeOf (by decide +kernel))
theorem dX4_hasShapeOf_38 : decode cX4_hasShapeOf 38 = .ok (.getfield 15, 3) := dz_180 (b_3 (a := 0) (b := 15) bX4_hasShapeOf (by decide +kernel))
theorem dX4_hasShapeOf_41 : decode cX4_hasShapeOf 41 = .ok (.iload_n 2, 1) := dz_28 (b_1 bX4_hasShapeOf (by decide +kernel))
theorem dX4_hasShapeOf_42 : decode cX4_hasShapeOf 42 = .ok (.iaload, 1) := dz_46 (b_1 bX4_hasShapeOf (by decide +kernel))
theorem dX4_hasShapeOf_43 : decode cX4_hasShapeOf 43 = .ok (.if_icmp .eq 5, 3) := dz_159 (b_3 (a := 0) (b := 5) bX4_hasShapeOf (by decide +kernel)) (by decide +kernel)
theorem dX4_hasShapeOf_46 : decode cX4_hasShapeOf 46 = .ok (.iconst 0, 1) := dz_3 (b_1 bX4_hasShapeOf (by decide +kernel))
theorem dX4_hasShapeOf_47 : decode cX4_hasShapeOf 47 = .ok (.ireturn, 1) := dz_172 (b_1 bX4_hasShapeOf (by decide +kernel))
theorem dX4_hasShapeOf_48 : decode cX4_hasShapeOf 48 = .ok (.iconst 0, 1) := dz_3 (b_1 bX4_hasShapeOf (by decide +kernel))
theorem dX4_hasShapeOf_49 : decode cX4_hasShapeOf 49 = .ok (.istore_n 3, 1) := dz_62 (b_1 bX4_hasShapeOf (by decide +kernel))
theorem dX4_hasShapeOf_50 : decode cX4_hasShapeOf 50 = .ok (.iload_n 3, 1) := dz_29 (b_1 bX4_hasShapeOf (by decide +kernel))
theorem dX4_hasShapeOf_51 : decode cX4_hasShapeOf 51 = .ok (.aload_n 0, 1) := dz_42 (b_1 bX4_hasShapeOf (by decide +kernel))
theorem dX4_hasShapeOf_52 : decode cX4_hasShapeOf 52 = .ok (.getfield 15, 3) := dz_180 (b_3 (a := 0) (b := 15) bX4_hasShapeOf (by decide +kernel))
theorem dX4_hasShapeOf_55 : decode cX4_hasShapeOf 55 = .ok (.iload_n 2, 1) := dz_28 (b_1 bX4_hasShapeOf (by decide +kernel))
theorem dX4_hasShapeOf_56 : decode cX4_hasShapeOf 56 = .ok (.iaload, 1) := dz_46 (b_1 bX4_hasShapeOf (by decide +kernel))
theorem dX4_hasShapeOf_57 : decode cX4_hasShapeOf 57 = .ok (.if_icmp .ge 52, 3) := dz_162 (b_3 (a := 0) (b := 52) bX4_hasShapeOf (by decide +kernel)) (by decide +kernel)
theorem dX4_hasShapeOf_60 : decode cX4_hasShapeOf 60 = .ok (.iload_n 2, 1) := dz_28 (b_1 bX4_hasShapeOf (by decide +kernel))
theorem dX4_hasShapeOf_61 : decode cX4_hasShapeOf 61 = .ok (.iconst 5, 1) := dz_8 (b_1 bX4_hasShapeOf (by decide +kernel))
theorem dX4_hasShapeOf_62 : decode cX4_hasShapeOf 62 = .ok (.imul, 1) := dz_104 (b_1 bX4_hasShapeOf (by decide +kernel))
theorem dX4_hasShapeOf_63 : decode cX4_hasShapeOf 63 = .ok (.iload_n 3, 1) := dz_29 (b_1 bX4_hasShapeOf (by decide +kernel))
theorem dX4_hasShapeOf_64 : decode cX4_hasShapeOf 64 = .ok (.iadd, 1) := dz_96 (b_1 bX4_hasShapeOf (by decide +kernel))
theorem dX4_hasShapeOf_65 : decode cX4_hasShapeOf 65 = .ok (.istore 4, 2) := dz_54 (b_2 (a := 4) bX4_hasShapeOf (by decide +kernel))
theorem dX4_hasShapeOf_67 : decode cX4_hasShapeOf 67 = .ok (.aload_n 0, 1) := dz_42 (b_1 bX4_hasShapeOf (by decide +kernel))
theorem dX4_hasShapeOf_68 : decode cX4_hasShapeOf 68 = .ok (.getfield 18, 3) := dz_180 (b_3 (a := 0) (b := 18) bX4_hasShapeOf (by decide +kernel))
theorem dX4_hasShapeOf_71 : decode cX4_hasShapeOf 71 = .ok (.iload 4, 2) := dz_21 (b_2 (a := 4) bX4_hasShapeOf (by decide +kernel))
theorem dX4_hasShapeOf_73 : decode cX4_hasShapeOf 73 = .ok (.iaload, 1) := dz_46 (b_1 bX4_hasShapeOf (by decide +kernel))
theorem dX4_hasShapeOf_74 : decode cX4_hasShapeOf 74 = .ok (.aload_n 1, 1) := dz_43 (b_1 bX4_hasShapeOf (by decide +kernel))
theorem dX4_hasShapeOf_75 : decode cX4_hasShapeOf 75 = .ok (.getfield 18, 3) := dz_180 (b_3 (a := 0) (b := 18) bX4_hasShapeOf (by decide +kernel))
theorem dX4_hasShapeOf_78 : decode cX4_hasShapeOf 78 = .ok (.iload 4, 2) := dz_21 (b_2 (a := 4) bX4_hasShapeOf (by decide +kernel))
theorem dX4_hasShapeOf_80 : decode cX4_hasShapeOf 80 = .ok (.iaload, 1) := dz_46 (b_1 bX4_hasShapeOf (by decide +kernel))
theorem dX4_hasShapeOf_81 : decode cX4_hasShapeOf 81 = .ok (.if_icmp .ne 20, 3) := dz_160 (b_3 (a := 0) (b := 20) bX4_hasShapeOf (by decide +kernel)) (by decide +kernel)
theorem dX4_hasShapeOf_84 : decode cX4_hasShapeOf 84 = .ok (.aload_n 0, 1) := dz_42 (b_1 bX4_hasShapeOf (by decide +kernel))
theorem dX4_hasShapeOf_85 : decode cX4_hasShapeOf 85 = .ok (.getfield 21, 3) := dz_180 (b_3 (a := 0) (b := 21) bX4_hasShapeOf (by decide +kernel))
theorem dX4_hasShapeOf_88 : decode cX4_hasShapeOf 88 = .ok (.iload 4, 2) := dz_21 (b_2 (a := 4) bX4_hasShapeOf (by decide +kernel))
theorem dX4_hasShapeOf_90 : decode cX4_hasShapeOf 90 = .ok (.iaload, 1) := dz_46 (b_1 bX4_hasShapeOf (by decide +kernel))
theorem dX4_hasShapeOf_91 : decode cX4_hasShapeOf 91 = .ok (.aload_n 1, 1) := dz_43 (b_1 bX4_hasShapeOf (by decide +kernel))
theorem dX4_hasShapeOf_92 : decode cX4_hasShapeOf 92 = .ok (.getfield 21, 3) := dz_180 (b_3 (a := 0) (b := 21) bX4_hasShapeOf (by decide +kernel))
theorem dX4_hasShapeOf_95 : decode cX4_hasShapeOf 95 = .ok (.iload 4, 2) := dz_21 (b_2 (a := 4) bX4_hasShapeOf (by decide +kernel))
theorem dX4_hasShapeOf_97 : decode cX4_hasShapeOf 97 = .ok (.iaload, 1) := dz_46 (b_1 bX4_hasShapeOf (by decide +kernel))
theorem dX4_hasShapeOf_98 : decode cX4_hasShapeOf 98 = .ok (.if_icmp .eq 5, 3) := dz_159 (b_3 (a := 0) (b := 5) bX4_hasShapeOf (by decide +kernel)) (by decide +kernel)
theorem dX4_hasShapeOf_101 : decode cX4_hasShapeOf 101 = .ok (.iconst 0, 1) := dz_3 (b_1 bX4_hasShapeOf (by decide +kernel))
theorem dX4_hasShapeOf_102 : decode cX4_hasShapeOf 102 = .ok (.ireturn, 1) := dz_172 (b_1 bX4_hasShapeOf (by decide +kernel))
theorem dX4_hasShapeOf_103 : decode cX4_hasShapeOf 103 = .ok (.iinc 3 1, 3) := dz_132 (b_3 (a := 3) (b := 1) bX4_hasShapeOf (by decide +kernel)) (by decide +kernel)
theorem dX4_hasShapeOf_106 : decode cX4_hasShapeOf 106 = .ok (.goto (-56), 3) := dz_167 (b_3 (a := 255) (b := 200) bX4_hasShapeOf (by decide +kernel)) (by decide +kernel)
theorem dX4_hasShapeOf_109 : decode cX4_hasShapeOf 109 = .ok (.iconst 1, 1) := dz_4 (b_1 bX4_hasShapeOf (by decide +kernel))
theorem dX4_hasShapeOf_110 : decode cX4_hasShapeOf 110 = .ok (.ireturn, 1) := dz_172 (b_1 bX4_hasShapeOf (by decide +kernel))
theorem gb_X8_isRowLane : wsX8_isRowLane.all goodWord = true := by decide +kernel
theorem gj_X4_hasValueOf_0 : GpS ([.fieldLink RX4 24 "StateRecords$Records" "values" "[J", .fieldLink RX4 21 "StateRecords$Records" "lanes" "[I", .constantLong RX4 54 (-1), .static yX8_isRowLane, .initialized RX8, .code yX8_isRowLane cX8_isRowLane 1 (some .boolean), .methodLink RX4 56 yX4_hasItemsOf, .instanceMethod yX4_hasItemsOf, .selects RX4 yX4_hasItemsOf yX4_hasItemsOf, .initialized RX4, .code yX4_hasItemsOf cX4_hasItemsOf 4 (some .boolean), .fieldLink RX4 28 "StateRecords$Records" "rowLengths" "[I", .fieldLink RX4 31 "StateRecords$Records" "items" "[J"]) wsX4_hasValueOf := fun w h => List.mem_cons_of_mem _ (List.mem_append_left _ (h))
set_option maxRecDepth 20000 in
theorem ggX4_hasValueOf_X8_isRowLane : GoodIn wsX4_hasValueOf wsX8_isRowLane := gp_s (gp_c (gj_X4_hasValueOf_0 _ (gp_4 (gp_1 gp_h))) (gp_n)) gb_X8_isRowLane
set_option maxRecDepth 20000 in
theorem gX4_hasValueOf_X8_isRowLane_n50 : GoodIn wsX4_hasValueOf (wsX8_isRowLane) := ggX4_hasValueOf_X8_isRowLane
theorem gb_X4_hasItemsOf : wsX4_hasItemsOf.all goodWord = true := by decide +kernel
theorem gj_X4_hasValueOf_1 : GpS (wsX40) wsX4_hasValueOf := fun w h => List.mem_cons_of_mem _ (List.mem_append_right _ (h))
set_option maxRecDepth 20000 in
theorem ggX4_hasValueOf_X4_hasItemsOf : GoodIn wsX4_hasValueOf wsX4_hasItemsOf := gp_s (gp_c (gj_X4_hasValueOf_0 _ (gp_4 (gp_4 (gp_1 (gp_1 gp_h))))) (gp_a (gp_c (gj_X4_hasValueOf_0 _ (gp_4 (gp_4 (gp_1 (gp_1 (gp_1 gp_h)))))) (gp_c (gj_X4_hasValueOf_0 _ (gp_4 (gp_4 (gp_4 gp_h)))) (gp_n))) (gj_X4_hasValueOf_1))) gb_X4_hasItemsOf
set_option maxRecDepth 20000 in
theorem gX4_hasValueOf_X4_hasItemsOf : GoodIn wsX4_hasValueOf (wsV RX4 56 RX4 yX4_hasItemsOf wsX4_hasItemsOf) := goodIn_app (gp_s (gp_c (gj_X4_hasValueOf_0 _ (gp_4 (gp_1 (gp_1 gp_h)))) (gp_c (gj_X4_hasValueOf_0 _ (gp_4 (gp_1 (gp_1 (gp_1 gp_h))))) (gp_c (gj_X4_hasValueOf_0 _ (gp_4 (gp_4 gp_h))) (gp_c (gj_X4_hasValueOf_0 _ (gp_4 (gp_4 (gp_1 gp_h)))) (gp_n))))) (gp_v)) ggX4_hasValueOf_X4_hasItemsOf
noncomputable def nX4_hasValueOf : Nat := 0xac030400a7040700993800b688212b2a0d009994360014211500993200b82e1c1500b42aac03050099942f1c1800b42b21422f1c1800b42a
theorem bX4_hasValueOf : Bts cX4_hasValueOf nX4_hasValueOf 56 := by unfold Bts; decide +kernel
theorem dX4_hasValueOf_0 : decode cX4_hasValueOf 0 = .ok (.aload_n 0, 1) := dz_42 (b_1 bX4_hasValueOf (by decide +kernel))
theorem dX4_hasValueOf_1 : decode cX4_hasValueOf 1 = .ok (.getfield 24, 3) := dz_180 (b_3 (a := 0) (b := 24) bX4_hasValueOf (by decide +kernel))
theorem dX4_hasValueOf_4 : decode cX4_hasValueOf 4 = .ok (.iload_n 2, 1) := dz_28 (b_1 bX4_hasValueOf (by decide +kernel))
theorem dX4_hasValueOf_5 : decode cX4_hasValueOf 5 = .ok (.laload, 1) := dz_47 (b_1 bX4_hasValueOf (by decide +kernel))
theorem dX4_hasValueOf_6 : decode cX4_hasValueOf 6 = .ok (.lstore_n 3, 1) := dz_66 (b_1 bX4_hasValueOf (by decide +kernel))
theorem dX4_hasValueOf_7 : decode cX4_hasValueOf 7 = .ok (.lload_n 3, 1) := dz_33 (b_1 bX4_hasValueOf (by decide +kernel))
theorem dX4_hasValueOf_8 : decode cX4_hasValueOf 8 = .ok (.aload_n 1, 1) := dz_43 (b_1 bX4_hasValueOf (by decide +kernel))
theorem dX4_hasValueOf_9 : decode cX4_hasValueOf 9 = .ok (.getfield 24, 3) := dz_180 (b_3 (a := 0) (b := 24) bX4_hasValueOf (by decide +kernel))
theorem dX4_hasValueOf_12 : decode cX4_hasValueOf 12 = .ok (.iload_n 2, 1) := dz_28 (b_1 bX4_hasValueOf (by decide +kernel))
theorem dX4_hasValueOf_13 : decode cX4_hasValueOf 13 = .ok (.laload, 1) := dz_47 (b_1 bX4_hasValueOf (by decide +kernel))
theorem dX4_hasValueOf_14 : decode cX4_hasValueOf 14 = .ok (.lcmp, 1) := dz_148 (b_1 bX4_hasValueOf (by decide +kernel))
theorem dX4_hasValueOf_15 : decode cX4_hasValueOf 15 = .ok (.ifCond .eq 5, 3) := dz_153 (b_3 (a := 0) (b := 5) bX4_hasValueOf (by decide +kernel)) (by decide +kernel)
theorem dX4_hasValueOf_18 : decode cX4_hasValueOf 18 = .ok (.iconst 0, 1) := dz_3 (b_1 bX4_hasValueOf (by decide +kernel))
theorem dX4_hasValueOf_19 : decode cX4_hasValueOf 19 = .ok (.ireturn, 1) := dz_172 (b_1 bX4_hasValueOf (by decide +kernel))
theorem dX4_hasValueOf_20 : decode cX4_hasValueOf 20 = .ok (.aload_n 0, 1) := dz_42 (b_1 bX4_hasValueOf (by decide +kernel))
theorem dX4_hasValueOf_21 : decode cX4_hasValueOf 21 = .ok (.getfield 21, 3) := dz_180 (b_3 (a := 0) (b := 21) bX4_hasValueOf (by decide +kernel))
theorem dX4_hasValueOf_24 : decode cX4_hasValueOf 24 = .ok (.iload_n 2, 1) := dz_28 (b_1 bX4_hasValueOf (by decide +kernel))
theorem dX4_hasValueOf_25 : decode cX4_hasValueOf 25 = .ok (.iaload, 1) := dz_46 (b_1 bX4_hasValueOf (by decide +kernel))
theorem dX4_hasValueOf_26 : decode cX4_hasValueOf 26 = .ok (.invokestatic 50, 3) := dz_184 (b_3 (a := 0) (b := 50) bX4_hasValueOf (by decide +kernel))
theorem dX4_hasValueOf_29 : decode cX4_hasValueOf 29 = .ok (.ifCond .eq 21, 3) := dz_153 (b_3 (a := 0) (b := 21) bX4_hasValueOf (by decide +kernel)) (by decide +kernel)
theorem dX4_hasValueOf_32 : decode cX4_hasValueOf 32 = .ok (.lload_n 3, 1) := dz_33 (b_1 bX4_hasValueOf (by decide +kernel))
theorem dX4_hasValueOf_33 : decode cX4_hasValueOf 33 = .ok (.ldc2_w 54, 3) := dz_20 (b_3 (a := 0) (b := 54) bX4_hasValueOf (by decide +kernel))
theorem dX4_hasValueOf_36 : decode cX4_hasValueOf 36 = .ok (.lcmp, 1) := dz_148 (b_1 bX4_hasValueOf (by decide +kernel))
theorem dX4_hasValueOf_37 : decode cX4_hasValueOf 37 = .ok (.ifCond .eq 13, 3) := dz_153 (b_3 (a := 0) (b := 13) bX4_hasValueOf (by decide +kernel)) (by decide +kernel)
theorem dX4_hasValueOf_40 : decode cX4_hasValueOf 40 = .ok (.aload_n 0, 1) := dz_42 (b_1 bX4_hasValueOf (by decide +kernel))
theorem dX4_hasValueOf_41 : decode cX4_hasValueOf 41 = .ok (.aload_n 1, 1) := dz_43 (b_1 bX4_hasValueOf (by decide +kernel))
theorem dX4_hasValueOf_42 : decode cX4_hasValueOf 42 = .ok (.lload_n 3, 1) := dz_33 (b_1 bX4_hasValueOf (by decide +kernel))
theorem dX4_hasValueOf_43 : decode cX4_hasValueOf 43 = .ok (.l2i, 1) := dz_136 (b_1 bX4_hasValueOf (by decide +kernel))
theorem dX4_hasValueOf_44 : decode cX4_hasValueOf 44 = .ok (.invokevirtual 56, 3) := dz_182 (b_3 (a := 0) (b := 56) bX4_hasValueOf (by decide +kernel))
theorem dX4_hasValueOf_47 : decode cX4_hasValueOf 47 = .ok (.ifCond .eq 7, 3) := dz_153 (b_3 (a := 0) (b := 7) bX4_hasValueOf (by decide +kernel)) (by decide +kernel)
theorem dX4_hasValueOf_50 : decode cX4_hasValueOf 50 = .ok (.iconst 1, 1) := dz_4 (b_1 bX4_hasValueOf (by decide +kernel))
theorem dX4_hasValueOf_51 : decode cX4_hasValueOf 51 = .ok (.goto 4, 3) := dz_167 (b_3 (a := 0) (b := 4) bX4_hasValueOf (by decide +kernel)) (by decide +kernel)
theorem dX4_hasValueOf_54 : decode cX4_hasValueOf 54 = .ok (.iconst 0, 1) := dz_3 (b_1 bX4_hasValueOf (by decide +kernel))
theorem dX4_hasValueOf_55 : decode cX4_hasValueOf 55 = .ok (.ireturn, 1) := dz_172 (b_1 bX4_hasValueOf (by decide +kernel))
noncomputable def nX4_hasItemsOf : Nat := 0xac04d7ffa7010384ac03050099942f601d680c101c1f00b42b2f601d680c101c1f00b42a2500a22e1c1c00b42a1d3e03ac0305009f2e1c1c00b42b2e1c1c00b42a
theorem bX4_hasItemsOf : Bts cX4_hasItemsOf nX4_hasItemsOf 65 := by unfold Bts; decide +kernel
theorem dX4_hasItemsOf_0 : decode cX4_hasItemsOf 0 = .ok (.aload_n 0, 1) := dz_42 (b_1 bX4_hasItemsOf (by decide +kernel))
theorem dX4_hasItemsOf_1 : decode cX4_hasItemsOf 1 = .ok (.getfield 28, 3) := dz_180 (b_3 (a := 0) (b := 28) bX4_hasItemsOf (by decide +kernel))
theorem dX4_hasItemsOf_4 : decode cX4_hasItemsOf 4 = .ok (.iload_n 2, 1) := dz_28 (b_1 bX4_hasItemsOf (by decide +kernel))
theorem dX4_hasItemsOf_5 : decode cX4_hasItemsOf 5 = .ok (.iaload, 1) := dz_46 (b_1 bX4_hasItemsOf (by decide +kernel))
theorem dX4_hasItemsOf_6 : decode cX4_hasItemsOf 6 = .ok (.aload_n 1, 1) := dz_43 (b_1 bX4_hasItemsOf (by decide +kernel))
theorem dX4_hasItemsOf_7 : decode cX4_hasItemsOf 7 = .ok (.getfield 28, 3) := dz_180 (b_3 (a := 0) (b := 28) bX4_hasItemsOf (by decide +kernel))
theorem dX4_hasItemsOf_10 : decode cX4_hasItemsOf 10 = .ok (.iload_n 2, 1) := dz_28 (b_1 bX4_hasItemsOf (by decide +kernel))
theorem dX4_hasItemsOf_11 : decode cX4_hasItemsOf 11 = .ok (.iaload, 1) := dz_46 (b_1 bX4_hasItemsOf (by decide +kernel))
theorem dX4_hasItemsOf_12 : decode cX4_hasItemsOf 12 = .ok (.if_icmp .eq 5, 3) := dz_159 (b_3 (a := 0) (b := 5) bX4_hasItemsOf (by decide +kernel)) (by decide +kernel)
theorem dX4_hasItemsOf_15 : decode cX4_hasItemsOf 15 = .ok (.iconst 0, 1) := dz_3 (b_1 bX4_hasItemsOf (by decide +kernel))
theorem dX4_hasItemsOf_16 : decode cX4_hasItemsOf 16 = .ok (.ireturn, 1) := dz_172 (b_1 bX4_hasItemsOf (by decide +kernel))
theorem dX4_hasItemsOf_17 : decode cX4_hasItemsOf 17 = .ok (.iconst 0, 1) := dz_3 (b_1 bX4_hasItemsOf (by decide +kernel))
theorem dX4_hasItemsOf_18 : decode cX4_hasItemsOf 18 = .ok (.istore_n 3, 1) := dz_62 (b_1 bX4_hasItemsOf (by decide +kernel))
theorem dX4_hasItemsOf_19 : decode cX4_hasItemsOf 19 = .ok (.iload_n 3, 1) := dz_29 (b_1 bX4_hasItemsOf (by decide +kernel))
theorem dX4_hasItemsOf_20 : decode cX4_hasItemsOf 20 = .ok (.aload_n 0, 1) := dz_42 (b_1 bX4_hasItemsOf (by decide +kernel))
theorem dX4_hasItemsOf_21 : decode cX4_hasItemsOf 21 = .ok (.getfield 28, 3) := dz_180 (b_3 (a := 0) (b := 28) bX4_hasItemsOf (by decide +kernel))
theorem dX4_hasItemsOf_24 : decode cX4_hasItemsOf 24 = .ok (.iload_n 2, 1) := dz_28 (b_1 bX4_hasItemsOf (by decide +kernel))
theorem dX4_hasItemsOf_25 : decode cX4_hasItemsOf 25 = .ok (.iaload, 1) := dz_46 (b_1 bX4_hasItemsOf (by decide +kernel))
theorem dX4_hasItemsOf_26 : decode cX4_hasItemsOf 26 = .ok (.if_icmp .ge 37, 3) := dz_162 (b_3 (a := 0) (b := 37) bX4_hasItemsOf (by decide +kernel)) (by decide +kernel)
theorem dX4_hasItemsOf_29 : decode cX4_hasItemsOf 29 = .ok (.aload_n 0, 1) := dz_42 (b_1 bX4_hasItemsOf (by decide +kernel))
theorem dX4_hasItemsOf_30 : decode cX4_hasItemsOf 30 = .ok (.getfield 31, 3) := dz_180 (b_3 (a := 0) (b := 31) bX4_hasItemsOf (by decide +kernel))
theorem dX4_hasItemsOf_33 : decode cX4_hasItemsOf 33 = .ok (.iload_n 2, 1) := dz_28 (b_1 bX4_hasItemsOf (by decide +kernel))
theorem dX4_hasItemsOf_34 : decode cX4_hasItemsOf 34 = .ok (.bipush 12, 2) := dz_16 (b_2 (a := 12) bX4_hasItemsOf (by decide +kernel)) (by decide +kernel)
theorem dX4_hasItemsOf_36 : decode cX4_hasItemsOf 36 = .ok (.imul, 1) := dz_104 (b_1 bX4_hasItemsOf (by decide +kernel))
theorem dX4_hasItemsOf_37 : decode cX4_hasItemsOf 37 = .ok (.iload_n 3, 1) := dz_29 (b_1 bX4_hasItemsOf (by decide +kernel))
theorem dX4_hasItemsOf_38 : decode cX4_hasItemsOf 38 = .ok (.iadd, 1) := dz_96 (b_1 bX4_hasItemsOf (by decide +kernel))
theorem dX4_hasItemsOf_39 : decode cX4_hasItemsOf 39 = .ok (.laload, 1) := dz_47 (b_1 bX4_hasItemsOf (by decide +kernel))
theorem dX4_hasItemsOf_40 : decode cX4_hasItemsOf 40 = .ok (.aload_n 1, 1) := dz_43 (b_1 bX4_hasItemsOf (by decide +kernel))
theorem dX4_hasItemsOf_41 : decode cX4_hasItemsOf 41 = .ok (.getfield 31, 3) := dz_180 (b_3 (a := 0) (b := 31) bX4_hasItemsOf (by decide +kernel))
theorem dX4_hasItemsOf_44 : decode cX4_hasItemsOf 44 = .ok (.iload_n 2, 1) := dz_28 (b_1 bX4_hasItemsOf (by decide +kernel))
theorem dX4_hasItemsOf_45 : decode cX4_hasItemsOf 45 = .ok (.bipush 12, 2) := dz_16 (b_2 (a := 12) bX4_hasItemsOf (by decide +kernel)) (by decide +kernel)
theorem dX4_hasItemsOf_47 : decode cX4_hasItemsOf 47 = .ok (.imul, 1) := dz_104 (b_1 bX4_hasItemsOf (by decide +kernel))
theorem dX4_hasItemsOf_48 : decode cX4_hasItemsOf 48 = .ok (.iload_n 3, 1) := dz_29 (b_1 bX4_hasItemsOf (by decide +kernel))
theorem dX4_hasItemsOf_49 : decode cX4_hasItemsOf 49 = .ok (.iadd, 1) := dz_96 (b_1 bX4_hasItemsOf (by decide +kernel))
theorem dX4_hasItemsOf_50 : decode cX4_hasItemsOf 50 = .ok (.laload, 1) := dz_47 (b_1 bX4_hasItemsOf (by decide +kernel))
theorem dX4_hasItemsOf_51 : decode cX4_hasItemsOf 51 = .ok (.lcmp, 1) := dz_148 (b_1 bX4_hasItemsOf (by decide +kernel))
theorem dX4_hasItemsOf_52 : decode cX4_hasItemsOf 52 = .ok (.ifCond .eq 5, 3) := dz_153 (b_3 (a := 0) (b := 5) bX4_hasItemsOf (by decide +kernel)) (by decide +kernel)
theorem dX4_hasItemsOf_55 : decode cX4_hasItemsOf 55 = .ok (.iconst 0, 1) := dz_3 (b_1 bX4_hasItemsOf (by decide +kernel))
theorem dX4_hasItemsOf_56 : decode cX4_hasItemsOf 56 = .ok (.ireturn, 1) := dz_172 (b_1 bX4_hasItemsOf (by decide +kernel))
theorem dX4_hasItemsOf_57 : decode cX4_hasItemsOf 57 = .ok (.iinc 3 1, 3) := dz_132 (b_3 (a := 3) (b := 1) bX4_hasItemsOf (by decide +kernel)) (by decide +kernel)
theorem dX4_hasItemsOf_60 : decode cX4_hasItemsOf 60 = .ok (.goto (-41), 3) := dz_167 (b_3 (a := 255) (b := 215) bX4_hasItemsOf (by decide +kernel)) (by decide +kernel)
theorem dX4_hasItemsOf_63 : decode cX4_hasItemsOf 63 = .ok (.iconst 1, 1) := dz_4 (b_1 bX4_hasItemsOf (by decide +kernel))
theorem dX4_hasItemsOf_64 : decode cX4_hasItemsOf 64 = .ok (.ireturn, 1) := dz_172 (b_1 bX4_hasItemsOf (by decide +kernel))
noncomputable def nX5_init : Nat := 0xb10700b50bbc1b2a0100b72a
theorem bX5_init : Bts cX5_init nX5_init 12 := by unfold Bts; decide +kernel
theorem dX5_init_0 : decode cX5_init 0 = .ok (.aload_n 0, 1) := dz_42 (b_1 bX5_init (by decide +kernel))
theorem dX5_init_1 : decode cX5_init 1 = .ok (.invokespecial 1, 3) := dz_183 (b_3 (a := 0) (b := 1) bX5_init (by decide +kernel))
theorem dX5_init_4 : decode cX5_init 4 = .ok (.aload_n 0, 1) := dz_42 (b_1 bX5_init (by decide +kernel))
theorem dX5_init_5 : decode cX5_init 5 = .ok (.iload_n 1, 1) := dz_27 (b_1 bX5_init (by decide +kernel))
theorem dX5_init_6 : decode cX5_init 6 = .ok (.newarray .long, 2) := by decide +kernel
theorem dX5_init_8 : decode cX5_init 8 = .ok (.putfield 7, 3) := dz_181 (b_3 (a := 0) (b := 7) bX5_init (by decide +kernel))
theorem dX5_init_11 : decode cX5_init 11 = .ok (.return_, 1) := dz_177 (b_1 bX5_init (by decide +kernel))
noncomputable def nX6_init : Nat := 0xb11100b50f00bd082a0900b50bbc082a0300b72a
theorem bX6_init : Bts cX6_init nX6_init 20 := by unfold Bts; decide +kernel
theorem dX6_init_0 : decode cX6_init 0 = .ok (.aload_n 0, 1) := dz_42 (b_1 bX6_init (by decide +kernel))
theorem dX6_init_1 : decode cX6_init 1 = .ok (.invokespecial 3, 3) := dz_183 (b_3 (a := 0) (b := 3) bX6_init (by decide +kernel))
theorem dX6_init_4 : decode cX6_init 4 = .ok (.aload_n 0, 1) := dz_42 (b_1 bX6_init (by decide +kernel))
theorem dX6_init_5 : decode cX6_init 5 = .ok (.iconst 5, 1) := dz_8 (b_1 bX6_init (by decide +kernel))
theorem dX6_init_6 : decode cX6_init 6 = .ok (.newarray .long, 2) := by decide +kernel
theorem dX6_init_8 : decode cX6_init 8 = .ok (.putfield 9, 3) := dz_181 (b_3 (a := 0) (b := 9) bX6_init (by decide +kernel))
theorem dX6_init_11 : decode cX6_init 11 = .ok (.aload_n 0, 1) := dz_42 (b_1 bX6_init (by decide +kernel))
theorem dX6_init_12 : decode cX6_init 12 = .ok (.iconst 5, 1) := dz_8 (b_1 bX6_init (by decide +kernel))
theorem dX6_init_13 : decode cX6_init 13 = .ok (.anewarray 15, 3) := dz_189 (b_3 (a := 0) (b := 15) bX6_init (by decide +kernel))
theorem dX6_init_16 : decode cX6_init 16 = .ok (.putfield 17, 3) := dz_181 (b_3 (a := 0) (b := 17) bX6_init (by decide +kernel))
theorem dX6_init_19 : decode cX6_init 19 = .ok (.return_, 1) := dz_177 (b_1 bX6_init (by decide +kernel))
theorem gb_X6_setDefault : wsX6_setDefault.all goodWord = true := by decide +kernel
theorem gj_X6_become_0 : GpS ([.fieldLink RX6 21 "StateRecords$Thing" "type" "LStateRecords$Type;", .fieldLink RX6 25 "StateRecords$Type" "fieldCount" "I", .methodLink RX6 31 yX6_setDefault, .instanceMethod yX6_setDefault, .selects RX6 yX6_setDefault yX6_setDefault, .initialized RX6, .code yX6_setDefault cX6_setDefault 2 none, .fieldLink RX6 9 "StateRecords$Thing" "values" "[J", .fieldLink RX6 35 "StateRecords$Type" "defaults" "[J", .fieldLink RX6 17 "StateRecords$Thing" "rows" "[LStateRecords$Row;"]) wsX6_become := fun w h => List.mem_cons_of_mem _ (List.mem_append_left _ (List.mem_append_left _ (h)))
theorem gj_X6_become_1 : GpS (wsX60) wsX6_become := fun w h => List.mem_cons_of_mem _ (List.mem_append_left _ (List.mem_append_right _ (h)))
theorem gj_X6_become_2 : GpS (wsX70) wsX6_become := fun w h => List.mem_cons_of_mem _ (List.mem_append_right _ (h))
set_option maxRecDepth 20000 in
theorem ggX6_become_X6_setDefault : GoodIn wsX6_become wsX6_setDefault := gp_s (gp_c (gj_X6_become_0 _ (gp_4 (gp_1 (gp_1 gp_h)))) (gp_a (gp_a (gp_c (gj_X6_become_0 _ (gp_4 (gp_1 (gp_1 (gp_1 gp_h))))) (gp_c (gj_X6_become_0 _ (gp_h)) (gp_c (gj_X6_become_0 _ (gp_4 (gp_4 gp_h))) (gp_c (gj_X6_become_0 _ (gp_4 (gp_4 (gp_1 gp_h)))) (gp_n))))) (gj_X6_become_1)) (gj_X6_become_2))) gb_X6_setDefault
set_option maxRecDepth 20000 in
theorem gX6_become_X6_setDefault : GoodIn wsX6_become (wsV RX6 31 RX6 yX6_setDefault wsX6_setDefault) := goodIn_app (gp_s (gp_c (gj_X6_become_0 _ (gp_1 (gp_1 gp_h))) (gp_c (gj_X6_become_0 _ (gp_1 (gp_1 (gp_1 gp_h)))) (gp_c (gj_X6_become_0 _ (gp_4 gp_h)) (gp_c (gj_X6_become_0 _ (gp_4 (gp_1 gp_h))) (gp_n))))) (gp_v)) ggX6_become_X6_setDefault
noncomputable def nX6_become : Nat := 0xb1f0ffa70102841f00b61c2a0e00a21900b42b1c3d031500b52b2a
theorem bX6_become : Bts cX6_become nX6_become 27 := by unfold Bts; decide +kernel
theorem dX6_become_0 : decode cX6_become 0 = .ok (.aload_n 0, 1) := dz_42 (b_1 bX6_become (by decide +kernel))
theorem dX6_become_1 : decode cX6_become 1 = .ok (.aload_n 1, 1) := dz_43 (b_1 bX6_become (by decide +kernel))
theorem dX6_become_2 : decode cX6_become 2 = .ok (.putfield 21, 3) := dz_181 (b_3 (a := 0) (b := 21) bX6_become (by decide +kernel))
theorem dX6_become_5 : decode cX6_become 5 = .ok (.iconst 0, 1) := dz_3 (b_1 bX6_become (by decide +kernel))
theorem dX6_become_6 : decode cX6_become 6 = .ok (.istore_n 2, 1) := dz_61 (b_1 bX6_become (by decide +kernel))
theorem dX6_become_7 : decode cX6_become 7 = .ok (.iload_n 2, 1) := dz_28 (b_1 bX6_become (by decide +kernel))
theorem dX6_become_8 : decode cX6_become 8 = .ok (.aload_n 1, 1) := dz_43 (b_1 bX6_become (by decide +kernel))
theorem dX6_become_9 : decode cX6_become 9 = .ok (.getfield 25, 3) := dz_180 (b_3 (a := 0) (b := 25) bX6_become (by decide +kernel))
theorem dX6_become_12 : decode cX6_become 12 = .ok (.if_icmp .ge 14, 3) := dz_162 (b_3 (a := 0) (b := 14) bX6_become (by decide +kernel)) (by decide +kernel)
theorem dX6_become_15 : decode cX6_become 15 = .ok (.aload_n 0, 1) := dz_42 (b_1 bX6_become (by decide +kernel))
theorem dX6_become_16 : decode cX6_become 16 = .ok (.iload_n 2, 1) := dz_28 (b_1 bX6_become (by decide +kernel))
theorem dX6_become_17 : decode cX6_become 17 = .ok (.invokevirtual 31, 3) := dz_182 (b_3 (a := 0) (b := 31) bX6_become (by decide +kernel))
theorem dX6_become_20 : decode cX6_become 20 = .ok (.iinc 2 1, 3) := dz_132 (b_3 (a := 2) (b := 1) bX6_become (by decide +kernel)) (by decide +kernel)
theorem dX6_become_23 : decode cX6_become 23 = .ok (.goto (-16), 3) := dz_167 (b_3 (a := 255) (b := 240) bX6_become (by decide +kernel)) (by decide +kernel)
theorem dX6_become_26 : decode cX6_become 26 = .ok (.return_, 1) := dz_177 (b_1 bX6_become (by decide +kernel))
noncomputable def nX6_setDefault : Nat := 0xb153011b1100b42a502f1b2300b41500b42a1b0900b42a
theorem bX6_setDefault : Bts cX6_setDefault nX6_setDefault 23 := by unfold Bts; decide +kernel
theorem dX6_setDefault_0 : decode cX6_setDefault 0 = .ok (.aload_n 0, 1) := dz_42 (b_1 bX6_setDefault (by decide +kernel))
theorem dX6_setDefault_1 : decode cX6_setDefault 1 = .ok (.getfield 9, 3) := dz_180 (b_3 (a := 0) (b := 9) bX6_setDefault (by decide +kernel))
theorem dX6_setDefault_4 : decode cX6_setDefault 4 = .ok (.iload_n 1, 1) := dz_27 (b_1 bX6_setDefault (by decide +kernel))
theorem dX6_setDefault_5 : decode cX6_setDefault 5 = .ok (.aload_n 0, 1) := dz_42 (b_1 bX6_setDefault (by decide +kernel))
theorem dX6_setDefault_6 : decode cX6_setDefault 6 = .ok (.getfield 21, 3) := dz_180 (b_3 (a := 0) (b := 21) bX6_setDefault (by decide +kernel))
theorem dX6_setDefault_9 : decode cX6_setDefault 9 = .ok (.getfield 35, 3) := dz_180 (b_3 (a := 0) (b := 35) bX6_setDefault (by decide +kernel))
theorem dX6_setDefault_12 : decode cX6_setDefault 12 = .ok (.iload_n 1, 1) := dz_27 (b_1 bX6_setDefault (by decide +kernel))
theorem dX6_setDefault_13 : decode cX6_setDefault 13 = .ok (.laload, 1) := dz_47 (b_1 bX6_setDefault (by decide +kernel))
theorem dX6_setDefault_14 : decode cX6_setDefault 14 = .ok (.lastore, 1) := dz_80 (b_1 bX6_setDefault (by decide +kernel))
theorem dX6_setDefault_15 : decode cX6_setDefault 15 = .ok (.aload_n 0, 1) := dz_42 (b_1 bX6_setDefault (by decide +kernel))
theorem dX6_setDefault_16 : decode cX6_setDefault 16 = .ok (.getfield 17, 3) := dz_180 (b_3 (a := 0) (b := 17) bX6_setDefault (by decide +kernel))
theorem dX6_setDefault_19 : decode cX6_setDefault 19 = .ok (.iload_n 1, 1) := dz_27 (b_1 bX6_setDefault (by decide +kernel))
theorem dX6_setDefault_20 : decode cX6_setDefault 20 = .ok (.aconst_null, 1) := dz_1 (b_1 bX6_setDefault (by decide +kernel))
theorem dX6_setDefault_21 : decode cX6_setDefault 21 = .ok (.aastore, 1) := dz_83 (b_1 bX6_setDefault (by decide +kernel))
theorem dX6_setDefault_22 : decode cX6_setDefault 22 = .ok (.return_, 1) := dz_177 (b_1 bX6_setDefault (by decide +kernel))
noncomputable def nX6_removeField : Nat := 0xb1daffa7010284533260041c1100b42a1c1100b42a502f60041c0900b42a1c0900b42a2500a20860041c3d1b
theorem bX6_removeField : Bts cX6_removeField nX6_removeField 44 := by unfold Bts; decide +kernel
theorem dX6_removeField_0 : decode cX6_removeField 0 = .ok (.iload_n 1, 1) := dz_27 (b_1 bX6_removeField (by decide +kernel))
theorem dX6_removeField_1 : decode cX6_removeField 1 = .ok (.istore_n 2, 1) := dz_61 (b_1 bX6_removeField (by decide +kernel))
theorem dX6_removeField_2 : decode cX6_removeField 2 = .ok (.iload_n 2, 1) := dz_28 (b_1 bX6_removeField (by decide +kernel))
theorem dX6_removeField_3 : decode cX6_removeField 3 = .ok (.iconst 1, 1) := dz_4 (b_1 bX6_removeField (by decide +kernel))
theorem dX6_removeField_4 : decode cX6_removeField 4 = .ok (.iadd, 1) := dz_96 (b_1 bX6_removeField (by decide +kernel))
theorem dX6_removeField_5 : decode cX6_removeField 5 = .ok (.iconst 5, 1) := dz_8 (b_1 bX6_removeField (by decide +kernel))
theorem dX6_removeField_6 : decode cX6_removeField 6 = .ok (.if_icmp .ge 37, 3) := dz_162 (b_3 (a := 0) (b := 37) bX6_removeField (by decide +kernel)) (by decide +kernel)
theorem dX6_removeField_9 : decode cX6_removeField 9 = .ok (.aload_n 0, 1) := dz_42 (b_1 bX6_removeField (by decide +kernel))
theorem dX6_removeField_10 : decode cX6_removeField 10 = .ok (.getfield 9, 3) := dz_180 (b_3 (a := 0) (b := 9) bX6_removeField (by decide +kernel))
theorem dX6_removeField_13 : decode cX6_removeField 13 = .ok (.iload_n 2, 1) := dz_28 (b_1 bX6_removeField (by decide +kernel))
theorem dX6_removeField_14 : decode cX6_removeField 14 = .ok (.aload_n 0, 1) := dz_42 (b_1 bX6_removeField (by decide +kernel))
theorem dX6_removeField_15 : decode cX6_removeField 15 = .ok (.getfield 9, 3) := dz_180 (b_3 (a := 0) (b := 9) bX6_removeField (by decide +kernel))
theorem dX6_removeField_18 : decode cX6_removeField 18 = .ok (.iload_n 2, 1) := dz_28 (b_1 bX6_removeField (by decide +kernel))
theorem dX6_removeField_19 : decode cX6_removeField 19 = .ok (.iconst 1, 1) := dz_4 (b_1 bX6_removeField (by decide +kernel))
theorem dX6_removeField_20 : decode cX6_removeField 20 = .ok (.iadd, 1) := dz_96 (b_1 bX6_removeField (by decide +kernel))
theorem dX6_removeField_21 : decode cX6_removeField 21 = .ok (.laload, 1) := dz_47 (b_1 bX6_removeField (by decide +kernel))
theorem dX6_removeField_22 : decode cX6_removeField 22 = .ok (.lastore, 1) := dz_80 (b_1 bX6_removeField (by decide +kernel))
theorem dX6_removeField_23 : decode cX6_removeField 23 = .ok (.aload_n 0, 1) := dz_42 (b_1 bX6_removeField (by decide +kernel))
theorem dX6_removeField_24 : decode cX6_removeField 24 = .ok (.getfield 17, 3) := dz_180 (b_3 (a := 0) (b := 17) bX6_removeField (by decide +kernel))
theorem dX6_removeField_27 : decode cX6_removeField 27 = .ok (.iload_n 2, 1) := dz_28 (b_1 bX6_removeField (by decide +kernel))
theorem dX6_removeField_28 : decode cX6_removeField 28 = .ok (.aload_n 0, 1) := dz_42 (b_1 bX6_removeField (by decide +kernel))
theorem dX6_removeField_29 : decode cX6_removeField 29 = .ok (.getfield 17, 3) := dz_180 (b_3 (a := 0) (b := 17) bX6_removeField (by decide +kernel))
theorem dX6_removeField_32 : decode cX6_removeField 32 = .ok (.iload_n 2, 1) := dz_28 (b_1 bX6_removeField (by decide +kernel))
theorem dX6_removeField_33 : decode cX6_removeField 33 = .ok (.iconst 1, 1) := dz_4 (b_1 bX6_removeField (by decide +kernel))
theorem dX6_removeField_34 : decode cX6_removeField 34 = .ok (.iadd, 1) := dz_96 (b_1 bX6_removeField (by decide +kernel))
theorem dX6_removeField_35 : decode cX6_removeField 35 = .ok (.aaload, 1) := dz_50 (b_1 bX6_removeField (by decide +kernel))
theorem dX6_removeField_36 : decode cX6_removeField 36 = .ok (.aastore, 1) := dz_83 (b_1 bX6_removeField (by decide +kernel))
theorem dX6_removeField_37 : decode cX6_removeField 37 = .ok (.iinc 2 1, 3) := dz_132 (b_3 (a := 2) (b := 1) bX6_removeField (by decide +kernel)) (by decide +kernel)
theorem dX6_removeField_40 : decode cX6_removeField 40 = .ok (.goto (-38), 3) := dz_167 (b_3 (a := 255) (b := 218) bX6_removeField (by decide +kernel)) (by decide +kernel)
theorem dX6_removeField_43 : decode cX6_removeField 43 = .ok (.return_, 1) := dz_177 (b_1 bX6_removeField (by decide +kernel))
noncomputable def nX6_forgetNumbers : Nat := 0xb1dfffa70101842900b502321b1100b42a0d00c6321b1100b42a1c00a21900b41500b42a1b3c032600b5022a
theorem bX6_forgetNumbers : Bts cX6_forgetNumbers nX6_forgetNumbers 44 := by unfold Bts; decide +kernel
theorem dX6_forgetNumbers_0 : decode cX6_forgetNumbers 0 = .ok (.aload_n 0, 1) := dz_42 (b_1 bX6_forgetNumbers (by decide +kernel))
theorem dX6_forgetNumbers_1 : decode cX6_forgetNumbers 1 = .ok (.iconst (-1), 1) := dz_2 (b_1 bX6_forgetNumbers (by decide +kernel))
theorem dX6_forgetNumbers_2 : decode cX6_forgetNumbers 2 = .ok (.putfield 38, 3) := dz_181 (b_3 (a := 0) (b := 38) bX6_forgetNumbers (by decide +kernel))
theorem dX6_forgetNumbers_5 : decode cX6_forgetNumbers 5 = .ok (.iconst 0, 1) := dz_3 (b_1 bX6_forgetNumbers (by decide +kernel))
theorem dX6_forgetNumbers_6 : decode cX6_forgetNumbers 6 = .ok (.istore_n 1, 1) := dz_60 (b_1 bX6_forgetNumbers (by decide +kernel))
theorem dX6_forgetNumbers_7 : decode cX6_forgetNumbers 7 = .ok (.iload_n 1, 1) := dz_27 (b_1 bX6_forgetNumbers (by decide +kernel))
theorem dX6_forgetNumbers_8 : decode cX6_forgetNumbers 8 = .ok (.aload_n 0, 1) := dz_42 (b_1 bX6_forgetNumbers (by decide +kernel))
theorem dX6_forgetNumbers_9 : decode cX6_forgetNumbers 9 = .ok (.getfield 21, 3) := dz_180 (b_3 (a := 0) (b := 21) bX6_forgetNumbers (by decide +kernel))
theorem dX6_forgetNumbers_12 : decode cX6_forgetNumbers 12 = .ok (.getfield 25, 3) := dz_180 (b_3 (a := 0) (b := 25) bX6_forgetNumbers (by decide +kernel))
theorem dX6_forgetNumbers_15 : decode cX6_forgetNumbers 15 = .ok (.if_icmp .ge 28, 3) := dz_162 (b_3 (a := 0) (b := 28) bX6_forgetNumbers (by decide +kernel)) (by decide +kernel)
theorem dX6_forgetNumbers_18 : decode cX6_forgetNumbers 18 = .ok (.aload_n 0, 1) := dz_42 (b_1 bX6_forgetNumbers (by decide +kernel))
theorem dX6_forgetNumbers_19 : decode cX6_forgetNumbers 19 = .ok (.getfield 17, 3) := dz_180 (b_3 (a := 0) (b := 17) bX6_forgetNumbers (by decide +kernel))
theorem dX6_forgetNumbers_22 : decode cX6_forgetNumbers 22 = .ok (.iload_n 1, 1) := dz_27 (b_1 bX6_forgetNumbers (by decide +kernel))
theorem dX6_forgetNumbers_23 : decode cX6_forgetNumbers 23 = .ok (.aaload, 1) := dz_50 (b_1 bX6_forgetNumbers (by decide +kernel))
theorem dX6_forgetNumbers_24 : decode cX6_forgetNumbers 24 = .ok (.ifnull 13, 3) := dz_198 (b_3 (a := 0) (b := 13) bX6_forgetNumbers (by decide +kernel)) (by decide +kernel)
theorem dX6_forgetNumbers_27 : decode cX6_forgetNumbers 27 = .ok (.aload_n 0, 1) := dz_42 (b_1 bX6_forgetNumbers (by decide +kernel))
theorem dX6_forgetNumbers_28 : decode cX6_forgetNumbers 28 = .ok (.getfield 17, 3) := dz_180 (b_3 (a := 0) (b := 17) bX6_forgetNumbers (by decide +kernel))
theorem dX6_forgetNumbers_31 : decode cX6_forgetNumbers 31 = .ok (.iload_n 1, 1) := dz_27 (b_1 bX6_forgetNumbers (by decide +kernel))
theorem dX6_forgetNumbers_32 : decode cX6_forgetNumbers 32 = .ok (.aaload, 1) := dz_50 (b_1 bX6_forgetNumbers (by decide +kernel))
theorem dX6_forgetNumbers_33 : decode cX6_forgetNumbers 33 = .ok (.iconst (-1), 1) := dz_2 (b_1 bX6_forgetNumbers (by decide +kernel))
theorem dX6_forgetNumbers_34 : decode cX6_forgetNumbers 34 = .ok (.putfield 41, 3) := dz_181 (b_3 (a := 0) (b := 41) bX6_forgetNumbers (by decide +kernel))
theorem dX6_forgetNumbers_37 : decode cX6_forgetNumbers 37 = .ok (.iinc 1 1, 3) := dz_132 (b_3 (a := 1) (b := 1) bX6_forgetNumbers (by decide +kernel)) (by decide +kernel)
theorem dX6_forgetNumbers_40 : decode cX6_forgetNumbers 40 = .ok (.goto (-33), 3) := dz_167 (b_3 (a := 255) (b := 223) bX6_forgetNumbers (by decide +kernel)) (by decide +kernel)
theorem dX6_forgetNumbers_43 : decode cX6_forgetNumbers 43 = .ok (.return_, 1) := dz_177 (b_1 bX6_forgetNumbers (by decide +kernel))
noncomputable def nX7_init : Nat := 0xb12000b51b2a1c00b51a00bd072a1600b504bc082a1200b50bbc082a0f00b50abc082a0900b50abc082a0300b72a
theorem bX7_init : Bts cX7_init nX7_init 46 := by unfold Bts; decide +kernel
theorem dX7_init_0 : decode cX7_init 0 = .ok (.aload_n 0, 1) := dz_42 (b_1 bX7_init (by decide +kernel))
theorem dX7_init_1 : decode cX7_init 1 = .ok (.invokespecial 3, 3) := dz_183 (b_3 (a := 0) (b := 3) bX7_init (by decide +kernel))
theorem dX7_init_4 : decode cX7_init 4 = .ok (.aload_n 0, 1) := dz_42 (b_1 bX7_init (by decide +kernel))
theorem dX7_init_5 : decode cX7_init 5 = .ok (.iconst 5, 1) := dz_8 (b_1 bX7_init (by decide +kernel))
theorem dX7_init_6 : decode cX7_init 6 = .ok (.newarray .int, 2) := by decide +kernel
theorem dX7_init_8 : decode cX7_init 8 = .ok (.putfield 9, 3) := dz_181 (b_3 (a := 0) (b := 9) bX7_init (by decide +kernel))
theorem dX7_init_11 : decode cX7_init 11 = .ok (.aload_n 0, 1) := dz_42 (b_1 bX7_init (by decide +kernel))
theorem dX7_init_12 : decode cX7_init 12 = .ok (.iconst 5, 1) := dz_8 (b_1 bX7_init (by decide +kernel))
theorem dX7_init_13 : decode cX7_init 13 = .ok (.newarray .int, 2) := by decide +kernel
theorem dX7_init_15 : decode cX7_init 15 = .ok (.putfield 15, 3) := dz_181 (b_3 (a := 0) (b := 15) bX7_init (by decide +kernel))
theorem dX7_init_18 : decode cX7_init 18 = .ok (.aload_n 0, 1) := dz_42 (b_1 bX7_init (by decide +kernel))
theorem dX7_init_19 : decode cX7_init 19 = .ok (.iconst 5, 1) := dz_8 (b_1 bX7_init (by decide +kernel))
theorem dX7_init_20 : decode cX7_init 20 = .ok (.newarray .long, 2) := by decide +kernel
theorem dX7_init_22 : decode cX7_init 22 = .ok (.putfield 18, 3) := dz_181 (b_3 (a := 0) (b := 18) bX7_init (by decide +kernel))
theorem dX7_init_25 : decode cX7_init 25 = .ok (.aload_n 0, 1) := dz_42 (b_1 bX7_init (by decide +kernel))
theorem dX7_init_26 : decode cX7_init 26 = .ok (.iconst 5, 1) := dz_8 (b_1 bX7_init (by decide +kernel))
theorem dX7_init_27 : decode cX7_init 27 = .ok (.newarray .boolean, 2) := by decide +kernel
theorem dX7_init_29 : decode cX7_init 29 = .ok (.putfield 22, 3) := dz_181 (b_3 (a := 0) (b := 22) bX7_init (by decide +kernel))
theorem dX7_init_32 : decode cX7_init 32 = .ok (.aload_n 0, 1) := dz_42 (b_1 bX7_init (by decide +kernel))
theorem dX7_init_33 : decode cX7_init 33 = .ok (.iconst 4, 1) := dz_7 (b_1 bX7_init (by decide +kernel))
theorem dX7_init_34 : decode cX7_init 34 = .ok (.anewarray 26, 3) := dz_189 (b_3 (a := 0) (b := 26) bX7_init (by decide +kernel))
theorem dX7_init_37 : decode cX7_init 37 = .ok (.putfield 28, 3) := dz_181 (b_3 (a := 0) (b := 28) bX7_init (by decide +kernel))
theorem dX7_init_40 : decode cX7_init 40 = .ok (.aload_n 0, 1) := dz_42 (b_1 bX7_init (by decide +kernel))
theorem dX7_init_41 : decode cX7_init 41 = .ok (.iload_n 1, 1) := dz_27 (b_1 bX7_init (by decide +kernel))
theorem dX7_init_42 : decode cX7_init 42 = .ok (.putfield 32, 3) := dz_181 (b_3 (a := 0) (b := 32) bX7_init (by decide +kernel))
theorem dX7_init_45 : decode cX7_init 45 = .ok (.return_, 1) := dz_177 (b_1 bX7_init (by decide +kernel))
theorem gb_X8_isBelow : wsX8_isBelow.all goodWord = true := by decide +kernel
theorem gj_X7_hasField_0 : GpS ([.fieldLink RX7 36 "StateRecords$Type" "fieldCount" "I", .static yX8_isBelow, .initialized RX8, .code yX8_isBelow cX8_isBelow 2 (some .boolean)]) wsX7_hasField := fun w h => List.mem_cons_of_mem _ (List.mem_append_left _ (h))
set_option maxRecDepth 20000 in
theorem ggX7_hasField_X8_isBelow : GoodIn wsX7_hasField wsX8_isBelow := gp_s (gp_c (gj_X7_hasField_0 _ (gp_1 (gp_1 (gp_1 gp_h)))) (gp_n)) gb_X8_isBelow
set_option maxRecDepth 20000 in
theorem gX7_hasField_X8_isBelow_n39 : GoodIn wsX7_hasField (wsX8_isBelow) := ggX7_hasField_X8_isBelow
noncomputable def nX7_hasField : Nat := 0xac2700b82400b42a1b
theorem bX7_hasField : Bts cX7_hasField nX7_hasField 9 := by unfold Bts; decide +kernel
theorem dX7_hasField_0 : decode cX7_hasField 0 = .ok (.iload_n 1, 1) := dz_27 (b_1 bX7_hasField (by decide +kernel))
theorem dX7_hasField_1 : decode cX7_hasField 1 = .ok (.aload_n 0, 1) := dz_42 (b_1 bX7_hasField (by decide +kernel))
theorem dX7_hasField_2 : decode cX7_hasField 2 = .ok (.getfield 36, 3) := dz_180 (b_3 (a := 0) (b := 36) bX7_hasField (by decide +kernel))
theorem dX7_hasField_5 : decode cX7_hasField 5 = .ok (.invokestatic 39, 3) := dz_184 (b_3 (a := 0) (b := 39) bX7_hasField (by decide +kernel))
theorem dX7_hasField_8 : decode cX7_hasField 8 = .ok (.ireturn, 1) := dz_172 (b_1 bX7_hasField (by decide +kernel))
theorem gb_X7_hasField : wsX7_hasField.all goodWord = true := by decide +kernel
theorem gj_X7_hasLane_0 : GpS ([.fieldLink RX7 15 "StateRecords$Type" "lanes" "[I", .methodLink RX7 43 yX7_hasField, .instanceMethod yX7_hasField, .selects RX7 yX7_hasField yX7_hasField, .initialized RX7, .code yX7_hasField cX7_hasField 2 (some .boolean), .fieldLink RX7 36 "StateRecords$Type" "fieldCount" "I", .static yX8_isBelow, .initialized RX8, .code yX8_isBelow cX8_isBelow 2 (some .boolean)]) wsX7_hasLane := fun w h => List.mem_cons_of_mem _ (List.mem_append_left _ (h))
theorem gj_X7_hasLane_1 : GpS (wsX70) wsX7_hasLane := fun w h => List.mem_cons_of_mem _ (List.mem_append_right _ (h))
set_option maxRecDepth 20000 in
theorem ggX7_hasLane_X7_hasField : GoodIn wsX7_hasLane wsX7_hasField := gp_s (gp_c (gj_X7_hasLane_0 _ (gp_4 (gp_1 gp_h))) (gp_a (gp_c (gj_X7_hasLane_0 _ (gp_4 (gp_1 (gp_1 gp_h)))) (gp_c (gj_X7_hasLane_0 _ (gp_4 (gp_1 (gp_1 (gp_1 gp_h))))) (gp_c (gj_X7_hasLane_0 _ (gp_4 (gp_4 gp_h))) (gp_c (gj_X7_hasLane_0 _ (gp_4 (gp_4 (gp_1 gp_h)))) (gp_n))))) (gj_X7_hasLane_1))) gb_X7_hasField
set_option maxRecDepth 20000 in
theorem gX7_hasLane_X7_hasField : GoodIn wsX7_hasLane (wsV RX7 43 RX7 yX7_hasField wsX7_hasField) := goodIn_app (gp_s (gp_c (gj_X7_hasLane_0 _ (gp_1 gp_h)) (gp_c (gj_X7_hasLane_0 _ (gp_1 (gp_1 gp_h))) (gp_c (gj_X7_hasLane_0 _ (gp_1 (gp_1 (gp_1 gp_h)))) (gp_c (gj_X7_hasLane_0 _ (gp_4 gp_h)) (gp_n))))) (gp_v)) ggX7_hasLane_X7_hasField
noncomputable def nX7_hasLane : Nat := 0xac030400a7040700a01c2e1b0f00b42a1100992b00b61b2a
theorem bX7_hasLane : Bts cX7_hasLane nX7_hasLane 24 := by unfold Bts; decide +kernel
theorem dX7_hasLane_0 : decode cX7_hasLane 0 = .ok (.aload_n 0, 1) := dz_42 (b_1 bX7_hasLane (by decide +kernel))
theorem dX7_hasLane_1 : decode cX7_hasLane 1 = .ok (.iload_n 1, 1) := dz_27 (b_1 bX7_hasLane (by decide +kernel))
theorem dX7_hasLane_2 : decode cX7_hasLane 2 = .ok (.invokevirtual 43, 3) := dz_182 (b_3 (a := 0) (b := 43) bX7_hasLane (by decide +kernel))
theorem dX7_hasLane_5 : decode cX7_hasLane 5 = .ok (.ifCond .eq 17, 3) := dz_153 (b_3 (a := 0) (b := 17) bX7_hasLane (by decide +kernel)) (by decide +kernel)
theorem dX7_hasLane_8 : decode cX7_hasLane 8 = .ok (.aload_n 0, 1) := dz_42 (b_1 bX7_hasLane (by decide +kernel))
theorem dX7_hasLane_9 : decode cX7_hasLane 9 = .ok (.getfield 15, 3) := dz_180 (b_3 (a := 0) (b := 15) bX7_hasLane (by decide +kernel))
theorem dX7_hasLane_12 : decode cX7_hasLane 12 = .ok (.iload_n 1, 1) := dz_27 (b_1 bX7_hasLane (by decide +kernel))
theorem dX7_hasLane_13 : decode cX7_hasLane 13 = .ok (.iaload, 1) := dz_46 (b_1 bX7_hasLane (by decide +kernel))
theorem dX7_hasLane_14 : decode cX7_hasLane 14 = .ok (.iload_n 2, 1) := dz_28 (b_1 bX7_hasLane (by decide +kernel))
theorem dX7_hasLane_15 : decode cX7_hasLane 15 = .ok (.if_icmp .ne 7, 3) := dz_160 (b_3 (a := 0) (b := 7) bX7_hasLane (by decide +kernel)) (by decide +kernel)
theorem dX7_hasLane_18 : decode cX7_hasLane 18 = .ok (.iconst 1, 1) := dz_4 (b_1 bX7_hasLane (by decide +kernel))
theorem dX7_hasLane_19 : decode cX7_hasLane 19 = .ok (.goto 4, 3) := dz_167 (b_3 (a := 0) (b := 4) bX7_hasLane (by decide +kernel)) (by decide +kernel)
theorem dX7_hasLane_22 : decode cX7_hasLane 22 = .ok (.iconst 0, 1) := dz_3 (b_1 bX7_hasLane (by decide +kernel))
theorem dX7_hasLane_23 : decode cX7_hasLane 23 = .ok (.ireturn, 1) := dz_172 (b_1 bX7_hasLane (by decide +kernel))
theorem gj_X7_hasRowLane_0 : GpS ([.fieldLink RX7 15 "StateRecords$Type" "lanes" "[I", .methodLink RX7 43 yX7_hasField, .instanceMethod yX7_hasField, .selects RX7 yX7_hasField yX7_hasField, .initialized RX7, .code yX7_hasField cX7_hasField 2 (some .boolean), .fieldLink RX7 36 "StateRecords$Type" "fieldCount" "I", .static yX8_isBelow, .initialized RX8, .code yX8_isBelow cX8_isBelow 2 (some .boolean), .static yX8_isRowLane, .code yX8_isRowLane cX8_isRowLane 1 (some .boolean)]) wsX7_hasRowLane := fun w h => List.mem_cons_of_mem _ (List.mem_append_left _ (h))
theorem gj_X7_hasRowLane_1 : GpS (wsX70) wsX7_hasRowLane := fun w h => List.mem_cons_of_mem _ (List.mem_append_right _ (h))
set_option maxRecDepth 20000 in
theorem ggX7_hasRowLane_X7_hasField : GoodIn wsX7_hasRowLane wsX7_hasField := gp_s (gp_c (gj_X7_hasRowLane_0 _ (gp_4 (gp_1 gp_h))) (gp_a (gp_c (gj_X7_hasRowLane_0 _ (gp_4 (gp_1 (gp_1 gp_h)))) (gp_c (gj_X7_hasRowLane_0 _ (gp_4 (gp_1 (gp_1 (gp_1 gp_h))))) (gp_c (gj_X7_hasRowLane_0 _ (gp_4 (gp_4 gp_h))) (gp_c (gj_X7_hasRowLane_0 _ (gp_4 (gp_4 (gp_1 gp_h)))) (gp_n))))) (gj_X7_hasRowLane_1))) gb_X7_hasField
set_option maxRecDepth 20000 in
theorem gX7_hasRowLane_X7_hasField : GoodIn wsX7_hasRowLane (wsV RX7 43 RX7 yX7_hasField wsX7_hasField) := goodIn_app (gp_s (gp_c (gj_X7_hasRowLane_0 _ (gp_1 gp_h)) (gp_c (gj_X7_hasRowLane_0 _ (gp_1 (gp_1 gp_h))) (gp_c (gj_X7_hasRowLane_0 _ (gp_1 (gp_1 (gp_1 gp_h)))) (gp_c (gj_X7_hasRowLane_0 _ (gp_4 gp_h)) (gp_n))))) (gp_v)) ggX7_hasRowLane_X7_hasField
set_option maxRecDepth 20000 in
theorem ggX7_hasRowLane_X8_isRowLane : GoodIn wsX7_hasRowLane wsX8_isRowLane := gp_s (gp_c (gj_X7_hasRowLane_0 _ (gp_4 (gp_4 (gp_1 (gp_1 (gp_1 gp_h)))))) (gp_n)) gb_X8_isRowLane
set_option maxRecDepth 20000 in
theorem gX7_hasRowLane_X8_isRowLane_n47 : GoodIn wsX7_hasRowLane (wsX8_isRowLane) := ggX7_hasRowLane_X8_isRowLane
noncomputable def nX7_hasRowLane : Nat := 0xac030400a7040700992f00b82e1b0f00b42a1300992b00b61b2a
theorem bX7_hasRowLane : Bts cX7_hasRowLane nX7_hasRowLane 26 := by unfold Bts; decide +kernel
theorem dX7_hasRowLane_0 : decode cX7_hasRowLane 0 = .ok (.aload_n 0, 1) := dz_42 (b_1 bX7_hasRowLane (by decide +kernel))
theorem dX7_hasRowLane_1 : decode cX7_hasRowLane 1 = .ok (.iload_n 1, 1) := dz_27 (b_1 bX7_hasRowLane (by decide +kernel))
theorem dX7_hasRowLane_2 : decode cX7_hasRowLane 2 = .ok (.invokevirtual 43, 3) := dz_182 (b_3 (a := 0) (b := 43) bX7_hasRowLane (by decide +kernel))
theorem dX7_hasRowLane_5 : decode cX7_hasRowLane 5 = .ok (.ifCond .eq 19, 3) := dz_153 (b_3 (a := 0) (b := 19) bX7_hasRowLane (by decide +kernel)) (by decide +kernel)
theorem dX7_hasRowLane_8 : decode cX7_hasRowLane 8 = .ok (.aload_n 0, 1) := dz_42 (b_1 bX7_hasRowLane (by decide +kernel))
theorem dX7_hasRowLane_9 : decode cX7_hasRowLane 9 = .ok (.getfield 15, 3) := dz_180 (b_3 (a := 0) (b := 15) bX7_hasRowLane (by decide +kernel))
theorem dX7_hasRowLane_12 : decode cX7_hasRowLane 12 = .ok (.iload_n 1, 1) := dz_27 (b_1 bX7_hasRowLane (by decide +kernel))
theorem dX7_hasRowLane_13 : decode cX7_hasRowLane 13 = .ok (.iaload, 1) := dz_46 (b_1 bX7_hasRowLane (by decide +kernel))
theorem dX7_hasRowLane_14 : decode cX7_hasRowLane 14 = .ok (.invokestatic 47, 3) := dz_184 (b_3 (a := 0) (b := 47) bX7_hasRowLane (by decide +kernel))
theorem dX7_hasRowLane_17 : decode cX7_hasRowLane 17 = .ok (.ifCond .eq 7, 3) := dz_153 (b_3 (a := 0) (b := 7) bX7_hasRowLane (by decide +kernel)) (by decide +kernel)
theorem dX7_hasRowLane_20 : decode cX7_hasRowLane 20 = .ok (.iconst 1, 1) := dz_4 (b_1 bX7_hasRowLane (by decide +kernel))
theorem dX7_hasRowLane_21 : decode cX7_hasRowLane 21 = .ok (.goto 4, 3) := dz_167 (b_3 (a := 0) (b := 4) bX7_hasRowLane (by decide +kernel)) (by decide +kernel)
theorem dX7_hasRowLane_24 : decode cX7_hasRowLane 24 = .ok (.iconst 0, 1) := dz_3 (b_1 bX7_hasRowLane (by decide +kernel))
theorem dX7_hasRowLane_25 : decode cX7_hasRowLane 25 = .ok (.ireturn, 1) := dz_172 (b_1 bX7_hasRowLane (by decide +kernel))
noncomputable def nX7_fieldNamed : Nat := 0xac02e9ffa7010284ac1c0500a01b2e1c0900b42a1500a22400b42a1c3d03
theorem bX7_fieldNamed : Bts cX7_fieldNamed nX7_fieldNamed 30 := by unfold Bts; decide +kernel
theorem dX7_fieldNamed_0 : decode cX7_fieldNamed 0 = .ok (.iconst 0, 1) := dz_3 (b_1 bX7_fieldNamed (by decide +kernel))
theorem dX7_fieldNamed_1 : decode cX7_fieldNamed 1 = .ok (.istore_n 2, 1) := dz_61 (b_1 bX7_fieldNamed (by decide +kernel))
theorem dX7_fieldNamed_2 : decode cX7_fieldNamed 2 = .ok (.iload_n 2, 1) := dz_28 (b_1 bX7_fieldNamed (by decide +kernel))
theorem dX7_fieldNamed_3 : decode cX7_fieldNamed 3 = .ok (.aload_n 0, 1) := dz_42 (b_1 bX7_fieldNamed (by decide +kernel))
theorem dX7_fieldNamed_4 : decode cX7_fieldNamed 4 = .ok (.getfield 36, 3) := dz_180 (b_3 (a := 0) (b := 36) bX7_fieldNamed (by decide +kernel))
theorem dX7_fieldNamed_7 : decode cX7_fieldNamed 7 = .ok (.if_icmp .ge 21, 3) := dz_162 (b_3 (a := 0) (b := 21) bX7_fieldNamed (by decide +kernel)) (by decide +kernel)
theorem dX7_fieldNamed_10 : decode cX7_fieldNamed 10 = .ok (.aload_n 0, 1) := dz_42 (b_1 bX7_fieldNamed (by decide +kernel))
theorem dX7_fieldNamed_11 : decode cX7_fieldNamed 11 = .ok (.getfield 9, 3) := dz_180 (b_3 (a := 0) (b := 9) bX7_fieldNamed (by decide +kernel))
theorem dX7_fieldNamed_14 : decode cX7_fieldNamed 14 = .ok (.iload_n 2, 1) := dz_28 (b_1 bX7_fieldNamed (by decide +kernel))
theorem dX7_fieldNamed_15 : decode cX7_fieldNamed 15 = .ok (.iaload, 1) := dz_46 (b_1 bX7_fieldNamed (by decide +kernel))
theorem dX7_fieldNamed_16 : decode cX7_fieldNamed 16 = .ok (.iload_n 1, 1) := dz_27 (b_1 bX7_fieldNamed (by decide +kernel))
theorem dX7_fieldNamed_17 : decode cX7_fieldNamed 17 = .ok (.if_icmp .ne 5, 3) := dz_160 (b_3 (a := 0) (b := 5) bX7_fieldNamed (by decide +kernel)) (by decide +kernel)
theorem dX7_fieldNamed_20 : decode cX7_fieldNamed 20 = .ok (.iload_n 2, 1) := dz_28 (b_1 bX7_fieldNamed (by decide +kernel))
theorem dX7_fieldNamed_21 : decode cX7_fieldNamed 21 = .ok (.ireturn, 1) := dz_172 (b_1 bX7_fieldNamed (by decide +kernel))
theorem dX7_fieldNamed_22 : decode cX7_fieldNamed 22 = .ok (.iinc 2 1, 3) := dz_132 (b_3 (a := 2) (b := 1) bX7_fieldNamed (by decide +kernel)) (by decide +kernel)
theorem dX7_fieldNamed_25 : decode cX7_fieldNamed 25 = .ok (.goto (-23), 3) := dz_167 (b_3 (a := 255) (b := 233) bX7_fieldNamed (by decide +kernel)) (by decide +kernel)
theorem dX7_fieldNamed_28 : decode cX7_fieldNamed 28 = .ok (.iconst (-1), 1) := dz_2 (b_1 bX7_fieldNamed (by decide +kernel))
theorem dX7_fieldNamed_29 : decode cX7_fieldNamed 29 = .ok (.ireturn, 1) := dz_172 (b_1 bX7_fieldNamed (by decide +kernel))
noncomputable def nX7_addField : Nat := 0xac05152400b560042400b4592a540305151600b42a502105151200b42a4f1c05150f00b42a4f1b05150900b42a05362400b42a
theorem bX7_addField : Bts cX7_addField nX7_addField 51 := by unfold Bts; decide +kernel
theorem dX7_addField_0 : decode cX7_addField 0 = .ok (.aload_n 0, 1) := dz_42 (b_1 bX7_addField (by decide +kernel))
theorem dX7_addField_1 : decode cX7_addField 1 = .ok (.getfield 36, 3) := dz_180 (b_3 (a := 0) (b := 36) bX7_addField (by decide +kernel))
theorem dX7_addField_4 : decode cX7_addField 4 = .ok (.istore 5, 2) := dz_54 (b_2 (a := 5) bX7_addField (by decide +kernel))
theorem dX7_addField_6 : decode cX7_addField 6 = .ok (.aload_n 0, 1) := dz_42 (b_1 bX7_addField (by decide +kernel))
theorem dX7_addField_7 : decode cX7_addField 7 = .ok (.getfield 9, 3) := dz_180 (b_3 (a := 0) (b := 9) bX7_addField (by decide +kernel))
theorem dX7_addField_10 : decode cX7_addField 10 = .ok (.iload 5, 2) := dz_21 (b_2 (a := 5) bX7_addField (by decide +kernel))
theorem dX7_addField_12 : decode cX7_addField 12 = .ok (.iload_n 1, 1) := dz_27 (b_1 bX7_addField (by decide +kernel))
theorem dX7_addField_13 : decode cX7_addField 13 = .ok (.iastore, 1) := dz_79 (b_1 bX7_addField (by decide +kernel))
theorem dX7_addField_14 : decode cX7_addField 14 = .ok (.aload_n 0, 1) := dz_42 (b_1 bX7_addField (by decide +kernel))
theorem dX7_addField_15 : decode cX7_addField 15 = .ok (.getfield 15, 3) := dz_180 (b_3 (a := 0) (b := 15) bX7_addField (by decide +kernel))
theorem dX7_addField_18 : decode cX7_addField 18 = .ok (.iload 5, 2) := dz_21 (b_2 (a := 5) bX7_addField (by decide +kernel))
theorem dX7_addField_20 : decode cX7_addField 20 = .ok (.iload_n 2, 1) := dz_28 (b_1 bX7_addField (by decide +kernel))
theorem dX7_addField_21 : decode cX7_addField 21 = .ok (.iastore, 1) := dz_79 (b_1 bX7_addField (by decide +kernel))
theorem dX7_addField_22 : decode cX7_addField 22 = .ok (.aload_n 0, 1) := dz_42 (b_1 bX7_addField (by decide +kernel))
theorem dX7_addField_23 : decode cX7_addField 23 = .ok (.getfield 18, 3) := dz_180 (b_3 (a := 0) (b := 18) bX7_addField (by decide +kernel))
theorem dX7_addField_26 : decode cX7_addField 26 = .ok (.iload 5, 2) := dz_21 (b_2 (a := 5) bX7_addField (by decide +kernel))
theorem dX7_addField_28 : decode cX7_addField 28 = .ok (.lload_n 3, 1) := dz_33 (b_1 bX7_addField (by decide +kernel))
theorem dX7_addField_29 : decode cX7_addField 29 = .ok (.lastore, 1) := dz_80 (b_1 bX7_addField (by decide +kernel))
theorem dX7_addField_30 : decode cX7_addField 30 = .ok (.aload_n 0, 1) := dz_42 (b_1 bX7_addField (by decide +kernel))
theorem dX7_addField_31 : decode cX7_addField 31 = .ok (.getfield 22, 3) := dz_180 (b_3 (a := 0) (b := 22) bX7_addField (by decide +kernel))
theorem dX7_addField_34 : decode cX7_addField 34 = .ok (.iload 5, 2) := dz_21 (b_2 (a := 5) bX7_addField (by decide +kernel))
theorem dX7_addField_36 : decode cX7_addField 36 = .ok (.iconst 0, 1) := dz_3 (b_1 bX7_addField (by decide +kernel))
theorem dX7_addField_37 : decode cX7_addField 37 = .ok (.bastore, 1) := dz_84 (b_1 bX7_addField (by decide +kernel))
theorem dX7_addField_38 : decode cX7_addField 38 = .ok (.aload_n 0, 1) := dz_42 (b_1 bX7_addField (by decide +kernel))
theorem dX7_addField_39 : decode cX7_addField 39 = .ok (.dup, 1) := dz_89 (b_1 bX7_addField (by decide +kernel))
theorem dX7_addField_40 : decode cX7_addField 40 = .ok (.getfield 36, 3) := dz_180 (b_3 (a := 0) (b := 36) bX7_addField (by decide +kernel))
theorem dX7_addField_43 : decode cX7_addField 43 = .ok (.iconst 1, 1) := dz_4 (b_1 bX7_addField (by decide +kernel))
theorem dX7_addField_44 : decode cX7_addField 44 = .ok (.iadd, 1) := dz_96 (b_1 bX7_addField (by decide +kernel))
theorem dX7_addField_45 : decode cX7_addField 45 = .ok (.putfield 36, 3) := dz_181 (b_3 (a := 0) (b := 36) bX7_addField (by decide +kernel))
theorem dX7_addField_48 : decode cX7_addField 48 = .ok (.iload 5, 2) := dz_21 (b_2 (a := 5) bX7_addField (by decide +kernel))
theorem dX7_addField_50 : decode cX7_addField 50 = .ok (.ireturn, 1) := dz_172 (b_1 bX7_addField (by decide +kernel))
noncomputable def nX7_removeField : Nat := 0xb12400b564042400b4592abbffa7010284543360041c1600b42a1c1600b42a502f60041c1200b42a1c1200b42a4f2e60041c0f00b42a1c0f00b42a4f2e60041c0900b42a1c0900b42a4100a22400b42a60041c3d1b
theorem bX7_removeField : Bts cX7_removeField nX7_removeField 85 := by unfold Bts; decide +kernel
theorem dX7_removeField_0 : decode cX7_removeField 0 = .ok (.iload_n 1, 1) := dz_27 (b_1 bX7_removeField (by decide +kernel))
theorem dX7_removeField_1 : decode cX7_removeField 1 = .ok (.istore_n 2, 1) := dz_61 (b_1 bX7_removeField (by decide +kernel))
theorem dX7_removeField_2 : decode cX7_removeField 2 = .ok (.iload_n 2, 1) := dz_28 (b_1 bX7_removeField (by decide +kernel))
theorem dX7_removeField_3 : decode cX7_removeField 3 = .ok (.iconst 1, 1) := dz_4 (b_1 bX7_removeField (by decide +kernel))
theorem dX7_removeField_4 : decode cX7_removeField 4 = .ok (.iadd, 1) := dz_96 (b_1 bX7_removeField (by decide +kernel))
theorem dX7_removeField_5 : decode cX7_removeField 5 = .ok (.aload_n 0, 1) := dz_42 (b_1 bX7_removeField (by decide +kernel))
theorem dX7_removeField_6 : decode cX7_removeField 6 = .ok (.getfield 36, 3) := dz_180 (b_3 (a := 0) (b := 36) bX7_removeField (by decide +kernel))
theorem dX7_removeField_9 : decode cX7_removeField 9 = .ok (.if_icmp .ge 65, 3) := dz_162 (b_3 (a := 0) (b := 65) bX7_removeField (by decide +kernel)) (by decide +kernel)
theorem dX7_removeField_12 : decode cX7_removeField 12 = .ok (.aload_n 0, 1) := dz_42 (b_1 bX7_removeField (by decide +kernel))
theorem dX7_removeField_13 : decode cX7_removeField 13 = .ok (.getfield 9, 3) := dz_180 (b_3 (a := 0) (b := 9) bX7_removeField (by decide +kernel))
theorem dX7_removeField_16 : decode cX7_removeField 16 = .ok (.iload_n 2, 1) := dz_28 (b_1 bX7_removeField (by decide +kernel))
theorem dX7_removeField_17 : decode cX7_removeField 17 = .ok (.aload_n 0, 1) := dz_42 (b_1 bX7_removeField (by decide +kernel))
theorem dX7_removeField_18 : decode cX7_removeField 18 = .ok (.getfield 9, 3) := dz_180 (b_3 (a := 0) (b := 9) bX7_removeField (by decide +kernel))
theorem dX7_removeField_21 : decode cX7_removeField 21 = .ok (.iload_n 2, 1) := dz_28 (b_1 bX7_removeField (by decide +kernel))
theorem dX7_removeField_22 : decode cX7_removeField 22 = .ok (.iconst 1, 1) := dz_4 (b_1 bX7_removeField (by decide +kernel))
theorem dX7_removeField_23 : decode cX7_removeField 23 = .ok (.iadd, 1) := dz_96 (b_1 bX7_removeField (by decide +kernel))
theorem dX7_removeField_24 : decode cX7_removeField 24 = .ok (.iaload, 1) := dz_46 (b_1 bX7_removeField (by decide +kernel))
theorem dX7_removeField_25 : decode cX7_removeField 25 = .ok (.iastore, 1) := dz_79 (b_1 bX7_removeField (by decide +kernel))
theorem dX7_removeField_26 : decode cX7_removeField 26 = .ok (.aload_n 0, 1) := dz_42 (b_1 bX7_removeField (by decide +kernel))
theorem dX7_removeField_27 : decode cX7_removeField 27 = .ok (.getfield 15, 3) := dz_180 (b_3 (a := 0) (b := 15) bX7_removeField (by decide +kernel))
theorem dX7_removeField_30 : decode cX7_removeField 30 = .ok (.iload_n 2, 1) := dz_28 (b_1 bX7_removeField (by decide +kernel))
theorem dX7_removeField_31 : decode cX7_removeField 31 = .ok (.aload_n 0, 1) := dz_42 (b_1 bX7_removeField (by decide +kernel))
theorem dX7_removeField_32 : decode cX7_removeField 32 = .ok (.getfield 15, 3) := dz_180 (b_3 (a := 0) (b := 15) bX7_removeField (by decide +kernel))
theorem dX7_removeField_35 : decode cX7_removeField 35 = .ok (.iload_n 2, 1) := dz_28 (b_1 bX7_removeField (by decide +kernel))
theorem dX7_removeField_36 : decode cX7_removeField 36 = .ok (.iconst 1, 1) := dz_4 (b_1 bX7_removeField (by decide +kernel))
theorem dX7_removeField_37 : decode cX7_removeField 37 = .ok (.iadd, 1) := dz_96 (b_1 bX7_removeField (by decide +kernel))
theorem dX7_removeField_38 : decode cX7_removeField 38 = .ok (.iaload, 1) := dz_46 (b_1 bX7_removeField (by decide +kernel))
theorem dX7_removeField_39 : decode cX7_removeField 39 = .ok (.iastore, 1) := dz_79 (b_1 bX7_removeField (by decide +kernel))
theorem dX7_removeField_40 : decode cX7_removeField 40 = .ok (.aload_n 0, 1) := dz_42 (b_1 bX7_removeField (by decide +kernel))
theorem dX7_removeField_41 : decode cX7_removeField 41 = .ok (.getfield 18, 3) := dz_180 (b_3 (a := 0) (b := 18) bX7_removeField (by decide +kernel))
theorem dX7_removeField_44 : decode cX7_removeField 44 = .ok (.iload_n 2, 1) := dz_28 (b_1 bX7_removeField (by decide +kernel))
theorem dX7_removeField_45 : decode cX7_removeField 45 = .ok (.aload_n 0, 1) := dz_42 (b_1 bX7_removeField (by decide +kernel))
theorem dX7_removeField_46 : decode cX7_removeField 46 = .ok (.getfield 18, 3) := dz_180 (b_3 (a := 0) (b := 18) bX7_removeField (by decide +kernel))
theorem dX7_removeField_49 : decode cX7_removeField 49 = .ok (.iload_n 2, 1) := dz_28 (b_1 bX7_removeField (by decide +kernel))
theorem dX7_removeField_50 : decode cX7_removeField 50 = .ok (.iconst 1, 1) := dz_4 (b_1 bX7_removeField (by decide +kernel))
theorem dX7_removeField_51 : decode cX7_removeField 51 = .ok (.iadd, 1) := dz_96 (b_1 bX7_removeField (by decide +kernel))
theorem dX7_removeField_52 : decode cX7_removeField 52 = .ok (.laload, 1) := dz_47 (b_1 bX7_removeField (by decide +kernel))
theorem dX7_removeField_53 : decode cX7_removeField 53 = .ok (.lastore, 1) := dz_80 (b_1 bX7_removeField (by decide +kernel))
theorem dX7_removeField_54 : decode cX7_removeField 54 = .ok (.aload_n 0, 1) := dz_42 (b_1 bX7_removeField (by decide +kernel))
theorem dX7_removeField_55 : decode cX7_removeField 55 = .ok (.getfield 22, 3) := dz_180 (b_3 (a := 0) (b := 22) bX7_removeField (by decide +kernel))
theorem dX7_removeField_58 : decode cX7_removeField 58 = .ok (.iload_n 2, 1) := dz_28 (b_1 bX7_removeField (by decide +kernel))
theorem dX7_removeField_59 : decode cX7_removeField 59 = .ok (.aload_n 0, 1) := dz_42 (b_1 bX7_removeField (by decide +kernel))
theorem dX7_removeField_60 : decode cX7_removeField 60 = .ok (.getfield 22, 3) := dz_180 (b_3 (a := 0) (b := 22) bX7_removeField (by decide +kernel))
theorem dX7_removeField_63 : decode cX7_removeField 63 = .ok (.iload_n 2, 1) := dz_28 (b_1 bX7_removeField (by decide +kernel))
theorem dX7_removeField_64 : decode cX7_removeField 64 = .ok (.iconst 1, 1) := dz_4 (b_1 bX7_removeField (by decide +kernel))
theorem dX7_removeField_65 : decode cX7_removeField 65 = .ok (.iadd, 1) := dz_96 (b_1 bX7_removeField (by decide +kernel))
theorem dX7_removeField_66 : decode cX7_removeField 66 = .ok (.baload, 1) := dz_51 (b_1 bX7_removeField (by decide +kernel))
theorem dX7_removeField_67 : decode cX7_removeField 67 = .ok (.bastore, 1) := dz_84 (b_1 bX7_removeField (by decide +kernel))
theorem dX7_removeField_68 : decode cX7_removeField 68 = .ok (.iinc 2 1, 3) := dz_132 (b_3 (a := 2) (b := 1) bX7_removeField (by decide +kernel)) (by decide +kernel)
theorem dX7_removeField_71 : decode cX7_removeField 71 = .ok (.goto (-69), 3) := dz_167 (b_3 (a := 255) (b := 187) bX7_removeField (by decide +kernel)) (by decide +kernel)
theorem dX7_removeField_74 : decode cX7_removeField 74 = .ok (.aload_n 0, 1) := dz_42 (b_1 bX7_removeField (by decide +kernel))
theorem dX7_removeField_75 : decode cX7_removeField 75 = .ok (.dup, 1) := dz_89 (b_1 bX7_removeField (by decide +kernel))
theorem dX7_removeField_76 : decode cX7_removeField 76 = .ok (.getfield 36, 3) := dz_180 (b_3 (a := 0) (b := 36) bX7_removeField (by decide +kernel))
theorem dX7_removeField_79 : decode cX7_removeField 79 = .ok (.iconst 1, 1) := dz_4 (b_1 bX7_removeField (by decide +kernel))
theorem dX7_removeField_80 : decode cX7_removeField 80 = .ok (.isub, 1) := dz_100 (b_1 bX7_removeField (by decide +kernel))
theorem dX7_removeField_81 : decode cX7_removeField 81 = .ok (.putfield 36, 3) := dz_181 (b_3 (a := 0) (b := 36) bX7_removeField (by decide +kernel))
theorem dX7_removeField_84 : decode cX7_removeField 84 = .ok (.return_, 1) := dz_177 (b_1 bX7_removeField (by decide +kernel))
theorem gb_X4_init : wsX4_init.all goodWord = true := by decide +kernel
theorem gj_X8_init_0 : GpS (wsX8_init_r1) wsX8_init := fun w h => List.mem_cons_of_mem _ (List.mem_append_left _ (List.mem_append_left _ (List.mem_append_left _ (List.mem_append_left _ (List.mem_append_left _ (List.mem_append_left _ (List.mem_append_left _ (h))))))))
theorem gj_X8_init_1 : GpS (wsX8_init_r2) wsX8_init := fun w h => List.mem_cons_of_mem _ (List.mem_append_left _ (List.mem_append_left _ (List.mem_append_left _ (List.mem_append_left _ (List.mem_append_left _ (List.mem_append_left _ (List.mem_append_right _ (List.mem_append_left _ (h)))))))))
theorem gj_X8_init_4 : GpS (wsX40) wsX8_init := fun w h => List.mem_cons_of_mem _ (List.mem_append_left _ (List.mem_append_left _ (List.mem_append_left _ (List.mem_append_left _ (List.mem_append_right _ (h))))))
set_option maxRecDepth 20000 in
theorem ggX8_init_X4_init : GoodIn wsX8_init wsX4_init := gp_s (gp_c (gj_X8_init_1 _ (gp_4 (gp_1 gp_h))) (gp_a (gp_c (gj_X8_init_1 _ (gp_4 (gp_1 (gp_1 gp_h)))) (gp_c (gj_X8_init_0 _ (gp_1 gp_h)) (gp_c (gj_X8_init_0 _ (gp_1 (gp_1 gp_h))) (gp_c (gj_X8_init_1 _ (gp_4 (gp_1 (gp_1 (gp_1 gp_h))))) (gp_c (gj_X8_init_1 _ (gp_4 (gp_4 gp_h))) (gp_c (gj_X8_init_1 _ (gp_4 (gp_4 (gp_1 gp_h)))) (gp_c (gj_X8_init_1 _ (gp_4 (gp_4 (gp_1 (gp_1 gp_h))))) (gp_c (gj_X8_init_1 _ (gp_4 (gp_4 (gp_1 (gp_1 (gp_1 gp_h)))))) (gp_c (gj_X8_init_1 _ (gp_4 (gp_4 (gp_4 gp_h)))) (gp_c (gj_X8_init_1 _ (gp_4 (gp_4 (gp_4 (gp_1 gp_h))))) (gp_c (gj_X8_init_1 _ (gp_4 (gp_4 (gp_4 (gp_1 (gp_1 gp_h)))))) (gp_c (gj_X8_init_1 _ (gp_4 (gp_4 (gp_4 (gp_1 (gp_1 (gp_1 gp_h))))))) (gp_n))))))))))))) (gj_X8_init_4))) gb_X4_init
set_option maxRecDepth 20000 in
theorem gX8_init_X4_init_n31 : GoodIn wsX8_init (wsX4_init) := ggX8_init_X4_init
theorem gb_X2_init : wsX2_init.all goodWord = true := by decide +kernel
theorem gj_X8_init_2 : GpS (wsX8_init_r3) wsX8_init := fun w h => List.mem_cons_of_mem _ (List.mem_append_left _ (List.mem_append_left _ (List.mem_append_left _ (List.mem_append_left _ (List.mem_append_left _ (List.mem_append_left _ (List.mem_append_right _ (List.mem_append_right _ (h)))))))))
theorem gj_X8_init_5 : GpS (wsX20) wsX8_init := fun w h => List.mem_cons_of_mem _ (List.mem_append_left _ (List.mem_append_left _ (List.mem_append_left _ (List.mem_append_right _ (h)))))
theorem gj_X8_init_8 : GpS (wsX30) wsX8_init := fun w h => List.mem_cons_of_mem _ (List.mem_append_right _ (h))
set_option maxRecDepth 20000 in
theorem ggX8_init_X2_init : GoodIn wsX8_init wsX2_init := gp_s (gp_c (gj_X8_init_1 _ (gp_16 (gp_1 (gp_1 gp_h)))) (gp_a (gp_a (gp_c (gj_X8_init_1 _ (gp_16 (gp_1 (gp_1 (gp_1 gp_h))))) (gp_c (gj_X8_init_0 _ (gp_1 gp_h)) (gp_c (gj_X8_init_0 _ (gp_1 (gp_1 gp_h))) (gp_c (gj_X8_init_1 _ (gp_16 (gp_4 gp_h))) (gp_c (gj_X8_init_1 _ (gp_16 (gp_4 (gp_1 gp_h)))) (gp_c (gj_X8_init_1 _ (gp_4 (gp_1 (gp_1 (gp_1 gp_h))))) (gp_c (gj_X8_init_1 _ (gp_16 (gp_4 (gp_1 (gp_1 gp_h))))) (gp_c (gj_X8_init_1 _ (gp_16 (gp_4 (gp_1 (gp_1 (gp_1 gp_h)))))) (gp_c (gj_X8_init_2 _ (gp_h)) (gp_c (gj_X8_init_2 _ (gp_1 gp_h)) (gp_c (gj_X8_init_2 _ (gp_1 (gp_1 gp_h))) (gp_c (gj_X8_init_2 _ (gp_1 (gp_1 (gp_1 gp_h)))) (gp_n))))))))))))) (gj_X8_init_5)) (gj_X8_init_8))) gb_X2_init
set_option maxRecDepth 20000 in
theorem gX8_init_X2_init : GoodIn wsX8_init (wsX2_init) := ggX8_init_X2_init
theorem gb_X1_init : wsX1_init.all goodWord = true := by decide +kernel
set_option maxRecDepth 20000 in
theorem ggX8_init_X1_init : GoodIn wsX8_init wsX1_init := gp_s (gp_c (gj_X8_init_2 _ (gp_4 (gp_1 gp_h))) (gp_c (gj_X8_init_2 _ (gp_4 (gp_1 (gp_1 gp_h)))) (gp_c (gj_X8_init_0 _ (gp_1 gp_h)) (gp_c (gj_X8_init_0 _ (gp_1 (gp_1 gp_h))) (gp_n))))) gb_X1_init
set_option maxRecDepth 20000 in
theorem gX8_init_X1_init_n57 : GoodIn wsX8_init (wsX1_init) := ggX8_init_X1_init
theorem gb_X6_init : wsX6_init.all goodWord = true := by decide +kernel
theorem gj_X8_init_7 : GpS (wsX60) wsX8_init := fun w h => List.mem_cons_of_mem _ (List.mem_append_left _ (List.mem_append_right _ (h)))
set_option maxRecDepth 20000 in
theorem ggX8_init_X6_init : GoodIn wsX8_init wsX6_init := gp_s (gp_c (gj_X8_init_2 _ (gp_4 (gp_4 gp_h))) (gp_a (gp_c (gj_X8_init_2 _ (gp_4 (gp_4 (gp_1 gp_h)))) (gp_c (gj_X8_init_0 _ (gp_1 gp_h)) (gp_c (gj_X8_init_0 _ (gp_1 (gp_1 gp_h))) (gp_c (gj_X8_init_1 _ (gp_4 (gp_4 (gp_4 gp_h)))) (gp_c (gj_X8_init_2 _ (gp_4 (gp_4 (gp_1 (gp_1 gp_h))))) (gp_c (gj_X8_init_2 _ (gp_4 (gp_4 (gp_1 (gp_1 (gp_1 gp_h)))))) (gp_c (gj_X8_init_2 _ (gp_4 (gp_4 (gp_4 gp_h)))) (gp_n)))))))) (gj_X8_init_7))) gb_X6_init
set_option maxRecDepth 20000 in
theorem gX8_init_X6_init_n62 : GoodIn wsX8_init (wsX6_init) := ggX8_init_X6_init
noncomputable def nX8_init : Nat := 0xb1ebffa7010184531f00b7591900bb1b1b00b42a1600a2071b3c03f0ffa701018454041b1500b42a1000a210101b3c03eaffa7010184533e00b7590f00bb1b1100b42a1600a21e101b3c033a00b53900b7593700bb2a3300b53200b7593000bb2a2c00b52a00bdc201112a2700b50f00bd1e102a2400b51f00b7591900bb2a2000b51f00b7591900bb2a1b00b51900bd072a1500b504bc10102a1100b50f00bd1e102a0b00b50900bd08102a0300b72a
theorem bX8_init : Bts cX8_init nX8_init 176 := by unfold Bts; decide +kernel
theorem dX8_init_0 : decode cX8_init 0 = .ok (.aload_n 0, 1) := dz_42 (b_1 bX8_init (by decide +kernel))
theorem dX8_init_1 : decode cX8_init 1 = .ok (.invokespecial 3, 3) := dz_183 (b_3 (a := 0) (b := 3) bX8_init (by decide +kernel))
theorem dX8_init_4 : decode cX8_init 4 = .ok (.aload_n 0, 1) := dz_42 (b_1 bX8_init (by decide +kernel))
theorem dX8_init_5 : decode cX8_init 5 = .ok (.bipush 8, 2) := dz_16 (b_2 (a := 8) bX8_init (by decide +kernel)) (by decide +kernel)
theorem dX8_init_7 : decode cX8_init 7 = .ok (.anewarray 9, 3) := dz_189 (b_3 (a := 0) (b := 9) bX8_init (by decide +kernel))
theorem dX8_init_10 : decode cX8_init 10 = .ok (.putfield 11, 3) := dz_181 (b_3 (a := 0) (b := 11) bX8_init (by decide +kernel))
theorem dX8_init_13 : decode cX8_init 13 = .ok (.aload_n 0, 1) := dz_42 (b_1 bX8_init (by decide +kernel))
theorem dX8_init_14 : decode cX8_init 14 = .ok (.bipush 30, 2) := dz_16 (b_2 (a := 30) bX8_init (by decide +kernel)) (by decide +kernel)
theorem dX8_init_16 : decode cX8_init 16 = .ok (.anewarray 15, 3) := dz_189 (b_3 (a := 0) (b := 15) bX8_init (by decide +kernel))
theorem dX8_init_19 : decode cX8_init 19 = .ok (.putfield 17, 3) := dz_181 (b_3 (a := 0) (b := 17) bX8_init (by decide +kernel))
theorem dX8_init_22 : decode cX8_init 22 = .ok (.aload_n 0, 1) := dz_42 (b_1 bX8_init (by decide +kernel))
theorem dX8_init_23 : decode cX8_init 23 = .ok (.bipush 16, 2) := dz_16 (b_2 (a := 16) bX8_init (by decide +kernel)) (by decide +kernel)
theorem dX8_init_25 : decode cX8_init 25 = .ok (.newarray .boolean, 2) := by decide +kernel
theorem dX8_init_27 : decode cX8_init 27 = .ok (.putfield 21, 3) := dz_181 (b_3 (a := 0) (b := 21) bX8_init (by decide +kernel))
theorem dX8_init_30 : decode cX8_init 30 = .ok (.aload_n 0, 1) := dz_42 (b_1 bX8_init (by decide +kernel))
theorem dX8_init_31 : decode cX8_init 31 = .ok (.iconst 4, 1) := dz_7 (b_1 bX8_init (by decide +kernel))
theorem dX8_init_32 : decode cX8_init 32 = .ok (.anewarray 25, 3) := dz_189 (b_3 (a := 0) (b := 25) bX8_init (by decide +kernel))
theorem dX8_init_35 : decode cX8_init 35 = .ok (.putfield 27, 3) := dz_181 (b_3 (a := 0) (b := 27) bX8_init (by decide +kernel))
theorem dX8_init_38 : decode cX8_init 38 = .ok (.aload_n 0, 1) := dz_42 (b_1 bX8_init (by decide +kernel))
theorem dX8_init_39 : decode cX8_init 39 = .ok (.new 25, 3) := dz_187 (b_3 (a := 0) (b := 25) bX8_init (by decide +kernel))
theorem dX8_init_42 : decode cX8_init 42 = .ok (.dup, 1) := dz_89 (b_1 bX8_init (by decide +kernel))
theorem dX8_init_43 : decode cX8_init 43 = .ok (.invokespecial 31, 3) := dz_183 (b_3 (a := 0) (b := 31) bX8_init (by decide +kernel))
theorem dX8_init_46 : decode cX8_init 46 = .ok (.putfield 32, 3) := dz_181 (b_3 (a := 0) (b := 32) bX8_init (by decide +kernel))
theorem dX8_init_49 : decode cX8_init 49 = .ok (.aload_n 0, 1) := dz_42 (b_1 bX8_init (by decide +kernel))
theorem dX8_init_50 : decode cX8_init 50 = .ok (.new 25, 3) := dz_187 (b_3 (a := 0) (b := 25) bX8_init (by decide +kernel))
theorem dX8_init_53 : decode cX8_init 53 = .ok (.dup, 1) := dz_89 (b_1 bX8_init (by decide +kernel))
theorem dX8_init_54 : decode cX8_init 54 = .ok (.invokespecial 31, 3) := dz_183 (b_3 (a := 0) (b := 31) bX8_init (by decide +kernel))
theorem dX8_init_57 : decode cX8_init 57 = .ok (.putfield 36, 3) := dz_181 (b_3 (a := 0) (b := 36) bX8_init (by decide +kernel))
theorem dX8_init_60 : decode cX8_init 60 = .ok (.aload_n 0, 1) := dz_42 (b_1 bX8_init (by decide +kernel))
theorem dX8_init_61 : decode cX8_init 61 = .ok (.bipush 30, 2) := dz_16 (b_2 (a := 30) bX8_init (by decide +kernel)) (by decide +kernel)
theorem dX8_init_63 : decode cX8_init 63 = .ok (.anewarray 15, 3) := dz_189 (b_3 (a := 0) (b := 15) bX8_init (by decide +kernel))
theorem dX8_init_66 : decode cX8_init 66 = .ok (.putfield 39, 3) := dz_181 (b_3 (a := 0) (b := 39) bX8_init (by decide +kernel))
theorem dX8_init_69 : decode cX8_init 69 = .ok (.aload_n 0, 1) := dz_42 (b_1 bX8_init (by decide +kernel))
theorem dX8_init_70 : decode cX8_init 70 = .ok (.sipush 450, 3) := dz_17 (b_3 (a := 1) (b := 194) bX8_init (by decide +kernel)) (by decide +kernel)
theorem dX8_init_73 : decode cX8_init 73 = .ok (.anewarray 42, 3) := dz_189 (b_3 (a := 0) (b := 42) bX8_init (by decide +kernel))
theorem dX8_init_76 : decode cX8_init 76 = .ok (.putfield 44, 3) := dz_181 (b_3 (a := 0) (b := 44) bX8_init (by decide +kernel))
theorem dX8_init_79 : decode cX8_init 79 = .ok (.aload_n 0, 1) := dz_42 (b_1 bX8_init (by decide +kernel))
theorem dX8_init_80 : decode cX8_init 80 = .ok (.new 48, 3) := dz_187 (b_3 (a := 0) (b := 48) bX8_init (by decide +kernel))
theorem dX8_init_83 : decode cX8_init 83 = .ok (.dup, 1) := dz_89 (b_1 bX8_init (by decide +kernel))
theorem dX8_init_84 : decode cX8_init 84 = .ok (.invokespecial 50, 3) := dz_183 (b_3 (a := 0) (b := 50) bX8_init (by decide +kernel))
theorem dX8_init_87 : decode cX8_init 87 = .ok (.putfield 51, 3) := dz_181 (b_3 (a := 0) (b := 51) bX8_init (by decide +kernel))
theorem dX8_init_90 : decode cX8_init 90 = .ok (.aload_n 0, 1) := dz_42 (b_1 bX8_init (by decide +kernel))
theorem dX8_init_91 : decode cX8_init 91 = .ok (.new 55, 3) := dz_187 (b_3 (a := 0) (b := 55) bX8_init (by decide +kernel))
theorem dX8_init_94 : decode cX8_init 94 = .ok (.dup, 1) := dz_89 (b_1 bX8_init (by decide +kernel))
theorem dX8_init_95 : decode cX8_init 95 = .ok (.invokespecial 57, 3) := dz_183 (b_3 (a := 0) (b := 57) bX8_init (by decide +kernel))
theorem dX8_init_98 : decode cX8_init 98 = .ok (.putfield 58, 3) := dz_181 (b_3 (a := 0) (b := 58) bX8_init (by decide +kernel))
theorem dX8_init_101 : decode cX8_init 101 = .ok (.iconst 0, 1) := dz_3 (b_1 bX8_init (by decide +kernel))
theorem dX8_init_102 : decode cX8_init 102 = .ok (.istore_n 1, 1) := dz_60 (b_1 bX8_init (by decide +kernel))
theorem dX8_init_103 : decode cX8_init 103 = .ok (.iload_n 1, 1) := dz_27 (b_1 bX8_init (by decide +kernel))
theorem dX8_init_104 : decode cX8_init 104 = .ok (.bipush 30, 2) := dz_16 (b_2 (a := 30) bX8_init (by decide +kernel)) (by decide +kernel)
theorem dX8_init_106 : decode cX8_init 106 = .ok (.if_icmp .ge 22, 3) := dz_162 (b_3 (a := 0) (b := 22) bX8_init (by decide +kernel)) (by decide +kernel)
theorem dX8_init_109 : decode cX8_init 109 = .ok (.aload_n 0, 1) := dz_42 (b_1 bX8_init (by decide +kernel))
theorem dX8_init_110 : decode cX8_init 110 = .ok (.getfield 17, 3) := dz_180 (b_3 (a := 0) (b := 17) bX8_init (by decide +kernel))
theorem dX8_init_113 : decode cX8_init 113 = .ok (.iload_n 1, 1) := dz_27 (b_1 bX8_init (by decide +kernel))
theorem dX8_init_114 : decode cX8_init 114 = .ok (.new 15, 3) := dz_187 (b_3 (a := 0) (b := 15) bX8_init (by decide +kernel))
theorem dX8_init_117 : decode cX8_init 117 = .ok (.dup, 1) := dz_89 (b_1 bX8_init (by decide +kernel))
theorem dX8_init_118 : decode cX8_init 118 = .ok (.invokespecial 62, 3) := dz_183 (b_3 (a := 0) (b := 62) bX8_init (by decide +kernel))
theorem dX8_init_121 : decode cX8_init 121 = .ok (.aastore, 1) := dz_83 (b_1 bX8_init (by decide +kernel))
theorem dX8_init_122 : decode cX8_init 122 = .ok (.iinc 1 1, 3) := dz_132 (b_3 (a := 1) (b := 1) bX8_init (by decide +kernel)) (by decide +kernel)
theorem dX8_init_125 : decode cX8_init 125 = .ok (.goto (-22), 3) := dz_167 (b_3 (a := 255) (b := 234) bX8_init (by decide +kernel)) (by decide +kernel)
theorem dX8_init_128 : decode cX8_init 128 = .ok (.iconst 0, 1) := dz_3 (b_1 bX8_init (by decide +kernel))
theorem dX8_init_129 : decode cX8_init 129 = .ok (.istore_n 1, 1) := dz_60 (b_1 bX8_init (by decide +kernel))
theorem dX8_init_130 : decode cX8_init 130 = .ok (.iload_n 1, 1) := dz_27 (b_1 bX8_init (by decide +kernel))
theorem dX8_init_131 : decode cX8_init 131 = .ok (.bipush 16, 2) := dz_16 (b_2 (a := 16) bX8_init (by decide +kernel)) (by decide +kernel)
theorem dX8_init_133 : decode cX8_init 133 = .ok (.if_icmp .ge 16, 3) := dz_162 (b_3 (a := 0) (b := 16) bX8_init (by decide +kernel)) (by decide +kernel)
theorem dX8_init_136 : decode cX8_init 136 = .ok (.aload_n 0, 1) := dz_42 (b_1 bX8_init (by decide +kernel))
theorem dX8_init_137 : decode cX8_init 137 = .ok (.getfield 21, 3) := dz_180 (b_3 (a := 0) (b := 21) bX8_init (by decide +kernel))
theorem dX8_init_140 : decode cX8_init 140 = .ok (.iload_n 1, 1) := dz_27 (b_1 bX8_init (by decide +kernel))
theorem dX8_init_141 : decode cX8_init 141 = .ok (.iconst 1, 1) := dz_4 (b_1 bX8_init (by decide +kernel))
theorem dX8_init_142 : decode cX8_init 142 = .ok (.bastore, 1) := dz_84 (b_1 bX8_init (by decide +kernel))
theorem dX8_init_143 : decode cX8_init 143 = .ok (.iinc 1 1, 3) := dz_132 (b_3 (a := 1) (b := 1) bX8_init (by decide +kernel)) (by decide +kernel)
theorem dX8_init_146 : decode cX8_init 146 = .ok (.goto (-16), 3) := dz_167 (b_3 (a := 255) (b := 240) bX8_init (by decide +kernel)) (by decide +kernel)
theorem dX8_init_149 : decode cX8_init 149 = .ok (.iconst 0, 1) := dz_3 (b_1 bX8_init (by decide +kernel))
theorem dX8_init_150 : decode cX8_init 150 = .ok (.istore_n 1, 1) := dz_60 (b_1 bX8_init (by decide +kernel))
theorem dX8_init_151 : decode cX8_init 151 = .ok (.iload_n 1, 1) := dz_27 (b_1 bX8_init (by decide +kernel))
theorem dX8_init_152 : decode cX8_init 152 = .ok (.iconst 4, 1) := dz_7 (b_1 bX8_init (by decide +kernel))
theorem dX8_init_153 : decode cX8_init 153 = .ok (.if_icmp .ge 22, 3) := dz_162 (b_3 (a := 0) (b := 22) bX8_init (by decide +kernel)) (by decide +kernel)
theorem dX8_init_156 : decode cX8_init 156 = .ok (.aload_n 0, 1) := dz_42 (b_1 bX8_init (by decide +kernel))
theorem dX8_init_157 : decode cX8_init 157 = .ok (.getfield 27, 3) := dz_180 (b_3 (a := 0) (b := 27) bX8_init (by decide +kernel))
theorem dX8_init_160 : decode cX8_init 160 = .ok (.iload_n 1, 1) := dz_27 (b_1 bX8_init (by decide +kernel))
theorem dX8_init_161 : decode cX8_init 161 = .ok (.new 25, 3) := dz_187 (b_3 (a := 0) (b := 25) bX8_init (by decide +kernel))
theorem dX8_init_164 : decode cX8_init 164 = .ok (.dup, 1) := dz_89 (b_1 bX8_init (by decide +kernel))
theorem dX8_init_165 : decode cX8_init 165 = .ok (.invokespecial 31, 3) := dz_183 (b_3 (a := 0) (b := 31) bX8_init (by decide +kernel))
theorem dX8_init_168 : decode cX8_init 168 = .ok (.aastore, 1) := dz_83 (b_1 bX8_init (by decide +kernel))
theorem dX8_init_169 : decode cX8_init 169 = .ok (.iinc 1 1, 3) := dz_132 (b_3 (a := 1) (b := 1) bX8_init (by decide +kernel)) (by decide +kernel)
theorem dX8_init_172 : decode cX8_init 172 = .ok (.goto (-21), 3) := dz_167 (b_3 (a := 255) (b := 235) bX8_init (by decide +kernel)) (by decide +kernel)
theorem dX8_init_175 : decode cX8_init 175 = .ok (.return_, 1) := dz_177 (b_1 bX8_init (by decide +kernel))
theorem gb_X7_init : wsX7_init.all goodWord = true := by decide +kernel
theorem gj_X8_type_0 : GpS ([.fieldLink RX8 63 "StateRecords" "typeCount" "I", .fieldLink RX8 11 "StateRecords" "types" "[LStateRecords$Type;", .classLink RX8 9 RX7, .instantiable RX7 8, .initialized RX7, .methodLink RX8 67 yX7_init, .instanceMethod yX7_init, .code yX7_init cX7_init 2 none, .methodLink RX7 3 objectInit, .instanceMethod objectInit, .code objectInit ⟨#[0xb1]⟩ 1 none, .arrayClass .int, .fieldLink RX7 9 "StateRecords$Type" "names" "[I", .fieldLink RX7 15 "StateRecords$Type" "lanes" "[I", .arrayClass .long, .fieldLink RX7 18 "StateRecords$Type" "defaults" "[J", .arrayClass .boolean, .fieldLink RX7 22 "StateRecords$Type" "shuts" "[Z", .classLink RX7 26 RX0, .fieldLink RX7 28 "StateRecords$Type" "checks" "[LStateRecords$Check;", .fieldLink RX7 32 "StateRecords$Type" "number" "I"]) wsX8_type := fun w h => List.mem_cons_of_mem _ (List.mem_append_left _ (List.mem_append_left _ (h)))
theorem gj_X8_type_2 : GpS (wsX70) wsX8_type := fun w h => List.mem_cons_of_mem _ (List.mem_append_right _ (h))
set_option maxRecDepth 20000 in
theorem ggX8_type_X7_init : GoodIn wsX8_type wsX7_init := gp_s (gp_c (gj_X8_type_0 _ (gp_4 (gp_1 (gp_1 (gp_1 gp_h))))) (gp_a (gp_c (gj_X8_type_0 _ (gp_4 (gp_4 gp_h))) (gp_c (gj_X8_type_0 _ (gp_4 (gp_4 (gp_1 gp_h)))) (gp_c (gj_X8_type_0 _ (gp_4 (gp_4 (gp_1 (gp_1 gp_h))))) (gp_c (gj_X8_type_0 _ (gp_4 (gp_4 (gp_1 (gp_1 (gp_1 gp_h)))))) (gp_c (gj_X8_type_0 _ (gp_4 (gp_4 (gp_4 gp_h)))) (gp_c (gj_X8_type_0 _ (gp_4 (gp_4 (gp_4 (gp_1 gp_h))))) (gp_c (gj_X8_type_0 _ (gp_4 (gp_4 (gp_4 (gp_1 (gp_1 gp_h)))))) (gp_c (gj_X8_type_0 _ (gp_4 (gp_4 (gp_4 (gp_1 (gp_1 (gp_1 gp_h))))))) (gp_c (gj_X8_type_0 _ (gp_16 gp_h)) (gp_c (gj_X8_type_0 _ (gp_16 (gp_1 gp_h))) (gp_c (gj_X8_type_0 _ (gp_16 (gp_1 (gp_1 gp_h)))) (gp_c (gj_X8_type_0 _ (gp_16 (gp_1 (gp_1 (gp_1 gp_h))))) (gp_c (gj_X8_type_0 _ (gp_16 (gp_4 gp_h))) (gp_n)))))))))))))) (gj_X8_type_2))) gb_X7_init
set_option maxRecDepth 20000 in
theorem gX8_type_X7_init : GoodIn wsX8_type (wsX7_init) := ggX8_type_X7_init
noncomputable def nX8_type : Nat := 0xac64043f00b42a3f00b560043f00b4592a534300b73f00b42a590900bb3f00b42a0b00b42aacfc100600a108103f00b42a
theorem bX8_type : Bts cX8_type nX8_type 49 := by unfold Bts; decide +kernel
theorem dX8_type_0 : decode cX8_type 0 = .ok (.aload_n 0, 1) := dz_42 (b_1 bX8_type (by decide +kernel))
theorem dX8_type_1 : decode cX8_type 1 = .ok (.getfield 63, 3) := dz_180 (b_3 (a := 0) (b := 63) bX8_type (by decide +kernel))
theorem dX8_type_4 : decode cX8_type 4 = .ok (.bipush 8, 2) := dz_16 (b_2 (a := 8) bX8_type (by decide +kernel)) (by decide +kernel)
theorem dX8_type_6 : decode cX8_type 6 = .ok (.if_icmp .lt 6, 3) := dz_161 (b_3 (a := 0) (b := 6) bX8_type (by decide +kernel)) (by decide +kernel)
theorem dX8_type_9 : decode cX8_type 9 = .ok (.bipush (-4), 2) := dz_16 (b_2 (a := 252) bX8_type (by decide +kernel)) (by decide +kernel)
theorem dX8_type_11 : decode cX8_type 11 = .ok (.ireturn, 1) := dz_172 (b_1 bX8_type (by decide +kernel))
theorem dX8_type_12 : decode cX8_type 12 = .ok (.aload_n 0, 1) := dz_42 (b_1 bX8_type (by decide +kernel))
theorem dX8_type_13 : decode cX8_type 13 = .ok (.getfield 11, 3) := dz_180 (b_3 (a := 0) (b := 11) bX8_type (by decide +kernel))
theorem dX8_type_16 : decode cX8_type 16 = .ok (.aload_n 0, 1) := dz_42 (b_1 bX8_type (by decide +kernel))
theorem dX8_type_17 : decode cX8_type 17 = .ok (.getfield 63, 3) := dz_180 (b_3 (a := 0) (b := 63) bX8_type (by decide +kernel))
theorem dX8_type_20 : decode cX8_type 20 = .ok (.new 9, 3) := dz_187 (b_3 (a := 0) (b := 9) bX8_type (by decide +kernel))
theorem dX8_type_23 : decode cX8_type 23 = .ok (.dup, 1) := dz_89 (b_1 bX8_type (by decide +kernel))
theorem dX8_type_24 : decode cX8_type 24 = .ok (.aload_n 0, 1) := dz_42 (b_1 bX8_type (by decide +kernel))
theorem dX8_type_25 : decode cX8_type 25 = .ok (.getfield 63, 3) := dz_180 (b_3 (a := 0) (b := 63) bX8_type (by decide +kernel))
theorem dX8_type_28 : decode cX8_type 28 = .ok (.invokespecial 67, 3) := dz_183 (b_3 (a := 0) (b := 67) bX8_type (by decide +kernel))
theorem dX8_type_31 : decode cX8_type 31 = .ok (.aastore, 1) := dz_83 (b_1 bX8_type (by decide +kernel))
theorem dX8_type_32 : decode cX8_type 32 = .ok (.aload_n 0, 1) := dz_42 (b_1 bX8_type (by decide +kernel))
theorem dX8_type_33 : decode cX8_type 33 = .ok (.dup, 1) := dz_89 (b_1 bX8_type (by decide +kernel))
theorem dX8_type_34 : decode cX8_type 34 = .ok (.getfield 63, 3) := dz_180 (b_3 (a := 0) (b := 63) bX8_type (by decide +kernel))
theorem dX8_type_37 : decode cX8_type 37 = .ok (.iconst 1, 1) := dz_4 (b_1 bX8_type (by decide +kernel))
theorem dX8_type_38 : decode cX8_type 38 = .ok (.iadd, 1) := dz_96 (b_1 bX8_type (by decide +kernel))
theorem dX8_type_39 : decode cX8_type 39 = .ok (.putfield 63, 3) := dz_181 (b_3 (a := 0) (b := 63) bX8_type (by decide +kernel))
theorem dX8_type_42 : decode cX8_type 42 = .ok (.aload_n 0, 1) := dz_42 (b_1 bX8_type (by decide +kernel))
theorem dX8_type_43 : decode cX8_type 43 = .ok (.getfield 63, 3) := dz_180 (b_3 (a := 0) (b := 63) bX8_type (by decide +kernel))
theorem dX8_type_46 : decode cX8_type 46 = .ok (.iconst 1, 1) := dz_4 (b_1 bX8_type (by decide +kernel))
theorem dX8_type_47 : decode cX8_type 47 = .ok (.isub, 1) := dz_100 (b_1 bX8_type (by decide +kernel))
theorem dX8_type_48 : decode cX8_type 48 = .ok (.ireturn, 1) := dz_172 (b_1 bX8_type (by decide +kernel))
theorem gb_X8_typeNumbered : wsX8_typeNumbered.all goodWord = true := by decide +kernel
theorem gj_X8_field_0 : GpS (wsX8_field_r1) wsX8_field := fun w h => List.mem_cons_of_mem _ (List.mem_append_left _ (List.mem_append_left _ (List.mem_append_left _ (List.mem_append_left _ (List.mem_append_left _ (h))))))
theorem gj_X8_field_2 : GpS (wsX80) wsX8_field := fun w h => List.mem_cons_of_mem _ (List.mem_append_left _ (List.mem_append_left _ (List.mem_append_left _ (List.mem_append_right _ (h)))))
set_option maxRecDepth 20000 in
theorem ggX8_field_X8_typeNumbered : GoodIn wsX8_field wsX8_typeNumbered := gp_s (gp_c (gj_X8_field_0 _ (gp_4 (gp_4 (gp_1 (gp_1 (gp_1 gp_h)))))) (gp_a (gp_c (gj_X8_field_0 _ (gp_4 (gp_4 (gp_4 gp_h)))) (gp_c (gj_X8_field_0 _ (gp_4 (gp_4 (gp_4 (gp_1 gp_h))))) (gp_c (gj_X8_field_0 _ (gp_4 (gp_4 (gp_4 (gp_1 (gp_1 gp_h)))))) (gp_c (gj_X8_field_0 _ (gp_4 (gp_4 (gp_4 (gp_1 (gp_1 (gp_1 gp_h))))))) (gp_c (gj_X8_field_0 _ (gp_4 (gp_4 (gp_1 (gp_1 gp_h))))) (gp_c (gj_X8_field_0 _ (gp_16 gp_h)) (gp_n))))))) (gj_X8_field_2))) gb_X8_typeNumbered
set_option maxRecDepth 20000 in
theorem gX8_field_X8_typeNumbered : GoodIn wsX8_field (wsV RX8 70 RX8 yX8_typeNumbered wsX8_typeNumbered) := goodIn_app (gp_s (gp_c (gj_X8_field_0 _ (gp_4 (gp_1 (gp_1 (gp_1 gp_h))))) (gp_c (gj_X8_field_0 _ (gp_4 (gp_4 gp_h))) (gp_c (gj_X8_field_0 _ (gp_4 (gp_4 (gp_1 gp_h)))) (gp_c (gj_X8_field_0 _ (gp_4 (gp_4 (gp_1 (gp_1 gp_h))))) (gp_n))))) (gp_v)) ggX8_field_X8_typeNumbered
set_option maxRecDepth 20000 in
theorem ggX8_field_X8_isBelow : GoodIn wsX8_field wsX8_isBelow := gp_s (gp_c (gj_X8_field_0 _ (gp_16 gp_h)) (gp_n)) gb_X8_isBelow
set_option maxRecDepth 20000 in
theorem gX8_field_X8_isBelow : GoodIn wsX8_field (va_wsS RX8 74 yX8_isBelow wsX8_isBelow) := goodIn_app (gp_s (gp_c (gj_X8_field_0 _ (gp_4 (gp_4 (gp_4 (gp_1 (gp_1 gp_h)))))) (gp_c (gj_X8_field_0 _ (gp_4 (gp_4 (gp_4 (gp_1 (gp_1 (gp_1 gp_h))))))) (gp_c (gj_X8_field_0 _ (gp_4 (gp_4 (gp_1 (gp_1 gp_h))))) (gp_n)))) (gp_t)) ggX8_field_X8_isBelow
theorem gb_X7_fieldNamed : wsX7_fieldNamed.all goodWord = true := by decide +kernel
theorem gj_X8_field_4 : GpS (wsX70) wsX8_field := fun w h => List.mem_cons_of_mem _ (List.mem_append_left _ (List.mem_append_right _ (h)))
set_option maxRecDepth 20000 in
theorem ggX8_field_X7_fieldNamed : GoodIn wsX8_field wsX7_fieldNamed := gp_s (gp_c (gj_X8_field_0 _ (gp_16 (gp_4 (gp_1 gp_h)))) (gp_a (gp_c (gj_X8_field_0 _ (gp_16 (gp_4 (gp_1 (gp_1 gp_h))))) (gp_c (gj_X8_field_0 _ (gp_16 (gp_4 (gp_1 (gp_1 (gp_1 gp_h)))))) (gp_n))) (gj_X8_field_4))) gb_X7_fieldNamed
set_option maxRecDepth 20000 in
theorem gX8_field_X7_fieldNamed : GoodIn wsX8_field (wsV RX8 78 RX7 yX7_fieldNamed wsX7_fieldNamed) := goodIn_app (gp_s (gp_c (gj_X8_field_0 _ (gp_16 (gp_1 gp_h))) (gp_c (gj_X8_field_0 _ (gp_16 (gp_1 (gp_1 gp_h)))) (gp_c (gj_X8_field_0 _ (gp_16 (gp_1 (gp_1 (gp_1 gp_h))))) (gp_c (gj_X8_field_0 _ (gp_16 (gp_4 gp_h))) (gp_n))))) (gp_v)) ggX8_field_X7_fieldNamed
theorem gb_X7_addField : wsX7_addField.all goodWord = true := by decide +kernel
theorem gj_X8_field_1 : GpS (wsX8_field_r2) wsX8_field := fun w h => List.mem_cons_of_mem _ (List.mem_append_left _ (List.mem_append_left _ (List.mem_append_left _ (List.mem_append_left _ (List.mem_append_right _ (h))))))
set_option maxRecDepth 20000 in
theorem ggX8_field_X7_addField : GoodIn wsX8_field wsX7_addField := gp_s (gp_c (gj_X8_field_1 _ (gp_1 (gp_1 (gp_1 gp_h)))) (gp_a (gp_c (gj_X8_field_0 _ (gp_16 (gp_4 (gp_1 (gp_1 gp_h))))) (gp_c (gj_X8_field_0 _ (gp_16 (gp_4 (gp_1 (gp_1 (gp_1 gp_h)))))) (gp_c (gj_X8_field_1 _ (gp_4 gp_h)) (gp_c (gj_X8_field_1 _ (gp_4 (gp_1 gp_h))) (gp_c (gj_X8_field_1 _ (gp_4 (gp_1 (gp_1 gp_h)))) (gp_n)))))) (gj_X8_field_4))) gb_X7_addField
set_option maxRecDepth 20000 in
theorem gX8_field_X7_addField : GoodIn wsX8_field (wsV RX8 90 RX7 yX7_addField wsX7_addField) := goodIn_app (gp_s (gp_c (gj_X8_field_1 _ (gp_h)) (gp_c (gj_X8_field_1 _ (gp_1 gp_h)) (gp_c (gj_X8_field_1 _ (gp_1 (gp_1 gp_h))) (gp_c (gj_X8_field_0 _ (gp_16 (gp_4 gp_h))) (gp_n))))) (gp_v)) ggX8_field_X7_addField
theorem gj_X8_field_5 : GpS (wsX60) wsX8_field := fun w h => List.mem_cons_of_mem _ (List.mem_append_right _ (h))
set_option maxRecDepth 20000 in
theorem ggX8_field_X6_setDefault : GoodIn wsX8_field wsX6_setDefault := gp_s (gp_c (gj_X8_field_1 _ (gp_4 (gp_4 (gp_1 (gp_1 (gp_1 gp_h)))))) (gp_a (gp_a (gp_c (gj_X8_field_1 _ (gp_4 (gp_4 (gp_4 gp_h)))) (gp_c (gj_X8_field_1 _ (gp_4 (gp_4 (gp_4 (gp_1 gp_h))))) (gp_c (gj_X8_field_1 _ (gp_4 (gp_4 (gp_4 (gp_1 (gp_1 gp_h)))))) (gp_c (gj_X8_field_1 _ (gp_4 (gp_4 (gp_4 (gp_1 (gp_1 (gp_1 gp_h))))))) (gp_n))))) (gj_X8_field_5)) (gj_X8_field_4))) gb_X6_setDefault
set_option maxRecDepth 20000 in
theorem gX8_field_X6_setDefault : GoodIn wsX8_field (wsV RX8 101 RX6 yX6_setDefault wsX6_setDefault) := goodIn_app (gp_s (gp_c (gj_X8_field_1 _ (gp_4 (gp_1 (gp_1 (gp_1 gp_h))))) (gp_c (gj_X8_field_1 _ (gp_4 (gp_4 gp_h))) (gp_c (gj_X8_field_1 _ (gp_4 (gp_4 (gp_1 gp_h)))) (gp_c (gj_X8_field_1 _ (gp_4 (gp_4 (gp_1 (gp_1 gp_h))))) (gp_n))))) (gp_v)) ggX8_field_X6_setDefault
noncomputable def nX8_field : Nat := 0xac0715d9ffa70108846500b607153208151100b42a0f00a606196100b43208151100b42a2400a25e00b42a081508360307365a00b65800140600a7041608009a1d1d1c0619acfc100600a1085500b40619acfd1006009e5200b43300b42aacfe1006009a4a00b806101d0c00a0024e00b61c06191600994a00b814101cac020500c70619063a4600b61b2a
theorem bX8_field : Bts cX8_field nX8_field 139 := by unfold Bts; decide +kernel
theorem dX8_field_0 : decode cX8_field 0 = .ok (.aload_n 0, 1) := dz_42 (b_1 bX8_field (by decide +kernel))
theorem dX8_field_1 : decode cX8_field 1 = .ok (.iload_n 1, 1) := dz_27 (b_1 bX8_field (by decide +kernel))
theorem dX8_field_2 : decode cX8_field 2 = .ok (.invokevirtual 70, 3) := dz_182 (b_3 (a := 0) (b := 70) bX8_field (by decide +kernel))
theorem dX8_field_5 : decode cX8_field 5 = .ok (.astore 6, 2) := dz_58 (b_2 (a := 6) bX8_field (by decide +kernel))
theorem dX8_field_7 : decode cX8_field 7 = .ok (.aload 6, 2) := dz_25 (b_2 (a := 6) bX8_field (by decide +kernel))
theorem dX8_field_9 : decode cX8_field 9 = .ok (.ifnonnull 5, 3) := dz_199 (b_3 (a := 0) (b := 5) bX8_field (by decide +kernel)) (by decide +kernel)
theorem dX8_field_12 : decode cX8_field 12 = .ok (.iconst (-1), 1) := dz_2 (b_1 bX8_field (by decide +kernel))
theorem dX8_field_13 : decode cX8_field 13 = .ok (.ireturn, 1) := dz_172 (b_1 bX8_field (by decide +kernel))
theorem dX8_field_14 : decode cX8_field 14 = .ok (.iload_n 2, 1) := dz_28 (b_1 bX8_field (by decide +kernel))
theorem dX8_field_15 : decode cX8_field 15 = .ok (.bipush 20, 2) := dz_16 (b_2 (a := 20) bX8_field (by decide +kernel)) (by decide +kernel)
theorem dX8_field_17 : decode cX8_field 17 = .ok (.invokestatic 74, 3) := dz_184 (b_3 (a := 0) (b := 74) bX8_field (by decide +kernel))
theorem dX8_field_20 : decode cX8_field 20 = .ok (.ifCond .eq 22, 3) := dz_153 (b_3 (a := 0) (b := 22) bX8_field (by decide +kernel)) (by decide +kernel)
theorem dX8_field_23 : decode cX8_field 23 = .ok (.aload 6, 2) := dz_25 (b_2 (a := 6) bX8_field (by decide +kernel))
theorem dX8_field_25 : decode cX8_field 25 = .ok (.iload_n 2, 1) := dz_28 (b_1 bX8_field (by decide +kernel))
theorem dX8_field_26 : decode cX8_field 26 = .ok (.invokevirtual 78, 3) := dz_182 (b_3 (a := 0) (b := 78) bX8_field (by decide +kernel))
theorem dX8_field_29 : decode cX8_field 29 = .ok (.iconst (-1), 1) := dz_2 (b_1 bX8_field (by decide +kernel))
theorem dX8_field_30 : decode cX8_field 30 = .ok (.if_icmp .ne 12, 3) := dz_160 (b_3 (a := 0) (b := 12) bX8_field (by decide +kernel)) (by decide +kernel)
theorem dX8_field_33 : decode cX8_field 33 = .ok (.iload_n 3, 1) := dz_29 (b_1 bX8_field (by decide +kernel))
theorem dX8_field_34 : decode cX8_field 34 = .ok (.bipush 6, 2) := dz_16 (b_2 (a := 6) bX8_field (by decide +kernel)) (by decide +kernel)
theorem dX8_field_36 : decode cX8_field 36 = .ok (.invokestatic 74, 3) := dz_184 (b_3 (a := 0) (b := 74) bX8_field (by decide +kernel))
theorem dX8_field_39 : decode cX8_field 39 = .ok (.ifCond .ne 6, 3) := dz_154 (b_3 (a := 0) (b := 6) bX8_field (by decide +kernel)) (by decide +kernel)
theorem dX8_field_42 : decode cX8_field 42 = .ok (.bipush (-2), 2) := dz_16 (b_2 (a := 254) bX8_field (by decide +kernel)) (by decide +kernel)
theorem dX8_field_44 : decode cX8_field 44 = .ok (.ireturn, 1) := dz_172 (b_1 bX8_field (by decide +kernel))
theorem dX8_field_45 : decode cX8_field 45 = .ok (.aload_n 0, 1) := dz_42 (b_1 bX8_field (by decide +kernel))
theorem dX8_field_46 : decode cX8_field 46 = .ok (.getfield 51, 3) := dz_180 (b_3 (a := 0) (b := 51) bX8_field (by decide +kernel))
theorem dX8_field_49 : decode cX8_field 49 = .ok (.getfield 82, 3) := dz_180 (b_3 (a := 0) (b := 82) bX8_field (by decide +kernel))
theorem dX8_field_52 : decode cX8_field 52 = .ok (.ifCond .le 6, 3) := dz_158 (b_3 (a := 0) (b := 6) bX8_field (by decide +kernel)) (by decide +kernel)
theorem dX8_field_55 : decode cX8_field 55 = .ok (.bipush (-3), 2) := dz_16 (b_2 (a := 253) bX8_field (by decide +kernel)) (by decide +kernel)
theorem dX8_field_57 : decode cX8_field 57 = .ok (.ireturn, 1) := dz_172 (b_1 bX8_field (by decide +kernel))
theorem dX8_field_58 : decode cX8_field 58 = .ok (.aload 6, 2) := dz_25 (b_2 (a := 6) bX8_field (by decide +kernel))
theorem dX8_field_60 : decode cX8_field 60 = .ok (.getfield 85, 3) := dz_180 (b_3 (a := 0) (b := 85) bX8_field (by decide +kernel))
theorem dX8_field_63 : decode cX8_field 63 = .ok (.iconst 5, 1) := dz_8 (b_1 bX8_field (by decide +kernel))
theorem dX8_field_64 : decode cX8_field 64 = .ok (.if_icmp .lt 6, 3) := dz_161 (b_3 (a := 0) (b := 6) bX8_field (by decide +kernel)) (by decide +kernel)
theorem dX8_field_67 : decode cX8_field 67 = .ok (.bipush (-4), 2) := dz_16 (b_2 (a := 252) bX8_field (by decide +kernel)) (by decide +kernel)
theorem dX8_field_69 : decode cX8_field 69 = .ok (.ireturn, 1) := dz_172 (b_1 bX8_field (by decide +kernel))
theorem dX8_field_70 : decode cX8_field 70 = .ok (.aload 6, 2) := dz_25 (b_2 (a := 6) bX8_field (by decide +kernel))
theorem dX8_field_72 : decode cX8_field 72 = .ok (.iload_n 2, 1) := dz_28 (b_1 bX8_field (by decide +kernel))
theorem dX8_field_73 : decode cX8_field 73 = .ok (.iload_n 3, 1) := dz_29 (b_1 bX8_field (by decide +kernel))
theorem dX8_field_74 : decode cX8_field 74 = .ok (.iload_n 3, 1) := dz_29 (b_1 bX8_field (by decide +kernel))
theorem dX8_field_75 : decode cX8_field 75 = .ok (.ifCond .ne 8, 3) := dz_154 (b_3 (a := 0) (b := 8) bX8_field (by decide +kernel)) (by decide +kernel)
theorem dX8_field_78 : decode cX8_field 78 = .ok (.lload 4, 2) := dz_22 (b_2 (a := 4) bX8_field (by decide +kernel))
theorem dX8_field_80 : decode cX8_field 80 = .ok (.goto 6, 3) := dz_167 (b_3 (a := 0) (b := 6) bX8_field (by decide +kernel)) (by decide +kernel)
theorem dX8_field_83 : decode cX8_field 83 = .ok (.ldc2_w 88, 3) := dz_20 (b_3 (a := 0) (b := 88) bX8_field (by decide +kernel))
theorem dX8_field_86 : decode cX8_field 86 = .ok (.invokevirtual 90, 3) := dz_182 (b_3 (a := 0) (b := 90) bX8_field (by decide +kernel))
theorem dX8_field_89 : decode cX8_field 89 = .ok (.istore 7, 2) := dz_54 (b_2 (a := 7) bX8_field (by decide +kernel))
theorem dX8_field_91 : decode cX8_field 91 = .ok (.iconst 0, 1) := dz_3 (b_1 bX8_field (by decide +kernel))
theorem dX8_field_92 : decode cX8_field 92 = .ok (.istore 8, 2) := dz_54 (b_2 (a := 8) bX8_field (by decide +kernel))
theorem dX8_field_94 : decode cX8_field 94 = .ok (.iload 8, 2) := dz_21 (b_2 (a := 8) bX8_field (by decide +kernel))
theorem dX8_field_96 : decode cX8_field 96 = .ok (.aload_n 0, 1) := dz_42 (b_1 bX8_field (by decide +kernel))
theorem dX8_field_97 : decode cX8_field 97 = .ok (.getfield 94, 3) := dz_180 (b_3 (a := 0) (b := 94) bX8_field (by decide +kernel))
theorem dX8_field_100 : decode cX8_field 100 = .ok (.if_icmp .ge 36, 3) := dz_162 (b_3 (a := 0) (b := 36) bX8_field (by decide +kernel)) (by decide +kernel)
theorem dX8_field_103 : decode cX8_field 103 = .ok (.aload_n 0, 1) := dz_42 (b_1 bX8_field (by decide +kernel))
theorem dX8_field_104 : decode cX8_field 104 = .ok (.getfield 17, 3) := dz_180 (b_3 (a := 0) (b := 17) bX8_field (by decide +kernel))
theorem dX8_field_107 : decode cX8_field 107 = .ok (.iload 8, 2) := dz_21 (b_2 (a := 8) bX8_field (by decide +kernel))
theorem dX8_field_109 : decode cX8_field 109 = .ok (.aaload, 1) := dz_50 (b_1 bX8_field (by decide +kernel))
theorem dX8_field_110 : decode cX8_field 110 = .ok (.getfield 97, 3) := dz_180 (b_3 (a := 0) (b := 97) bX8_field (by decide +kernel))
theorem dX8_field_113 : decode cX8_field 113 = .ok (.aload 6, 2) := dz_25 (b_2 (a := 6) bX8_field (by decide +kernel))
theorem dX8_field_115 : decode cX8_field 115 = .ok (.if_acmp .ne 15, 3) := dz_166 (b_3 (a := 0) (b := 15) bX8_field (by decide +kernel)) (by decide +kernel)
theorem dX8_field_118 : decode cX8_field 118 = .ok (.aload_n 0, 1) := dz_42 (b_1 bX8_field (by decide +kernel))
theorem dX8_field_119 : decode cX8_field 119 = .ok (.getfield 17, 3) := dz_180 (b_3 (a := 0) (b := 17) bX8_field (by decide +kernel))
theorem dX8_field_122 : decode cX8_field 122 = .ok (.iload 8, 2) := dz_21 (b_2 (a := 8) bX8_field (by decide +kernel))
theorem dX8_field_124 : decode cX8_field 124 = .ok (.aaload, 1) := dz_50 (b_1 bX8_field (by decide +kernel))
theorem dX8_field_125 : decode cX8_field 125 = .ok (.iload 7, 2) := dz_21 (b_2 (a := 7) bX8_field (by decide +kernel))
theorem dX8_field_127 : decode cX8_field 127 = .ok (.invokevirtual 101, 3) := dz_182 (b_3 (a := 0) (b := 101) bX8_field (by decide +kernel))
theorem dX8_field_130 : decode cX8_field 130 = .ok (.iinc 8 1, 3) := dz_132 (b_3 (a := 8) (b := 1) bX8_field (by decide +kernel)) (by decide +kernel)
theorem dX8_field_133 : decode cX8_field 133 = .ok (.goto (-39), 3) := dz_167 (b_3 (a := 255) (b := 217) bX8_field (by decide +kernel)) (by decide +kernel)
theorem dX8_field_136 : decode cX8_field 136 = .ok (.iload 7, 2) := dz_21 (b_2 (a := 7) bX8_field (by decide +kernel))
theorem dX8_field_138 : decode cX8_field 138 = .ok (.ireturn, 1) := dz_172 (b_1 bX8_field (by decide +kernel))
theorem gj_X8_drop_0 : GpS (wsX8_drop_r1) wsX8_drop := fun w h => List.mem_cons_of_mem _ (List.mem_append_left _ (List.mem_append_left _ (List.mem_append_left _ (List.mem_append_left _ (List.mem_append_left _ (h))))))
theorem gj_X8_drop_2 : GpS (wsX80) wsX8_drop := fun w h => List.mem_cons_of_mem _ (List.mem_append_left _ (List.mem_append_left _ (List.mem_append_left _ (List.mem_append_right _ (h)))))
set_option maxRecDepth 20000 in
theorem ggX8_drop_X8_typeNumbered : GoodIn wsX8_drop wsX8_typeNumbered := gp_s (gp_c (gj_X8_drop_0 _ (gp_4 (gp_4 (gp_1 (gp_1 gp_h))))) (gp_a (gp_c (gj_X8_drop_0 _ (gp_4 (gp_4 (gp_1 (gp_1 (gp_1 gp_h)))))) (gp_c (gj_X8_drop_0 _ (gp_4 (gp_4 (gp_4 gp_h)))) (gp_c (gj_X8_drop_0 _ (gp_4 (gp_4 (gp_4 (gp_1 gp_h))))) (gp_c (gj_X8_drop_0 _ (gp_4 (gp_4 (gp_4 (gp_1 (gp_1 gp_h)))))) (gp_c (gj_X8_drop_0 _ (gp_4 (gp_4 (gp_1 gp_h)))) (gp_c (gj_X8_drop_0 _ (gp_4 (gp_4 (gp_4 (gp_1 (gp_1 (gp_1 gp_h))))))) (gp_n))))))) (gj_X8_drop_2))) gb_X8_typeNumbered
set_option maxRecDepth 20000 in
theorem gX8_drop_X8_typeNumbered : GoodIn wsX8_drop (wsV RX8 70 RX8 yX8_typeNumbered wsX8_typeNumbered) := goodIn_app (gp_s (gp_c (gj_X8_drop_0 _ (gp_4 (gp_1 (gp_1 gp_h)))) (gp_c (gj_X8_drop_0 _ (gp_4 (gp_1 (gp_1 (gp_1 gp_h))))) (gp_c (gj_X8_drop_0 _ (gp_4 (gp_4 gp_h))) (gp_c (gj_X8_drop_0 _ (gp_4 (gp_4 (gp_1 gp_h)))) (gp_n))))) (gp_v)) ggX8_drop_X8_typeNumbered
theorem gj_X8_drop_5 : GpS (wsX70) wsX8_drop := fun w h => List.mem_cons_of_mem _ (List.mem_append_right _ (h))
set_option maxRecDepth 20000 in
theorem ggX8_drop_X7_hasField : GoodIn wsX8_drop wsX7_hasField := gp_s (gp_c (gj_X8_drop_0 _ (gp_16 (gp_4 gp_h))) (gp_a (gp_c (gj_X8_drop_0 _ (gp_16 (gp_4 (gp_1 gp_h)))) (gp_c (gj_X8_drop_0 _ (gp_4 (gp_4 (gp_4 (gp_1 (gp_1 gp_h)))))) (gp_c (gj_X8_drop_0 _ (gp_4 (gp_4 (gp_1 gp_h)))) (gp_c (gj_X8_drop_0 _ (gp_4 (gp_4 (gp_4 (gp_1 (gp_1 (gp_1 gp_h))))))) (gp_n))))) (gj_X8_drop_5))) gb_X7_hasField
set_option maxRecDepth 20000 in
theorem gX8_drop_X7_hasField : GoodIn wsX8_drop (wsV RX8 104 RX7 yX7_hasField wsX7_hasField) := goodIn_app (gp_s (gp_c (gj_X8_drop_0 _ (gp_16 gp_h)) (gp_c (gj_X8_drop_0 _ (gp_16 (gp_1 gp_h))) (gp_c (gj_X8_drop_0 _ (gp_16 (gp_1 (gp_1 gp_h)))) (gp_c (gj_X8_drop_0 _ (gp_16 (gp_1 (gp_1 (gp_1 gp_h))))) (gp_n))))) (gp_v)) ggX8_drop_X7_hasField
theorem gb_X7_removeField : wsX7_removeField.all goodWord = true := by decide +kernel
theorem gj_X8_drop_1 : GpS (wsX8_drop_r2) wsX8_drop := fun w h => List.mem_cons_of_mem _ (List.mem_append_left _ (List.mem_append_left _ (List.mem_append_left _ (List.mem_append_left _ (List.mem_append_right _ (h))))))
set_option maxRecDepth 20000 in
theorem ggX8_drop_X7_removeField : GoodIn wsX8_drop wsX7_removeField := gp_s (gp_c (gj_X8_drop_1 _ (gp_1 gp_h)) (gp_a (gp_c (gj_X8_drop_0 _ (gp_16 (gp_4 (gp_1 gp_h)))) (gp_c (gj_X8_drop_1 _ (gp_1 (gp_1 gp_h))) (gp_c (gj_X8_drop_1 _ (gp_1 (gp_1 (gp_1 gp_h)))) (gp_c (gj_X8_drop_1 _ (gp_4 gp_h)) (gp_c (gj_X8_drop_1 _ (gp_4 (gp_1 gp_h))) (gp_n)))))) (gj_X8_drop_5))) gb_X7_removeField
set_option maxRecDepth 20000 in
theorem gX8_drop_X7_removeField : GoodIn wsX8_drop (wsV RX8 108 RX7 yX7_removeField wsX7_removeField) := goodIn_app (gp_s (gp_c (gj_X8_drop_0 _ (gp_16 (gp_4 (gp_1 (gp_1 gp_h))))) (gp_c (gj_X8_drop_0 _ (gp_16 (gp_4 (gp_1 (gp_1 (gp_1 gp_h)))))) (gp_c (gj_X8_drop_1 _ (gp_h)) (gp_c (gj_X8_drop_0 _ (gp_16 (gp_1 (gp_1 (gp_1 gp_h))))) (gp_n))))) (gp_v)) ggX8_drop_X7_removeField
theorem gb_X6_removeField : wsX6_removeField.all goodWord = true := by decide +kernel
theorem gj_X8_drop_4 : GpS (wsX60) wsX8_drop := fun w h => List.mem_cons_of_mem _ (List.mem_append_left _ (List.mem_append_right _ (h)))
set_option maxRecDepth 20000 in
theorem ggX8_drop_X6_removeField : GoodIn wsX8_drop wsX6_removeField := gp_s (gp_c (gj_X8_drop_1 _ (gp_4 (gp_4 (gp_1 (gp_1 gp_h))))) (gp_a (gp_c (gj_X8_drop_1 _ (gp_4 (gp_4 (gp_1 (gp_1 (gp_1 gp_h)))))) (gp_c (gj_X8_drop_1 _ (gp_4 (gp_4 (gp_4 gp_h)))) (gp_n))) (gj_X8_drop_4))) gb_X6_removeField
set_option maxRecDepth 20000 in
theorem gX8_drop_X6_removeField : GoodIn wsX8_drop (wsV RX8 111 RX6 yX6_removeField wsX6_removeField) := goodIn_app (gp_s (gp_c (gj_X8_drop_1 _ (gp_4 (gp_1 (gp_1 gp_h)))) (gp_c (gj_X8_drop_1 _ (gp_4 (gp_1 (gp_1 (gp_1 gp_h))))) (gp_c (gj_X8_drop_1 _ (gp_4 (gp_4 gp_h))) (gp_c (gj_X8_drop_1 _ (gp_4 (gp_4 (gp_1 gp_h)))) (gp_n))))) (gp_v)) ggX8_drop_X6_removeField
noncomputable def nX8_drop : Nat := 0xac5500b42ddbffa70104846f00b61c3204151100b42a0e00a62d6100b43204151100b42a2200a25e00b42a04150436036c00b61c2dacfd1006009e5200b43300b42aac0205009a6800b61c2d0b00c62d4e4600b61b2a
theorem bX8_drop : Bts cX8_drop nX8_drop 86 := by unfold Bts; decide +kernel
theorem dX8_drop_0 : decode cX8_drop 0 = .ok (.aload_n 0, 1) := dz_42 (b_1 bX8_drop (by decide +kernel))
theorem dX8_drop_1 : decode cX8_drop 1 = .ok (.iload_n 1, 1) := dz_27 (b_1 bX8_drop (by decide +kernel))
theorem dX8_drop_2 : decode cX8_drop 2 = .ok (.invokevirtual 70, 3) := dz_182 (b_3 (a := 0) (b := 70) bX8_drop (by decide +kernel))
theorem dX8_drop_5 : decode cX8_drop 5 = .ok (.astore_n 3, 1) := dz_78 (b_1 bX8_drop (by decide +kernel))
theorem dX8_drop_6 : decode cX8_drop 6 = .ok (.aload_n 3, 1) := dz_45 (b_1 bX8_drop (by decide +kernel))
theorem dX8_drop_7 : decode cX8_drop 7 = .ok (.ifnull 11, 3) := dz_198 (b_3 (a := 0) (b := 11) bX8_drop (by decide +kernel)) (by decide +kernel)
theorem dX8_drop_10 : decode cX8_drop 10 = .ok (.aload_n 3, 1) := dz_45 (b_1 bX8_drop (by decide +kernel))
theorem dX8_drop_11 : decode cX8_drop 11 = .ok (.iload_n 2, 1) := dz_28 (b_1 bX8_drop (by decide +kernel))
theorem dX8_drop_12 : decode cX8_drop 12 = .ok (.invokevirtual 104, 3) := dz_182 (b_3 (a := 0) (b := 104) bX8_drop (by decide +kernel))
theorem dX8_drop_15 : decode cX8_drop 15 = .ok (.ifCond .ne 5, 3) := dz_154 (b_3 (a := 0) (b := 5) bX8_drop (by decide +kernel)) (by decide +kernel)
theorem dX8_drop_18 : decode cX8_drop 18 = .ok (.iconst (-1), 1) := dz_2 (b_1 bX8_drop (by decide +kernel))
theorem dX8_drop_19 : decode cX8_drop 19 = .ok (.ireturn, 1) := dz_172 (b_1 bX8_drop (by decide +kernel))
theorem dX8_drop_20 : decode cX8_drop 20 = .ok (.aload_n 0, 1) := dz_42 (b_1 bX8_drop (by decide +kernel))
theorem dX8_drop_21 : decode cX8_drop 21 = .ok (.getfield 51, 3) := dz_180 (b_3 (a := 0) (b := 51) bX8_drop (by decide +kernel))
theorem dX8_drop_24 : decode cX8_drop 24 = .ok (.getfield 82, 3) := dz_180 (b_3 (a := 0) (b := 82) bX8_drop (by decide +kernel))
theorem dX8_drop_27 : decode cX8_drop 27 = .ok (.ifCond .le 6, 3) := dz_158 (b_3 (a := 0) (b := 6) bX8_drop (by decide +kernel)) (by decide +kernel)
theorem dX8_drop_30 : decode cX8_drop 30 = .ok (.bipush (-3), 2) := dz_16 (b_2 (a := 253) bX8_drop (by decide +kernel)) (by decide +kernel)
theorem dX8_drop_32 : decode cX8_drop 32 = .ok (.ireturn, 1) := dz_172 (b_1 bX8_drop (by decide +kernel))
theorem dX8_drop_33 : decode cX8_drop 33 = .ok (.aload_n 3, 1) := dz_45 (b_1 bX8_drop (by decide +kernel))
theorem dX8_drop_34 : decode cX8_drop 34 = .ok (.iload_n 2, 1) := dz_28 (b_1 bX8_drop (by decide +kernel))
theorem dX8_drop_35 : decode cX8_drop 35 = .ok (.invokevirtual 108, 3) := dz_182 (b_3 (a := 0) (b := 108) bX8_drop (by decide +kernel))
theorem dX8_drop_38 : decode cX8_drop 38 = .ok (.iconst 0, 1) := dz_3 (b_1 bX8_drop (by decide +kernel))
theorem dX8_drop_39 : decode cX8_drop 39 = .ok (.istore 4, 2) := dz_54 (b_2 (a := 4) bX8_drop (by decide +kernel))
theorem dX8_drop_41 : decode cX8_drop 41 = .ok (.iload 4, 2) := dz_21 (b_2 (a := 4) bX8_drop (by decide +kernel))
theorem dX8_drop_43 : decode cX8_drop 43 = .ok (.aload_n 0, 1) := dz_42 (b_1 bX8_drop (by decide +kernel))
theorem dX8_drop_44 : decode cX8_drop 44 = .ok (.getfield 94, 3) := dz_180 (b_3 (a := 0) (b := 94) bX8_drop (by decide +kernel))
theorem dX8_drop_47 : decode cX8_drop 47 = .ok (.if_icmp .ge 34, 3) := dz_162 (b_3 (a := 0) (b := 34) bX8_drop (by decide +kernel)) (by decide +kernel)
theorem dX8_drop_50 : decode cX8_drop 50 = .ok (.aload_n 0, 1) := dz_42 (b_1 bX8_drop (by decide +kernel))
theorem dX8_drop_51 : decode cX8_drop 51 = .ok (.getfield 17, 3) := dz_180 (b_3 (a := 0) (b := 17) bX8_drop (by decide +kernel))
theorem dX8_drop_54 : decode cX8_drop 54 = .ok (.iload 4, 2) := dz_21 (b_2 (a := 4) bX8_drop (by decide +kernel))
theorem dX8_drop_56 : decode cX8_drop 56 = .ok (.aaload, 1) := dz_50 (b_1 bX8_drop (by decide +kernel))
theorem dX8_drop_57 : decode cX8_drop 57 = .ok (.getfield 97, 3) := dz_180 (b_3 (a := 0) (b := 97) bX8_drop (by decide +kernel))
theorem dX8_drop_60 : decode cX8_drop 60 = .ok (.aload_n 3, 1) := dz_45 (b_1 bX8_drop (by decide +kernel))
theorem dX8_drop_61 : decode cX8_drop 61 = .ok (.if_acmp .ne 14, 3) := dz_166 (b_3 (a := 0) (b := 14) bX8_drop (by decide +kernel)) (by decide +kernel)
theorem dX8_drop_64 : decode cX8_drop 64 = .ok (.aload_n 0, 1) := dz_42 (b_1 bX8_drop (by decide +kernel))
theorem dX8_drop_65 : decode cX8_drop 65 = .ok (.getfield 17, 3) := dz_180 (b_3 (a := 0) (b := 17) bX8_drop (by decide +kernel))
theorem dX8_drop_68 : decode cX8_drop 68 = .ok (.iload 4, 2) := dz_21 (b_2 (a := 4) bX8_drop (by decide +kernel))
theorem dX8_drop_70 : decode cX8_drop 70 = .ok (.aaload, 1) := dz_50 (b_1 bX8_drop (by decide +kernel))
theorem dX8_drop_71 : decode cX8_drop 71 = .ok (.iload_n 2, 1) := dz_28 (b_1 bX8_drop (by decide +kernel))
theorem dX8_drop_72 : decode cX8_drop 72 = .ok (.invokevirtual 111, 3) := dz_182 (b_3 (a := 0) (b := 111) bX8_drop (by decide +kernel))
theorem dX8_drop_75 : decode cX8_drop 75 = .ok (.iinc 4 1, 3) := dz_132 (b_3 (a := 4) (b := 1) bX8_drop (by decide +kernel)) (by decide +kernel)
theorem dX8_drop_78 : decode cX8_drop 78 = .ok (.goto (-37), 3) := dz_167 (b_3 (a := 255) (b := 219) bX8_drop (by decide +kernel)) (by decide +kernel)
theorem dX8_drop_81 : decode cX8_drop 81 = .ok (.aload_n 3, 1) := dz_45 (b_1 bX8_drop (by decide +kernel))
theorem dX8_drop_82 : decode cX8_drop 82 = .ok (.getfield 85, 3) := dz_180 (b_3 (a := 0) (b := 85) bX8_drop (by decide +kernel))
theorem dX8_drop_85 : decode cX8_drop 85 = .ok (.ireturn, 1) := dz_172 (b_1 bX8_drop (by decide +kernel))
theorem gj_X8_shut_0 : GpS ([.fieldLink RX8 112 "StateRecords$Type" "shuts" "[Z", .methodLink RX8 70 yX8_typeNumbered, .instanceMethod yX8_typeNumbered, .selects RX8 yX8_typeNumbered yX8_typeNumbered, .initialized RX8, .code yX8_typeNumbered cX8_typeNumbered 2 (some (.object "StateRecords$Type")), .fieldLink RX8 63 "StateRecords" "typeCount" "I", .fieldLink RX8 11 "StateRecords" "types" "[LStateRecords$Type;", .methodLink RX8 74 yX8_isBelow, .static yX8_isBelow, .code yX8_isBelow cX8_isBelow 2 (some .boolean), .methodLink RX8 104 yX7_hasField, .instanceMethod yX7_hasField, .selects RX7 yX7_hasField yX7_hasField, .initialized RX7, .code yX7_hasField cX7_hasField 2 (some .boolean), .fieldLink RX7 36 "StateRecords$Type" "fieldCount" "I"]) wsX8_shut := fun w h => List.mem_cons_of_mem _ (List.mem_append_left _ (List.mem_append_left _ (h)))
theorem gj_X8_shut_2 : GpS (wsX80) wsX8_shut := fun w h => List.mem_cons_of_mem _ (List.mem_append_right _ (h))
set_option maxRecDepth 20000 in
theorem ggX8_shut_X8_typeNumbered : GoodIn wsX8_shut wsX8_typeNumbered := gp_s (gp_c (gj_X8_shut_0 _ (gp_4 (gp_1 gp_h))) (gp_a (gp_c (gj_X8_shut_0 _ (gp_4 (gp_1 (gp_1 gp_h)))) (gp_c (gj_X8_shut_0 _ (gp_4 (gp_1 (gp_1 (gp_1 gp_h))))) (gp_c (gj_X8_shut_0 _ (gp_4 (gp_4 gp_h))) (gp_c (gj_X8_shut_0 _ (gp_4 (gp_4 (gp_1 gp_h)))) (gp_c (gj_X8_shut_0 _ (gp_4 gp_h)) (gp_c (gj_X8_shut_0 _ (gp_4 (gp_4 (gp_1 (gp_1 gp_h))))) (gp_n))))))) (gj_X8_shut_2))) gb_X8_typeNumbered
set_option maxRecDepth 20000 in
theorem gX8_shut_X8_typeNumbered : GoodIn wsX8_shut (wsV RX8 70 RX8 yX8_typeNumbered wsX8_typeNumbered) := goodIn_app (gp_s (gp_c (gj_X8_shut_0 _ (gp_1 gp_h)) (gp_c (gj_X8_shut_0 _ (gp_1 (gp_1 gp_h))) (gp_c (gj_X8_shut_0 _ (gp_1 (gp_1 (gp_1 gp_h)))) (gp_c (gj_X8_shut_0 _ (gp_4 gp_h)) (gp_n))))) (gp_v)) ggX8_shut_X8_typeNumbered
theorem gj_X8_shut_1 : GpS (wsX70) wsX8_shut := fun w h => List.mem_cons_of_mem _ (List.mem_append_left _ (List.mem_append_right _ (h)))
set_option maxRecDepth 20000 in
theorem ggX8_shut_X7_hasField : GoodIn wsX8_shut wsX7_hasField := gp_s (gp_c (gj_X8_shut_0 _ (gp_4 (gp_4 (gp_4 (gp_1 (gp_1 (gp_1 gp_h))))))) (gp_a (gp_c (gj_X8_shut_0 _ (gp_16 gp_h)) (gp_c (gj_X8_shut_0 _ (gp_4 (gp_4 (gp_1 gp_h)))) (gp_c (gj_X8_shut_0 _ (gp_4 gp_h)) (gp_c (gj_X8_shut_0 _ (gp_4 (gp_4 (gp_1 (gp_1 gp_h))))) (gp_n))))) (gj_X8_shut_1))) gb_X7_hasField
set_option maxRecDepth 20000 in
theorem gX8_shut_X7_hasField : GoodIn wsX8_shut (wsV RX8 104 RX7 yX7_hasField wsX7_hasField) := goodIn_app (gp_s (gp_c (gj_X8_shut_0 _ (gp_4 (gp_4 (gp_1 (gp_1 (gp_1 gp_h)))))) (gp_c (gj_X8_shut_0 _ (gp_4 (gp_4 (gp_4 gp_h)))) (gp_c (gj_X8_shut_0 _ (gp_4 (gp_4 (gp_4 (gp_1 gp_h))))) (gp_c (gj_X8_shut_0 _ (gp_4 (gp_4 (gp_4 (gp_1 (gp_1 gp_h)))))) (gp_n))))) (gp_v)) ggX8_shut_X7_hasField
noncomputable def nX8_shut : Nat := 0xac0515541d1c7000b404190536030400a704070099331c7000b40419ac0205009a6800b61c04190c00c60419043a4600b61b2a
theorem bX8_shut : Bts cX8_shut nX8_shut 51 := by unfold Bts; decide +kernel
theorem dX8_shut_0 : decode cX8_shut 0 = .ok (.aload_n 0, 1) := dz_42 (b_1 bX8_shut (by decide +kernel))
theorem dX8_shut_1 : decode cX8_shut 1 = .ok (.iload_n 1, 1) := dz_27 (b_1 bX8_shut (by decide +kernel))
theorem dX8_shut_2 : decode cX8_shut 2 = .ok (.invokevirtual 70, 3) := dz_182 (b_3 (a := 0) (b := 70) bX8_shut (by decide +kernel))
theorem dX8_shut_5 : decode cX8_shut 5 = .ok (.astore 4, 2) := dz_58 (b_2 (a := 4) bX8_shut (by decide +kernel))
theorem dX8_shut_7 : decode cX8_shut 7 = .ok (.aload 4, 2) := dz_25 (b_2 (a := 4) bX8_shut (by decide +kernel))
theorem dX8_shut_9 : decode cX8_shut 9 = .ok (.ifnull 12, 3) := dz_198 (b_3 (a := 0) (b := 12) bX8_shut (by decide +kernel)) (by decide +kernel)
theorem dX8_shut_12 : decode cX8_shut 12 = .ok (.aload 4, 2) := dz_25 (b_2 (a := 4) bX8_shut (by decide +kernel))
theorem dX8_shut_14 : decode cX8_shut 14 = .ok (.iload_n 2, 1) := dz_28 (b_1 bX8_shut (by decide +kernel))
theorem dX8_shut_15 : decode cX8_shut 15 = .ok (.invokevirtual 104, 3) := dz_182 (b_3 (a := 0) (b := 104) bX8_shut (by decide +kernel))
theorem dX8_shut_18 : decode cX8_shut 18 = .ok (.ifCond .ne 5, 3) := dz_154 (b_3 (a := 0) (b := 5) bX8_shut (by decide +kernel)) (by decide +kernel)
theorem dX8_shut_21 : decode cX8_shut 21 = .ok (.iconst (-1), 1) := dz_2 (b_1 bX8_shut (by decide +kernel))
theorem dX8_shut_22 : decode cX8_shut 22 = .ok (.ireturn, 1) := dz_172 (b_1 bX8_shut (by decide +kernel))
theorem dX8_shut_23 : decode cX8_shut 23 = .ok (.aload 4, 2) := dz_25 (b_2 (a := 4) bX8_shut (by decide +kernel))
theorem dX8_shut_25 : decode cX8_shut 25 = .ok (.getfield 112, 3) := dz_180 (b_3 (a := 0) (b := 112) bX8_shut (by decide +kernel))
theorem dX8_shut_28 : decode cX8_shut 28 = .ok (.iload_n 2, 1) := dz_28 (b_1 bX8_shut (by decide +kernel))
theorem dX8_shut_29 : decode cX8_shut 29 = .ok (.baload, 1) := dz_51 (b_1 bX8_shut (by decide +kernel))
theorem dX8_shut_30 : decode cX8_shut 30 = .ok (.ifCond .eq 7, 3) := dz_153 (b_3 (a := 0) (b := 7) bX8_shut (by decide +kernel)) (by decide +kernel)
theorem dX8_shut_33 : decode cX8_shut 33 = .ok (.iconst 1, 1) := dz_4 (b_1 bX8_shut (by decide +kernel))
theorem dX8_shut_34 : decode cX8_shut 34 = .ok (.goto 4, 3) := dz_167 (b_3 (a := 0) (b := 4) bX8_shut (by decide +kernel)) (by decide +kernel)
theorem dX8_shut_37 : decode cX8_shut 37 = .ok (.iconst 0, 1) := dz_3 (b_1 bX8_shut (by decide +kernel))
theorem dX8_shut_38 : decode cX8_shut 38 = .ok (.istore 5, 2) := dz_54 (b_2 (a := 5) bX8_shut (by decide +kernel))
theorem dX8_shut_40 : decode cX8_shut 40 = .ok (.aload 4, 2) := dz_25 (b_2 (a := 4) bX8_shut (by decide +kernel))
theorem dX8_shut_42 : decode cX8_shut 42 = .ok (.getfield 112, 3) := dz_180 (b_3 (a := 0) (b := 112) bX8_shut (by decide +kernel))
theorem dX8_shut_45 : decode cX8_shut 45 = .ok (.iload_n 2, 1) := dz_28 (b_1 bX8_shut (by decide +kernel))
theorem dX8_shut_46 : decode cX8_shut 46 = .ok (.iload_n 3, 1) := dz_29 (b_1 bX8_shut (by decide +kernel))
theorem dX8_shut_47 : decode cX8_shut 47 = .ok (.bastore, 1) := dz_84 (b_1 bX8_shut (by decide +kernel))
theorem dX8_shut_48 : decode cX8_shut 48 = .ok (.iload 5, 2) := dz_21 (b_2 (a := 5) bX8_shut (by decide +kernel))
theorem dX8_shut_50 : decode cX8_shut 50 = .ok (.ireturn, 1) := dz_172 (b_1 bX8_shut (by decide +kernel))
theorem gj_X8_check_0 : GpS (wsX8_check_r1) wsX8_check := fun w h => List.mem_cons_of_mem _ (List.mem_append_left _ (List.mem_append_left _ (List.mem_append_left _ (List.mem_append_left _ (h)))))
theorem gj_X8_check_4 : GpS (wsX80) wsX8_check := fun w h => List.mem_cons_of_mem _ (List.mem_append_right _ (h))
set_option maxRecDepth 20000 in
theorem ggX8_check_X8_typeNumbered : GoodIn wsX8_check wsX8_typeNumbered := gp_s (gp_c (gj_X8_check_0 _ (gp_4 (gp_4 (gp_1 gp_h)))) (gp_a (gp_c (gj_X8_check_0 _ (gp_4 (gp_4 (gp_1 (gp_1 gp_h))))) (gp_c (gj_X8_check_0 _ (gp_4 (gp_4 (gp_1 (gp_1 (gp_1 gp_h)))))) (gp_c (gj_X8_check_0 _ (gp_4 (gp_4 (gp_4 gp_h)))) (gp_c (gj_X8_check_0 _ (gp_4 (gp_4 (gp_4 (gp_1 gp_h))))) (gp_c (gj_X8_check_0 _ (gp_4 (gp_4 gp_h))) (gp_c (gj_X8_check_0 _ (gp_4 (gp_4 (gp_4 (gp_1 (gp_1 gp_h)))))) (gp_n))))))) (gj_X8_check_4))) gb_X8_typeNumbered
set_option maxRecDepth 20000 in
theorem gX8_check_X8_typeNumbered : GoodIn wsX8_check (wsV RX8 70 RX8 yX8_typeNumbered wsX8_typeNumbered) := goodIn_app (gp_s (gp_c (gj_X8_check_0 _ (gp_4 (gp_1 gp_h))) (gp_c (gj_X8_check_0 _ (gp_4 (gp_1 (gp_1 gp_h)))) (gp_c (gj_X8_check_0 _ (gp_4 (gp_1 (gp_1 (gp_1 gp_h))))) (gp_c (gj_X8_check_0 _ (gp_4 (gp_4 gp_h))) (gp_n))))) (gp_v)) ggX8_check_X8_typeNumbered
set_option maxRecDepth 20000 in
theorem ggX8_check_X8_isBelow : GoodIn wsX8_check wsX8_isBelow := gp_s (gp_c (gj_X8_check_0 _ (gp_4 (gp_4 (gp_4 (gp_1 (gp_1 gp_h)))))) (gp_n)) gb_X8_isBelow
set_option maxRecDepth 20000 in
theorem gX8_check_X8_isBelow : GoodIn wsX8_check (va_wsS RX8 74 yX8_isBelow wsX8_isBelow) := goodIn_app (gp_s (gp_c (gj_X8_check_0 _ (gp_4 (gp_4 (gp_4 gp_h)))) (gp_c (gj_X8_check_0 _ (gp_4 (gp_4 (gp_4 (gp_1 gp_h))))) (gp_c (gj_X8_check_0 _ (gp_4 (gp_4 gp_h))) (gp_n)))) (gp_t)) ggX8_check_X8_isBelow
theorem gb_X0_init : wsX0_init.all goodWord = true := by decide +kernel
theorem gj_X8_check_1 : GpS (wsX8_check_r2) wsX8_check := fun w h => List.mem_cons_of_mem _ (List.mem_append_left _ (List.mem_append_left _ (List.mem_append_left _ (List.mem_append_right _ (h)))))
theorem gj_X8_check_3 : GpS (wsX00) wsX8_check := fun w h => List.mem_cons_of_mem _ (List.mem_append_left _ (List.mem_append_right _ (h)))
set_option maxRecDepth 20000 in
theorem ggX8_check_X0_init : GoodIn wsX8_check wsX0_init := gp_s (gp_c (gj_X8_check_0 _ (gp_16 (gp_1 gp_h))) (gp_a (gp_c (gj_X8_check_0 _ (gp_16 (gp_1 (gp_1 gp_h)))) (gp_c (gj_X8_check_0 _ (gp_16 (gp_1 (gp_1 (gp_1 gp_h))))) (gp_c (gj_X8_check_0 _ (gp_16 (gp_4 gp_h))) (gp_c (gj_X8_check_0 _ (gp_16 (gp_4 (gp_1 gp_h)))) (gp_c (gj_X8_check_0 _ (gp_16 (gp_4 (gp_1 (gp_1 gp_h))))) (gp_c (gj_X8_check_0 _ (gp_16 (gp_4 (gp_1 (gp_1 (gp_1 gp_h)))))) (gp_c (gj_X8_check_1 _ (gp_h)) (gp_n)))))))) (gj_X8_check_3))) gb_X0_init
set_option maxRecDepth 20000 in
theorem gX8_check_X0_init : GoodIn wsX8_check (wsX0_init) := ggX8_check_X0_init
noncomputable def nX8_check : Nat := 0xac7300b407197300b560047300b4590719537c00b7051604151d1c597a00bb7300b407197600b40719acfc100600a1077300b40719acfe1006009a4a00b80804150c00994a00b8081d1400994a00b806101cac020500c70719073a4600b61b2a
theorem bX8_check : Bts cX8_check nX8_check 96 := by unfold Bts; decide +kernel
theorem dX8_check_0 : decode cX8_check 0 = .ok (.aload_n 0, 1) := dz_42 (b_1 bX8_check (by decide +kernel))
theorem dX8_check_1 : decode cX8_check 1 = .ok (.iload_n 1, 1) := dz_27 (b_1 bX8_check (by decide +kernel))
theorem dX8_check_2 : decode cX8_check 2 = .ok (.invokevirtual 70, 3) := dz_182 (b_3 (a := 0) (b := 70) bX8_check (by decide +kernel))
theorem dX8_check_5 : decode cX8_check 5 = .ok (.astore 7, 2) := dz_58 (b_2 (a := 7) bX8_check (by decide +kernel))
theorem dX8_check_7 : decode cX8_check 7 = .ok (.aload 7, 2) := dz_25 (b_2 (a := 7) bX8_check (by decide +kernel))
theorem dX8_check_9 : decode cX8_check 9 = .ok (.ifnonnull 5, 3) := dz_199 (b_3 (a := 0) (b := 5) bX8_check (by decide +kernel)) (by decide +kernel)
theorem dX8_check_12 : decode cX8_check 12 = .ok (.iconst (-1), 1) := dz_2 (b_1 bX8_check (by decide +kernel))
theorem dX8_check_13 : decode cX8_check 13 = .ok (.ireturn, 1) := dz_172 (b_1 bX8_check (by decide +kernel))
theorem dX8_check_14 : decode cX8_check 14 = .ok (.iload_n 2, 1) := dz_28 (b_1 bX8_check (by decide +kernel))
theorem dX8_check_15 : decode cX8_check 15 = .ok (.bipush 6, 2) := dz_16 (b_2 (a := 6) bX8_check (by decide +kernel)) (by decide +kernel)
theorem dX8_check_17 : decode cX8_check 17 = .ok (.invokestatic 74, 3) := dz_184 (b_3 (a := 0) (b := 74) bX8_check (by decide +kernel))
theorem dX8_check_20 : decode cX8_check 20 = .ok (.ifCond .eq 20, 3) := dz_153 (b_3 (a := 0) (b := 20) bX8_check (by decide +kernel)) (by decide +kernel)
theorem dX8_check_23 : decode cX8_check 23 = .ok (.iload_n 3, 1) := dz_29 (b_1 bX8_check (by decide +kernel))
theorem dX8_check_24 : decode cX8_check 24 = .ok (.iconst 5, 1) := dz_8 (b_1 bX8_check (by decide +kernel))
theorem dX8_check_25 : decode cX8_check 25 = .ok (.invokestatic 74, 3) := dz_184 (b_3 (a := 0) (b := 74) bX8_check (by decide +kernel))
theorem dX8_check_28 : decode cX8_check 28 = .ok (.ifCond .eq 12, 3) := dz_153 (b_3 (a := 0) (b := 12) bX8_check (by decide +kernel)) (by decide +kernel)
theorem dX8_check_31 : decode cX8_check 31 = .ok (.iload 4, 2) := dz_21 (b_2 (a := 4) bX8_check (by decide +kernel))
theorem dX8_check_33 : decode cX8_check 33 = .ok (.iconst 5, 1) := dz_8 (b_1 bX8_check (by decide +kernel))
theorem dX8_check_34 : decode cX8_check 34 = .ok (.invokestatic 74, 3) := dz_184 (b_3 (a := 0) (b := 74) bX8_check (by decide +kernel))
theorem dX8_check_37 : decode cX8_check 37 = .ok (.ifCond .ne 6, 3) := dz_154 (b_3 (a := 0) (b := 6) bX8_check (by decide +kernel)) (by decide +kernel)
theorem dX8_check_40 : decode cX8_check 40 = .ok (.bipush (-2), 2) := dz_16 (b_2 (a := 254) bX8_check (by decide +kernel)) (by decide +kernel)
theorem dX8_check_42 : decode cX8_check 42 = .ok (.ireturn, 1) := dz_172 (b_1 bX8_check (by decide +kernel))
theorem dX8_check_43 : decode cX8_check 43 = .ok (.aload 7, 2) := dz_25 (b_2 (a := 7) bX8_check (by decide +kernel))
theorem dX8_check_45 : decode cX8_check 45 = .ok (.getfield 115, 3) := dz_180 (b_3 (a := 0) (b := 115) bX8_check (by decide +kernel))
theorem dX8_check_48 : decode cX8_check 48 = .ok (.iconst 4, 1) := dz_7 (b_1 bX8_check (by decide +kernel))
theorem dX8_check_49 : decode cX8_check 49 = .ok (.if_icmp .lt 6, 3) := dz_161 (b_3 (a := 0) (b := 6) bX8_check (by decide +kernel)) (by decide +kernel)
theorem dX8_check_52 : decode cX8_check 52 = .ok (.bipush (-4), 2) := dz_16 (b_2 (a := 252) bX8_check (by decide +kernel)) (by decide +kernel)
theorem dX8_check_54 : decode cX8_check 54 = .ok (.ireturn, 1) := dz_172 (b_1 bX8_check (by decide +kernel))
theorem dX8_check_55 : decode cX8_check 55 = .ok (.aload 7, 2) := dz_25 (b_2 (a := 7) bX8_check (by decide +kernel))
theorem dX8_check_57 : decode cX8_check 57 = .ok (.getfield 118, 3) := dz_180 (b_3 (a := 0) (b := 118) bX8_check (by decide +kernel))
theorem dX8_check_60 : decode cX8_check 60 = .ok (.aload 7, 2) := dz_25 (b_2 (a := 7) bX8_check (by decide +kernel))
theorem dX8_check_62 : decode cX8_check 62 = .ok (.getfield 115, 3) := dz_180 (b_3 (a := 0) (b := 115) bX8_check (by decide +kernel))
theorem dX8_check_65 : decode cX8_check 65 = .ok (.new 122, 3) := dz_187 (b_3 (a := 0) (b := 122) bX8_check (by decide +kernel))
theorem dX8_check_68 : decode cX8_check 68 = .ok (.dup, 1) := dz_89 (b_1 bX8_check (by decide +kernel))
theorem dX8_check_69 : decode cX8_check 69 = .ok (.iload_n 2, 1) := dz_28 (b_1 bX8_check (by decide +kernel))
theorem dX8_check_70 : decode cX8_check 70 = .ok (.iload_n 3, 1) := dz_29 (b_1 bX8_check (by decide +kernel))
theorem dX8_check_71 : decode cX8_check 71 = .ok (.iload 4, 2) := dz_21 (b_2 (a := 4) bX8_check (by decide +kernel))
theorem dX8_check_73 : decode cX8_check 73 = .ok (.lload 5, 2) := dz_22 (b_2 (a := 5) bX8_check (by decide +kernel))
theorem dX8_check_75 : decode cX8_check 75 = .ok (.invokespecial 124, 3) := dz_183 (b_3 (a := 0) (b := 124) bX8_check (by decide +kernel))
theorem dX8_check_78 : decode cX8_check 78 = .ok (.aastore, 1) := dz_83 (b_1 bX8_check (by decide +kernel))
theorem dX8_check_79 : decode cX8_check 79 = .ok (.aload 7, 2) := dz_25 (b_2 (a := 7) bX8_check (by decide +kernel))
theorem dX8_check_81 : decode cX8_check 81 = .ok (.dup, 1) := dz_89 (b_1 bX8_check (by decide +kernel))
theorem dX8_check_82 : decode cX8_check 82 = .ok (.getfield 115, 3) := dz_180 (b_3 (a := 0) (b := 115) bX8_check (by decide +kernel))
theorem dX8_check_85 : decode cX8_check 85 = .ok (.iconst 1, 1) := dz_4 (b_1 bX8_check (by decide +kernel))
theorem dX8_check_86 : decode cX8_check 86 = .ok (.iadd, 1) := dz_96 (b_1 bX8_check (by decide +kernel))
theorem dX8_check_87 : decode cX8_check 87 = .ok (.putfield 115, 3) := dz_181 (b_3 (a := 0) (b := 115) bX8_check (by decide +kernel))
theorem dX8_check_90 : decode cX8_check 90 = .ok (.aload 7, 2) := dz_25 (b_2 (a := 7) bX8_check (by decide +kernel))
theorem dX8_check_92 : decode cX8_check 92 = .ok (.getfield 115, 3) := dz_180 (b_3 (a := 0) (b := 115) bX8_check (by decide +kernel))
theorem dX8_check_95 : decode cX8_check 95 = .ok (.ireturn, 1) := dz_172 (b_1 bX8_check (by decide +kernel))
theorem gj_X8_unchecked_0 : GpS ([.fieldLink RX8 115 "StateRecords$Type" "checkCount" "I", .methodLink RX8 70 yX8_typeNumbered, .instanceMethod yX8_typeNumbered, .selects RX8 yX8_typeNumbered yX8_typeNumbered, .initialized RX8, .code yX8_typeNumbered cX8_typeNumbered 2 (some (.object "StateRecords$Type")), .fieldLink RX8 63 "StateRecords" "typeCount" "I", .fieldLink RX8 11 "StateRecords" "types" "[LStateRecords$Type;", .methodLink RX8 74 yX8_isBelow, .static yX8_isBelow, .code yX8_isBelow cX8_isBelow 2 (some .boolean)]) wsX8_unchecked := fun w h => List.mem_cons_of_mem _ (List.mem_append_left _ (List.mem_append_left _ (h)))
theorem gj_X8_unchecked_2 : GpS (wsX80) wsX8_unchecked := fun w h => List.mem_cons_of_mem _ (List.mem_append_right _ (h))
set_option maxRecDepth 20000 in
theorem ggX8_unchecked_X8_typeNumbered : GoodIn wsX8_unchecked wsX8_typeNumbered := gp_s (gp_c (gj_X8_unchecked_0 _ (gp_4 (gp_1 gp_h))) (gp_a (gp_c (gj_X8_unchecked_0 _ (gp_4 (gp_1 (gp_1 gp_h)))) (gp_c (gj_X8_unchecked_0 _ (gp_4 (gp_1 (gp_1 (gp_1 gp_h))))) (gp_c (gj_X8_unchecked_0 _ (gp_4 (gp_4 gp_h))) (gp_c (gj_X8_unchecked_0 _ (gp_4 (gp_4 (gp_1 gp_h)))) (gp_c (gj_X8_unchecked_0 _ (gp_4 gp_h)) (gp_c (gj_X8_unchecked_0 _ (gp_4 (gp_4 (gp_1 (gp_1 gp_h))))) (gp_n))))))) (gj_X8_unchecked_2))) gb_X8_typeNumbered
set_option maxRecDepth 20000 in
theorem gX8_unchecked_X8_typeNumbered : GoodIn wsX8_unchecked (wsV RX8 70 RX8 yX8_typeNumbered wsX8_typeNumbered) := goodIn_app (gp_s (gp_c (gj_X8_unchecked_0 _ (gp_1 gp_h)) (gp_c (gj_X8_unchecked_0 _ (gp_1 (gp_1 gp_h))) (gp_c (gj_X8_unchecked_0 _ (gp_1 (gp_1 (gp_1 gp_h)))) (gp_c (gj_X8_unchecked_0 _ (gp_4 gp_h)) (gp_n))))) (gp_v)) ggX8_unchecked_X8_typeNumbered
noncomputable def nX8_unchecked : Nat := 0xac1d7300b5032c3e7300b42cac020500c72c4d4600b61b2a
theorem bX8_unchecked : Bts cX8_unchecked nX8_unchecked 24 := by unfold Bts; decide +kernel
theorem dX8_unchecked_0 : decode cX8_unchecked 0 = .ok (.aload_n 0, 1) := dz_42 (b_1 bX8_unchecked (by decide +kernel))
theorem dX8_unchecked_1 : decode cX8_unchecked 1 = .ok (.iload_n 1, 1) := dz_27 (b_1 bX8_unchecked (by decide +kernel))
end
