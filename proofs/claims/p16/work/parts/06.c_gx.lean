/-! rows over a list of which the end is told -/
section GX
variable {p : Program} {l : Launch} {e : Env} {R : Room} {s : State} {m : MethodId} {args : Array Value} {below : List Frame} {meth : Method} {c : Code} {H H0 : Heap} {locs : List Loc} {cells slots : Nat} {Q : State → Prop}
variable {cc : ByteArray} {pc : Nat} {ls : Array Slot} {rest : List Value} {D : va_G} {tc : Nat → ClassId} {base : Nat} {u : St} {E G : va_W}
variable {own C : String} {T : u_T} {N ci index : Nat} {Ts : List Cond} {k t : Nat} {z : Int}
theorem g_new (hx : p.tables.exec = Jvm.exec) (hb : c.code = cc) (F : fctx s m args own Ts D tc C T N ci) {ty0 : Nat → FieldType} (Gt : tctx T N ty0) (hcl : (Cond.classLink own index C).before args s = true) (hinst : (Cond.instantiable C N).before args s = true) (hini : (Cond.initialized C).before args s = true)
    (hw : wx D tc base u (E ++ G) H) (hS : va_S (frA base) H0 H locs) (hbs : base ≤ H0.size) {fs : List Value} (hfs : ∀ j, j < N → defaultValue (ty0 j) = vp_V fs j) (hcells : cells + 1 ≤ R.cells) (hslots : slots + N ≤ R.slots) (hdg : decode cc pc = .ok (.new index, 3))
    (kk : ∀ (q : Nat) (H1 : Heap), wx D tc base u (E ++ (G ++ [(q, .inr (ci, fs))])) H1 → va_S (frA base) H0 H1 locs → W p l e R s m args below meth c H1 locs (cells + 1) (slots + N) Q (F0 m (pc + 3) ls (.ref q :: rest))) : W p l e R s m args below meth c H locs cells slots Q (F0 m pc ls rest) :=
  nx_new hx hb F Gt hcl hinst hini hw hS hbs hfs hcells hslots hdg (fun q H1 h => kk q H1 (by rw [← List.append_assoc]; exact h))
theorem g_newa (hx : p.tables.exec = Jvm.exec) (hb : c.code = cc) {atype : ArrayType} (harr : (Cond.arrayClass (newarray.typeOf atype)).before args s = true) {ty : FieldType} (hty : newarray.typeOf atype = ty) (hK : va_K D vwCl (tysL tc) s) (ht : (tysL tc)[t]? = some (tc t, ty))
    (hw : wx D tc base u (E ++ G) H) (hS : va_S (frA base) H0 H locs) (hbs : base ≤ H0.size) {a0 : vp_A} (ha : ∀ cA : ClassId, vp_cell cA a0 = arrV cA z.toNat (fun _ => defaultValue ty)) (h0 : 0 ≤ z) (h1 : z ≤ 10000) (hbytes : z.toNat * componentBytes ty ≤ 536870912) (hcells : cells + 1 ≤ R.cells) (hslots : slots + z.toNat ≤ R.slots) (hdg : decode cc pc = .ok (.newarray atype, 2))
    (kk : ∀ (q : Nat) (H1 : Heap), wx D tc base u (E ++ (G ++ [(q, .inl (tc t, a0))])) H1 → va_S (frA base) H0 H1 locs → W p l e R s m args below meth c H1 locs (cells + 1) (slots + z.toNat) Q (F0 m (pc + 2) ls (.ref q :: rest))) : W p l e R s m args below meth c H locs cells slots Q (F0 m pc ls (.int (jI z) :: rest)) :=
  nx_newa hx hb harr hty hK ht hw hS hbs ha h0 h1 hbytes hcells hslots hdg (fun q H1 h => kk q H1 (by rw [← List.append_assoc]; exact h))
theorem g_newq (hx : p.tables.exec = Jvm.exec) (hb : c.code = cc) (hown : s.vm.findClass own = some m.cls) (hclink : (Cond.classLink own index C).before args s = true) (hover : va_AO C s) (hK : va_K D vwCl (tysL tc) s) (ht : (tysL tc)[t]? = some (tc t, .object C))
    (hw : wx D tc base u (E ++ G) H) (hS : va_S (frA base) H0 H locs) (hbs : base ≤ H0.size) (h0 : 0 ≤ z) (h1 : z ≤ 10000) (hcells : cells + 1 ≤ R.cells) (hslots : slots + z.toNat ≤ R.slots) (hdg : decode cc pc = .ok (.anewarray index, 3))
    (kk : ∀ (q : Nat) (H1 : Heap), wx D tc base u (E ++ (G ++ [(q, .inl (tc t, z.toNat, .inr (.inr (.inr (.inr (fun _ => none))))))])) H1 → va_S (frA base) H0 H1 locs → W p l e R s m args below meth c H1 locs (cells + 1) (slots + z.toNat) Q (F0 m (pc + 3) ls (.ref q :: rest))) : W p l e R s m args below meth c H locs cells slots Q (F0 m pc ls (.int (jI z) :: rest)) :=
  nx_newq hx hb hown hclink hover hK ht hw hS hbs h0 h1 hcells hslots hdg (fun q H1 h => kk q H1 (by rw [← List.append_assoc]; exact h))
theorem g_putF (hx : p.tables.exec = Jvm.exec) (hb : c.code = cc) (F : fctx s m args own Ts D tc C T N ci) {ty0 : Nat → FieldType} (Gt : tctx T N ty0) (hw : wx D tc base u (E ++ G) H) (hS : va_S (frA base) H0 H locs) (e0 : Nat) {a : Nat} {fs : List Value} (he : G[e0]? = some (a, .inr (ci, fs))) (k : Nat) (hk : k < N)
    (hlink : (Cond.fieldLink own index (T k).1 (T k).2.1 (T k).2.2.1).before args s = true) (hfin : (T k).2.2.2 = true) (hin2 : meth.name = "<init>") (hdecl : (T k).1 = own) {ty : FieldType} {v : Value} (hd : parseFieldDescriptor (T k).2.2.1 = some ty) (hn : narrow ty v = v) (hfit : fits ty v = true) (hl : k < fs.length) (hdg : decode cc pc = .ok (.putfield index, 3))
    (kk : ∀ (H1 : Heap) (locs1 : List Loc), wx D tc base u (E ++ G.set e0 (a, .inr (ci, fs.set k v))) H1 → va_S (frA base) H0 H1 locs1 → W p l e R s m args below meth c H1 locs1 cells slots Q (F0 m (pc + 3) ls rest)) : W p l e R s m args below meth c H locs cells slots Q (F0 m pc ls (v :: .ref a :: rest)) := by
  have h2 := nx_set (W0 := E) (y := .inr (ci, fs.set k v)) he
  refine nx_putF hx hb F Gt hw hS _ h2.1 k hk hlink hfin hin2 hdecl hd hn hfit hl hdg (fun H1 locs1 h hS1 => ?_)
  rw [h2.2] at h
  exact kk H1 locs1 h hS1
theorem g_put (hx : p.tables.exec = Jvm.exec) (hb : c.code = cc) (F : fctx s m args own Ts D tc C T N ci) {ty0 : Nat → FieldType} (Gt : tctx T N ty0) (hw : wx D tc base u (E ++ G) H) (hS : va_S (frA base) H0 H locs) (e0 : Nat) {a : Nat} {fs : List Value} (he : G[e0]? = some (a, .inr (ci, fs))) (k : Nat) (hk : k < N)
    (hlink : (Cond.fieldLink own index (T k).1 (T k).2.1 (T k).2.2.1).before args s = true) (hfin : (T k).2.2.2 = false) {ty : FieldType} {v : Value} (hd : parseFieldDescriptor (T k).2.2.1 = some ty) (hn : narrow ty v = v) (hfit : fits ty v = true) (hl : k < fs.length) (hdg : decode cc pc = .ok (.putfield index, 3))
    (kk : ∀ (H1 : Heap) (locs1 : List Loc), wx D tc base u (E ++ G.set e0 (a, .inr (ci, fs.set k v))) H1 → va_S (frA base) H0 H1 locs1 → W p l e R s m args below meth c H1 locs1 cells slots Q (F0 m (pc + 3) ls rest)) : W p l e R s m args below meth c H locs cells slots Q (F0 m pc ls (v :: .ref a :: rest)) := by
  have h2 := nx_set (W0 := E) (y := .inr (ci, fs.set k v)) he
  refine nx_put hx hb F Gt hw hS _ h2.1 k hk hlink hfin hd hn hfit hl hdg (fun H1 locs1 h hS1 => ?_)
  rw [h2.2] at h
  exact kk H1 locs1 h hS1
end GX
/-! the first place of a name among the first n; a row whose end moved down by one -/
def nmAt (f : Int → Int) (name : Int) : Nat → Int
  | 0 => -1
  | n + 1 => if nmAt f name n = -1 then (if f (n : Int) = name then (n : Int) else -1) else nmAt f name n
theorem nmAt_spec (f : Int → Int) (name : Int) (n : Nat) : (nmAt f name n = -1 ∧ ∀ j, 0 ≤ j → j < (n : Int) → f j ≠ name) ∨ (0 ≤ nmAt f name n ∧ nmAt f name n < (n : Int) ∧ f (nmAt f name n) = name ∧ ∀ j, 0 ≤ j → j < nmAt f name n → f j ≠ name) := by
  induction n with
  | zero => exact Or.inl ⟨rfl, fun j h0 h1 => by omega⟩
  | succ n ih =>
    rcases ih with ⟨h1, h2⟩ | ⟨h1, h2, h3, h4⟩
    · by_cases hf : f (n : Int) = name
      · have e : nmAt f name (n + 1) = (n : Int) := by simp only [nmAt]; rw [if_pos h1, if_pos hf]
        rw [e]
        exact Or.inr ⟨by omega, by omega, hf, h2⟩
      · have e : nmAt f name (n + 1) = -1 := by simp only [nmAt]; rw [if_pos h1, if_neg hf]
        refine Or.inl ⟨e, fun j g0 g1 => ?_⟩
        by_cases hj : j = (n : Int)
        · rw [hj]; exact hf
        · exact h2 j g0 (by omega)
    · have e : nmAt f name (n + 1) = nmAt f name n := by simp only [nmAt]; rw [if_neg (by omega)]
      rw [e]
      exact Or.inr ⟨h1, by omega, h3, h4⟩
theorem nmAt_no {f : Int → Int} {name z : Int} (h : ∀ j, 0 ≤ j → j < z → f j ≠ name) (hz : 0 ≤ z) : nmAt f name z.toNat = -1 := by
  rcases nmAt_spec f name z.toNat with h1 | ⟨h1, h2, h3, -⟩
  · exact h1.1
  · exact absurd h3 (h _ h1 (by omega))
theorem nmAt_yes {f : Int → Int} {name z k : Int} (h : ∀ j, 0 ≤ j → j < k → f j ≠ name) (hk : 0 ≤ k ∧ k < z) (hf : f k = name) : nmAt f name z.toNat = k := by
  rcases nmAt_spec f name z.toNat with ⟨-, h2⟩ | ⟨h1, h2, h3, h4⟩
  · exact absurd hf (h2 k hk.1 (by omega))
  · by_cases hlt : nmAt f name z.toNat < k
    · exact absurd h3 (h _ h1 hlt)
    · by_cases hgt : k < nmAt f name z.toNat
      · exact absurd hf (h4 k hk.1 hgt)
      · omega
theorem nmAt_congr {f g : Int → Int} {name : Int} {n : Nat} (h : ∀ j, 0 ≤ j → j < (n : Int) → f j = g j) : nmAt f name n = nmAt g name n := by
  induction n with
  | zero => rfl
  | succ n ih =>
    have e := ih (fun j a b => h j a (by omega))
    simp only [nmAt]
    rw [e, h (n : Int) (by omega) (by omega)]
/-- kind κ, row q: from k to i all came one down -/
def Sh (κ : Nat) (X Xa : Nat → Int → Int → Int) (q k i : Int) : Prop := ∀ y j, Xa κ y j = if y = q ∧ k ≤ j ∧ j < i then X κ y (j + 1) else X κ y j
theorem Sh.in_ {κ : Nat} {X Xa : Nat → Int → Int → Int} {q k : Int} (h : Xa κ = X κ) : Sh κ X Xa q k k := fun y j => by rw [if_neg (fun g => by omega), h]
theorem Sh.of {κ : Nat} {X Xa Xb : Nat → Int → Int → Int} {q k i : Int} (h : Sh κ X Xa q k i) (e : Xb κ = Xa κ) : Sh κ X Xb q k i := fun y j => by rw [e]; exact h y j
theorem Sh.step {κ : Nat} {X Xa Xb Xc : Nat → Int → Int → Int} {q k i v : Int} (h : Sh κ X Xa q k i) (hk : k ≤ i) (e0 : Xc κ = Xa κ) (e : Xb κ = u3 Xc κ q i v κ) (hv : v = Xa κ q (i + 1)) : Sh κ X Xb q k (i + 1) := fun y j => by
  rw [e]
  by_cases hc : y = q ∧ j = i
  · obtain ⟨rfl, rfl⟩ := hc
    rw [u3_s, hv, h, if_neg (fun g => by omega), if_pos ⟨rfl, hk, by omega⟩]
  · have e2 : u3 Xc κ q i v κ y j = Xa κ y j := by
      simp only [u3]
      rw [if_neg (fun g => hc g.2), e0]
    rw [e2, h]
    by_cases hd : y = q ∧ k ≤ j ∧ j < i
    · rw [if_pos hd, if_pos ⟨hd.1, hd.2.1, by omega⟩]
    · rw [if_neg hd, if_neg (fun g => hd ⟨g.1, g.2.1, by
        have : j ≠ i := fun q9 => hc ⟨g.1, q9⟩
        omega⟩)]
theorem Sh.at_ {κ : Nat} {X Xa : Nat → Int → Int → Int} {q k i j : Int} (h : Sh κ X Xa q k i) (h1 : i ≤ j) (y : Int) : Xa κ y j = X κ y j := by rw [h, if_neg (fun g => by omega)]
theorem gx_app {G L : va_W} {x : Nat × va_E} (h : G[0]? = some x) : (G ++ L)[0]? = some x := by
  have hl := (List.getElem?_eq_some_iff.mp h).1
  rw [List.getElem?_append_left hl]
  exact h
theorem gx_set {G : va_W} {x y : Nat × va_E} (h : G[0]? = some x) : (G.set 0 y)[0]? = some y := List.getElem?_set_self (List.getElem?_eq_some_iff.mp h).1
