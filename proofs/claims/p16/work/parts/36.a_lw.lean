section
def wsL_at_r1 : List Cond := [Cond.classLink RL 13 "java/lang/IllegalArgumentException", Cond.classLink RL 15 "java/lang/IndexOutOfBoundsException", Cond.methodLink RL 7 yX8_at, Cond.instanceMethod yX8_at, Cond.selects RX8 yX8_at yX8_at, Cond.initialized RX8, Cond.code yX8_at cX8_at 5 (some .long), Cond.classLink RX8 181 "java/lang/IllegalArgumentException", Cond.initialized "java/lang/IllegalArgumentException", Cond.classLink RX8 188 "java/lang/IndexOutOfBoundsException", Cond.initialized "java/lang/IndexOutOfBoundsException", Cond.fieldLink RX8 97 "StateRecords$Thing" "type" "LStateRecords$Type;", Cond.fieldLink RX8 135 "StateRecords$Type" "lanes" "[I", Cond.fieldLink RX8 193 "StateRecords$Thing" "values" "[J", Cond.fieldLink RX8 158 "StateRecords$Thing" "rows" "[LStateRecords$Row;", Cond.constantLong RX8 88 (-1), Cond.fieldLink RX8 161 "StateRecords$Row" "items" "[J", Cond.methodLink RX8 177 yX8_thingNumbered, Cond.instanceMethod yX8_thingNumbered, Cond.selects RX8 yX8_thingNumbered yX8_thingNumbered, Cond.code yX8_thingNumbered cX8_thingNumbered 3 (some (.object "StateRecords$Thing")), Cond.fieldLink RX8 94 "StateRecords" "thingCount" "I", Cond.fieldLink RX8 17 "StateRecords" "things" "[LStateRecords$Thing;", Cond.methodLink RX8 104 yX7_hasField]
def wsL_at_r2 : List Cond := [Cond.instanceMethod yX7_hasField, Cond.selects RX7 yX7_hasField yX7_hasField, Cond.initialized RX7, Cond.code yX7_hasField cX7_hasField 2 (some .boolean), Cond.fieldLink RX7 36 "StateRecords$Type" "fieldCount" "I", Cond.static yX8_isBelow, Cond.code yX8_isBelow cX8_isBelow 2 (some .boolean), Cond.methodLink RX8 150 yX8_isRowLane, Cond.static yX8_isRowLane, Cond.code yX8_isRowLane cX8_isRowLane 1 (some .boolean)]
def wsL_at : List Cond := .codeWith yL_at cL_at 5 (some .int) [(0, 9, 12, 13), (0, 9, 16, 15)] :: ((wsL_at_r1 ++ wsL_at_r2) ++ wsX60 ++ wsX70 ++ wsX50 ++ wsX80 ++ (vx_atS RX8 185 "java/lang/IllegalArgumentException" ["java/lang/RuntimeException", "java/lang/Exception"]).filter goodWord ++ (vx_atS RX8 192 "java/lang/IndexOutOfBoundsException" ["java/lang/RuntimeException", "java/lang/Exception"]).filter goodWord)
def wsL_itemAt_r1 : List Cond := [Cond.classLink RL 13 "java/lang/IllegalArgumentException", Cond.classLink RL 21 "java/lang/IllegalStateException", Cond.classLink RL 15 "java/lang/IndexOutOfBoundsException", Cond.methodLink RL 17 yX8_itemAt, Cond.instanceMethod yX8_itemAt, Cond.selects RX8 yX8_itemAt yX8_itemAt, Cond.initialized RX8, Cond.code yX8_itemAt cX8_itemAt 6 (some .long), Cond.classLink RX8 181 "java/lang/IllegalArgumentException", Cond.initialized "java/lang/IllegalArgumentException", Cond.classLink RX8 188 "java/lang/IndexOutOfBoundsException", Cond.initialized "java/lang/IndexOutOfBoundsException", Cond.classLink RX8 196 "java/lang/IllegalStateException", Cond.initialized "java/lang/IllegalStateException", Cond.fieldLink RX8 97 "StateRecords$Thing" "type" "LStateRecords$Type;", Cond.fieldLink RX8 135 "StateRecords$Type" "lanes" "[I", Cond.fieldLink RX8 158 "StateRecords$Thing" "rows" "[LStateRecords$Row;", Cond.fieldLink RX8 161 "StateRecords$Row" "items" "[J", Cond.methodLink RX8 177 yX8_thingNumbered, Cond.instanceMethod yX8_thingNumbered, Cond.selects RX8 yX8_thingNumbered yX8_thingNumbered, Cond.code yX8_thingNumbered cX8_thingNumbered 3 (some (.object "StateRecords$Thing")), Cond.fieldLink RX8 94 "StateRecords" "thingCount" "I", Cond.fieldLink RX8 17 "StateRecords" "things" "[LStateRecords$Thing;"]
def wsL_itemAt_r2 : List Cond := [Cond.methodLink RX8 104 yX7_hasField, Cond.instanceMethod yX7_hasField, Cond.selects RX7 yX7_hasField yX7_hasField, Cond.initialized RX7, Cond.code yX7_hasField cX7_hasField 2 (some .boolean), Cond.fieldLink RX7 36 "StateRecords$Type" "fieldCount" "I", Cond.static yX8_isBelow, Cond.code yX8_isBelow cX8_isBelow 2 (some .boolean), Cond.methodLink RX8 150 yX8_isRowLane, Cond.static yX8_isRowLane, Cond.code yX8_isRowLane cX8_isRowLane 1 (some .boolean), Cond.methodLink RX8 74 yX8_isBelow]
def wsL_itemAt : List Cond := .codeWith yL_itemAt cL_itemAt 6 (some .int) [(0, 11, 14, 13), (0, 11, 18, 21), (0, 11, 22, 15)] :: ((wsL_itemAt_r1 ++ wsL_itemAt_r2) ++ wsX60 ++ wsX70 ++ wsX50 ++ wsX80 ++ (vx_atS RX8 185 "java/lang/IllegalArgumentException" ["java/lang/RuntimeException", "java/lang/Exception"]).filter goodWord ++ (vx_atS RX8 192 "java/lang/IndexOutOfBoundsException" ["java/lang/RuntimeException", "java/lang/Exception"]).filter goodWord ++ (vx_atS RX8 200 "java/lang/IllegalStateException" ["java/lang/RuntimeException", "java/lang/Exception"]).filter goodWord)
set_option maxRecDepth 20000 in
theorem ggL_at_X8_at : GoodIn wsL_at wsX8_at := goodIn_ca (goodIn_ca (goodIn_r _ [7, 8, 9, 10, 11, 12, 13, 14, 15, 16, 17, 18, 19, 20, 6, 21, 22, 23, 24, 25, 26, 27, 28, 29, 30, 31, 32, 33, 34, 35, 36, 37, 38, 39, 40, 41, 42, 43, 44, 45, 46, 47, 48, 49, 50, 51, 52, 53, 54, 55, 56, 57, 58, 59, 60] (by decide +kernel) (by decide +kernel)) (goodIn_sub (fun _ h => List.mem_cons_of_mem _ (List.mem_append_left _ (List.mem_append_right _ h))) (by decide +kernel))) (goodIn_sub (fun _ h => List.mem_cons_of_mem _ (List.mem_append_right _ h)) (by decide +kernel))
set_option maxRecDepth 20000 in
theorem gL_at_X8_at : GoodIn wsL_at (wsV RL 7 RX8 yX8_at wsX8_at) := goodIn_app (goodIn_of _ (by decide +kernel)) ggL_at_X8_at
set_option maxRecDepth 20000 in
theorem ggL_itemAt_X8_itemAt : GoodIn wsL_itemAt wsX8_itemAt := goodIn_ca (goodIn_ca (goodIn_ca (goodIn_r _ [8, 9, 10, 11, 12, 13, 14, 15, 16, 17, 18, 19, 20, 21, 7, 22, 23, 24, 25, 26, 27, 28, 29, 30, 31, 32, 33, 34, 35, 36, 37, 38, 39, 40, 41, 42, 43, 44, 45, 46, 47, 48, 49, 50, 51, 52, 53, 54, 55, 56, 57, 58, 59, 60, 61, 62] (by decide +kernel) (by decide +kernel)) (goodIn_sub (fun _ h => List.mem_cons_of_mem _ (List.mem_append_left _ (List.mem_append_left _ (List.mem_append_right _ h)))) (by decide +kernel))) (goodIn_sub (fun _ h => List.mem_cons_of_mem _ (List.mem_append_left _ (List.mem_append_right _ h))) (by decide +kernel))) (goodIn_sub (fun _ h => List.mem_cons_of_mem _ (List.mem_append_right _ h)) (by decide +kernel))
set_option maxRecDepth 20000 in
theorem gL_itemAt_X8_itemAt : GoodIn wsL_itemAt (wsV RL 17 RX8 yX8_itemAt wsX8_itemAt) := goodIn_app (goodIn_of _ (by decide +kernel)) ggL_itemAt_X8_itemAt
end
section
/-! the law's two readers: what they throw is caught -/
theorem KH_of {l : Launch} {D : va_G} {tc : Nat → ClassId} {base : Nat} {y : MethodName} {ws ws' : List Cond} {rm : Room} {av : List Value} {u : St} {mc ms : Nat} {Qc : Array Value → State → Outcome → State → Prop} {XC : String → State → State → Prop} {cc : ByteArray} {maxL : Nat} {ret : Option FieldType} {hh : List (Nat × Nat × Nat × Nat)}
    (hy : plainName y.cls = true) (hw : ws = Cond.codeWith y cc maxL ret hh :: ws') (hsl : (lg_sl av).length ≤ maxL)
    (body : ∀ (p : Program) (e : Env) (s : State) (m : MethodId) (below : List Frame) (meth : Method) (c : Code) (ls : Array Slot), p.tables.exec = Jvm.exec → c.code = cc → meth.sig.returnType = ret → c.maxLocals = maxL → s.vm.findClass y.cls = some m.cls → (∀ w ∈ ws, w.before av.toArray s = true) → meth.locks = false → c.exceptionTable.toList = tableOf hh → lv_has ls maxL (lv_args 0 av) → Kx D tc s → TK base s s.heap → wd D tc base u s.heap → va_S (frA base) s.heap s.heap [] →
      W p l e rm s m av.toArray below meth c s.heap [] 0 0 (vx_MQ below Qc XC av.toArray s mc ms (frA base)) (F0 m 0 ls [])) : vx_Met l y ws rm (PcT D tc base u av) Qc XC mc ms (frA base) := by
  refine vx_ofWH (cc := cc) (maxL := maxL) (ret := ret) (hh := hh) hy hw ?_
  intro p e s m args below meth c s₁ B hml hv
  obtain ⟨rfl, hW, hK, hT⟩ := hv
  have hl := lv_entry av (n := maxL) hsl
  rw [lg_entry_eq]
  exact body p e s m below meth c _ B.exec B.bytes B.returns hml (findClass_of_methodNamed B.named) (atoms_spec (ws := ws) B.pre) B.notSynchronized (vx_table (x := y) B (atoms_spec (ws := ws) B.pre _ (by rw [hw]; exact List.mem_cons_self))) hl hK hT hW va_S.rf
def XF (base : Nat) : String → State → State → Prop := vx_X (fun (_ : Unit) => False) (fun _ _ _ => True) (frA base)
theorem run_T {p : Program} {l : Launch} {e : Env} {R : Room} {s : State} {m : MethodId} {args : Array Value} {below : List Frame} {meth : Method} {c : Code} {H : Heap} {locs : List Loc} {cells slots : Nat}
    {cc bytes : ByteArray} {pc nL maxL mc ms n index : Nat} {ls : Array Slot} {rest st0 As : List Value} {D : va_G} {tc : Nat → ClassId} {base : Nat} {ad : Nat → Int → Nat} {cnt : Nat → Int} {X : Nat → Int → Int → Int} {Y : Nat → Int → Int → Option Int} {ln : Int → Int} {own : String} {N ci : Nat} {Ts ws : List Cond} {rm : Room} {ret : Option FieldType} {y : MethodName} {k j : Nat} {i : Int}
    {Qc : Array Value → State → Outcome → State → Prop} {XC : String → State → State → Prop} {c1 t1 : Nat} {q : vw_C} (hx : p.tables.exec = Jvm.exec) (hb : c.code = cc) (hml : c.maxLocals = nL) (hown : s.vm.findClass own = some m.cls) (hts : ∀ w ∈ Ts, w.before args s = true) (hM : vx_Met l y ws rm (PcT D tc base (ad, cnt, X, Y, ln) (.ref (ad k i) :: As)) Qc XC mc ms (frA base)) (cw : CallW R s args own q.1 index y bytes maxL ret ws rm mc ms n)
    (hK : Kx D tc s) (hT : TK base s s.heap) (hS : va_S (frA base) s.heap H locs) (hw : wd D tc base (ad, cnt, X, Y, ln) H) (h0 : 0 ≤ i) (h1 : i < cnt k) (hs : SL k j ci c1 t1 N) (hc : vwCl[ci]? = some q) (hn : As.length = n) (hl : ls.size = nL) (hstack : st0 = As.reverse ++ .ref (ad k i) :: rest) (hrm : (rest.map fun v => v.category).sum ≤ 8) (hdg : decode cc pc = .ok (.invokevirtual index, 3)) (hf : cells + mc ≤ R.cells ∧ slots + ms ≤ R.slots) :
    vx_Run p l e R s m args below meth c H locs cells slots mc ms (F0 m pc ls st0) rest (Qc (Value.ref (ad k i) :: As).toArray) XC (frA base) :=
  vx_runV ⟨hx, hb, hml, hown, hts⟩ hM cw ⟨PcT.blind, rcv hK hw h0 h1 hs hc, fun U hU hW => ⟨rfl, by rw [hU]; exact hw, hK.warm hW, by rw [hU]; exact hT.go hS hW⟩⟩ rfl hn hl hstack (lv_room hrm) hdg hf
end
section
set_option maxHeartbeats 4000000 in
set_option maxRecDepth 100000 in
theorem c_L_at (l : Launch) (hlT : l.stackTraces = false) (D : va_G) (tc : Nat → ClassId) (base : Nat) (ad : Nat → Int → Nat) (cnt : Nat → Int) (X : Nat → Int → Int → Int) (Y : Nat → Int → Int → Option Int) (ln : Int → Int) (hR : Rng X) (hFx : Fx cnt) (hLn : LnOK ln) (hCI : CInv cnt X Y ln) (x k : Int) (hqx : -2147483648 ≤ x ∧ x ≤ 2147483647) (hqk : -2147483648 ≤ k ∧ k ≤ 2147483647) : vx_Met l yL_at wsL_at ({ frames := 7, cells := 1, slots := 6, locals := 106 } : Room) (PcT D tc base (ad, cnt, X, Y, ln) [.ref (ad 0 0), .int (jI x), .int (jI k), .ref (ad 100 0)]) (QI D tc base (fun z u => ∃ X1 : Nat → Int → Int → Int, u = (ad, cnt, X1, Y, ln) ∧ Rng X1 ∧ Frm [10000] X X1 ∧ (0 ≤ z ∧ z ≤ 3) ∧ atL X X1 Y ln x k z)) (XF base) 1 6 (frA base) := by
  refine KH_of (cc := cL_at) (maxL := 5) (ret := some .int) (hh := [(0, 9, 12, 13), (0, 9, 16, 15)]) (by decide) rfl (Nat.le_of_ble_eq_true rfl) ?_
  intro p e s m below meth c ls hx hb hr hml hown hts hlocks htab hl hK hT hw hS
  have hown : s.vm.findClass RL = some m.cls := hown
  have hl : lv_has ls 5 [(0, .ref (ad 0 0)), (1, .int (jI x)), (2, .int (jI k)), (3, .ref (ad 100 0))] := hl
  have hc0 : cnt 0 = 1 := hFx.at 0 1 (by decide)
  have hc100 : cnt 100 = 1 := hFx.at 100 1 (by decide)
  refine lv_aload_n hx hb dL_at_0 rfl (lv_at hl 3 rfl) ?_
  refine lv_iconst (v := jI 0) hx hb dL_at_1 rfl ?_
  refine lv_aload_n hx hb dL_at_2 rfl (lv_at hl 0 rfl) ?_
  refine lv_iload_n hx hb dL_at_3 rfl (lv_at hl 1 rfl) ?_
  refine lv_iload_n hx hb dL_at_4 rfl (lv_at hl 2 rfl) ?_
  refine vx_calll (run_T (As := [.int (jI x), .int (jI k)]) (rest := [.int (jI 0), .ref (ad 100 0)]) hx hb hml hown hts (c_X8_at l hlT D tc base ad cnt X Y ln hR hFx hLn hCI x k hqx hqk) (cwV 2 hts gL_at_X8_at rfl rfl rfl (by first | exact hd_X8_at | decide +kernel) ⟨Nat.le_of_ble_eq_true rfl, Nat.le_of_ble_eq_true rfl⟩) hK hT hS hw (by omega) (by omega) sl_0_0 rfl rfl hl.1 rfl (Nat.le_of_ble_eq_true rfl) dL_at_5 ⟨Nat.le_of_ble_eq_true rfl, Nat.le_of_ble_eq_true rfl⟩) hS (fun q _ h => h) (fun q h => h) (fun q _ h => h) ?_ ?_
  · intro E ce q9 u9 t H1 locs1 ht hvm hp hB hz hk1 hS1 hcell hv hcl
    obtain ⟨hE, hw1⟩ := hB
    rw [ht] at hw1
    rcases hE with ⟨rfl, hE⟩ | ⟨rfl, hE⟩
    · refine vx_catch (name := eA) hown [] ⟨0, 9, 12, 13⟩ [⟨0, 9, 16, 15⟩] (by rw [htab]; rfl) (fun z hz => nomatch hz) (by decide) (by decide) (hts (.classLink RL 13 eA) (by decide +kernel)) (va_Nw.use rfl hT.2.2.1.1) hcell hv hcl ?_
      refine lv_astore (lv' := [(4, .ref q9), (0, .ref (ad 0 0)), (1, .int (jI x)), (2, .int (jI k)), (3, .ref (ad 100 0))]) hx hb dL_at_12 hl (by decide) rfl (fun ls hl => ?_)
      refine lv_iconst (v := jI 1) hx hb dL_at_14 rfl ?_
      refine vx_ret ?_
      exact ret_i (mc := 1) (ms := 6) (z := 1) hx hb hr hlocks hw1 hS1 (by omega) (by omega) dL_at_15 ⟨X, rfl, hR, Frm.rf, by omega, Or.inl ⟨rfl, hE⟩⟩
    · refine vx_catch (name := eI) hown [⟨0, 9, 12, 13⟩] ⟨0, 9, 16, 15⟩ [] (by rw [htab]; rfl) (fun z hz => by rw [List.mem_singleton.mp hz]; exact Or.inr ⟨by decide, eA, hts (.classLink RL 13 eA) (by decide +kernel), hT.2.2.2.1.1⟩) (by decide) (by decide) (hts (.classLink RL 15 eI) (by decide +kernel)) (va_Nw.use rfl hT.2.2.1.2.1) hcell hv hcl ?_
      refine lv_astore (lv' := [(4, .ref q9), (0, .ref (ad 0 0)), (1, .int (jI x)), (2, .int (jI k)), (3, .ref (ad 100 0))]) hx hb dL_at_16 hl (by decide) rfl (fun ls hl => ?_)
      refine lv_iconst (v := jI 2) hx hb dL_at_18 rfl ?_
      refine vx_ret ?_
      exact ret_i (mc := 1) (ms := 6) (z := 2) hx hb hr hlocks hw1 hS1 (by omega) (by omega) dL_at_19 ⟨X, rfl, hR, Frm.rf, by omega, Or.inr (Or.inl ⟨rfl, hE⟩)⟩
  · intro r u9 t H1 locs1 ht hvm hp hB hz hk1 hS1
    obtain ⟨z, rfl, rfl, hz9, hv9⟩ := hp
    rw [ht] at hB
    refine x_last hx hb hK.1 hB hS1 (by omega) (by omega) ar_100 (len_E ar_100 (by decide)) (by omega) (by omega) (by omega) dL_at_8 (fun H locs hw hS => ?_)
    refine lv_goto (tgt := 20) hx hb dL_at_9 (by decide) ?_
    refine lv_iconst (v := jI 0) hx hb dL_at_20 rfl ?_
    refine vx_ret ?_
    exact ret_i (mc := 1) (ms := 6) (z := 0) hx hb hr hlocks hw hS (by omega) (by omega) dL_at_21 ⟨_, rfl, rng_set hR (show (-9223372036854775808) ≤ z ∧ z ≤ 9223372036854775807 by omega), Frm.set Frm.rf (by decide), by omega, Or.inr (Or.inr ⟨rfl, by rw [u3_s]; exact hv9⟩)⟩

set_option maxHeartbeats 4000000 in
set_option maxRecDepth 100000 in
theorem c_L_itemAt (l : Launch) (hlT : l.stackTraces = false) (D : va_G) (tc : Nat → ClassId) (base : Nat) (ad : Nat → Int → Nat) (cnt : Nat → Int) (X : Nat → Int → Int → Int) (Y : Nat → Int → Int → Option Int) (ln : Int → Int) (hR : Rng X) (hFx : Fx cnt) (hLn : LnOK ln) (hCI : CInv cnt X Y ln) (x k i : Int) (hqx : -2147483648 ≤ x ∧ x ≤ 2147483647) (hqk : -2147483648 ≤ k ∧ k ≤ 2147483647) (hqi : -2147483648 ≤ i ∧ i ≤ 2147483647) : vx_Met l yL_itemAt wsL_itemAt ({ frames := 7, cells := 1, slots := 6, locals := 107 } : Room) (PcT D tc base (ad, cnt, X, Y, ln) [.ref (ad 0 0), .int (jI x), .int (jI k), .int (jI i), .ref (ad 100 0)]) (QI D tc base (fun z u => ∃ X1 : Nat → Int → Int → Int, u = (ad, cnt, X1, Y, ln) ∧ Rng X1 ∧ Frm [10000] X X1 ∧ (0 ≤ z ∧ z ≤ 3) ∧ iaL X X1 Y ln x k i z)) (XF base) 1 6 (frA base) := by
  refine KH_of (cc := cL_itemAt) (maxL := 6) (ret := some .int) (hh := [(0, 11, 14, 13), (0, 11, 18, 21), (0, 11, 22, 15)]) (by decide) rfl (Nat.le_of_ble_eq_true rfl) ?_
  intro p e s m below meth c ls hx hb hr hml hown hts hlocks htab hl hK hT hw hS
  have hown : s.vm.findClass RL = some m.cls := hown
  have hl : lv_has ls 6 [(0, .ref (ad 0 0)), (1, .int (jI x)), (2, .int (jI k)), (3, .int (jI i)), (4, .ref (ad 100 0))] := hl
  have hc0 : cnt 0 = 1 := hFx.at 0 1 (by decide)
  have hc100 : cnt 100 = 1 := hFx.at 100 1 (by decide)
  refine lv_aload hx hb dL_itemAt_0 (lv_at hl 4 rfl) ?_
  refine lv_iconst (v := jI 0) hx hb dL_itemAt_2 rfl ?_
  refine lv_aload_n hx hb dL_itemAt_3 rfl (lv_at hl 0 rfl) ?_
  refine lv_iload_n hx hb dL_itemAt_4 rfl (lv_at hl 1 rfl) ?_
  refine lv_iload_n hx hb dL_itemAt_5 rfl (lv_at hl 2 rfl) ?_
  refine lv_iload_n hx hb dL_itemAt_6 rfl (lv_at hl 3 rfl) ?_
  refine vx_calll (run_T (As := [.int (jI x), .int (jI k), .int (jI i)]) (rest := [.int (jI 0), .ref (ad 100 0)]) hx hb hml hown hts (c_X8_itemAt l hlT D tc base ad cnt X Y ln hR hFx hLn hCI x k i hqx hqk hqi) (cwV 3 hts gL_itemAt_X8_itemAt rfl rfl rfl (by first | exact hd_X8_itemAt | decide +kernel) ⟨Nat.le_of_ble_eq_true rfl, Nat.le_of_ble_eq_true rfl⟩) hK hT hS hw (by omega) (by omega) sl_0_0 rfl rfl hl.1 rfl (Nat.le_of_ble_eq_true rfl) dL_itemAt_7 ⟨Nat.le_of_ble_eq_true rfl, Nat.le_of_ble_eq_true rfl⟩) hS (fun q _ h => h) (fun q h => h) (fun q _ h => h) ?_ ?_
  · intro E ce q9 u9 t H1 locs1 ht hvm hp hB hz hk1 hS1 hcell hv hcl
    obtain ⟨hE, hw1⟩ := hB
    rw [ht] at hw1
    rcases hE with ⟨rfl, hE⟩ | ⟨rfl, hE⟩ | ⟨rfl, hE⟩
    · refine vx_catch (name := eA) hown [] ⟨0, 11, 14, 13⟩ [⟨0, 11, 18, 21⟩, ⟨0, 11, 22, 15⟩] (by rw [htab]; rfl) (fun z hz => nomatch hz) (by decide) (by decide) (hts (.classLink RL 13 eA) (by decide +kernel)) (va_Nw.use rfl hT.2.2.1.1) hcell hv hcl ?_
      refine lv_astore (lv' := [(5, .ref q9), (0, .ref (ad 0 0)), (1, .int (jI x)), (2, .int (jI k)), (3, .int (jI i)), (4, .ref (ad 100 0))]) hx hb dL_itemAt_14 hl (by decide) rfl (fun ls hl => ?_)
      refine lv_iconst (v := jI 1) hx hb dL_itemAt_16 rfl ?_
      refine vx_ret ?_
      exact ret_i (mc := 1) (ms := 6) (z := 1) hx hb hr hlocks hw1 hS1 (by omega) (by omega) dL_itemAt_17 ⟨X, rfl, hR, Frm.rf, by omega, Or.inl ⟨rfl, hE⟩⟩
    · refine vx_catch (name := eI) hown [⟨0, 11, 14, 13⟩, ⟨0, 11, 18, 21⟩] ⟨0, 11, 22, 15⟩ [] (by rw [htab]; rfl) (fun z hz => by exact (List.mem_cons.mp hz).elim (fun h => by rw [h]; exact Or.inr ⟨by decide, eA, hts (.classLink RL 13 eA) (by decide +kernel), hT.2.2.2.1.1⟩) (fun h => by rw [List.mem_singleton.mp h]; exact Or.inr ⟨by decide, eS, hts (.classLink RL 21 eS) (by decide +kernel), hT.2.2.2.1.2.2⟩)) (by decide) (by decide) (hts (.classLink RL 15 eI) (by decide +kernel)) (va_Nw.use rfl hT.2.2.1.2.1) hcell hv hcl ?_
      refine lv_astore (lv' := [(5, .ref q9), (0, .ref (ad 0 0)), (1, .int (jI x)), (2, .int (jI k)), (3, .int (jI i)), (4, .ref (ad 100 0))]) hx hb dL_itemAt_22 hl (by decide) rfl (fun ls hl => ?_)
      refine lv_iconst (v := jI 3) hx hb dL_itemAt_24 rfl ?_
      refine vx_ret ?_
      exact ret_i (mc := 1) (ms := 6) (z := 3) hx hb hr hlocks hw1 hS1 (by omega) (by omega) dL_itemAt_25 ⟨X, rfl, hR, Frm.rf, by omega, Or.inr (Or.inl ⟨rfl, hE⟩)⟩
    · refine vx_catch (name := eS) hown [⟨0, 11, 14, 13⟩] ⟨0, 11, 18, 21⟩ [⟨0, 11, 22, 15⟩] (by rw [htab]; rfl) (fun z hz => by rw [List.mem_singleton.mp hz]; exact Or.inr ⟨by decide, eA, hts (.classLink RL 13 eA) (by decide +kernel), hT.2.2.2.1.2.1⟩) (by decide) (by decide) (hts (.classLink RL 21 eS) (by decide +kernel)) (va_Nw.use rfl hT.2.2.1.2.2) hcell hv hcl ?_
      refine lv_astore (lv' := [(5, .ref q9), (0, .ref (ad 0 0)), (1, .int (jI x)), (2, .int (jI k)), (3, .int (jI i)), (4, .ref (ad 100 0))]) hx hb dL_itemAt_18 hl (by decide) rfl (fun ls hl => ?_)
      refine lv_iconst (v := jI 2) hx hb dL_itemAt_20 rfl ?_
      refine vx_ret ?_
      exact ret_i (mc := 1) (ms := 6) (z := 2) hx hb hr hlocks hw1 hS1 (by omega) (by omega) dL_itemAt_21 ⟨X, rfl, hR, Frm.rf, by omega, Or.inr (Or.inr (Or.inl ⟨rfl, hE⟩))⟩
  · intro r u9 t H1 locs1 ht hvm hp hB hz hk1 hS1
    obtain ⟨z, rfl, rfl, hz9, hv9⟩ := hp
    rw [ht] at hB
    refine x_last hx hb hK.1 hB hS1 (by omega) (by omega) ar_100 (len_E ar_100 (by decide)) (by omega) (by omega) (by omega) dL_itemAt_10 (fun H locs hw hS => ?_)
    refine lv_goto (tgt := 26) hx hb dL_itemAt_11 (by decide) ?_
    refine lv_iconst (v := jI 0) hx hb dL_itemAt_26 rfl ?_
    refine vx_ret ?_
    exact ret_i (mc := 1) (ms := 6) (z := 0) hx hb hr hlocks hw hS (by omega) (by omega) dL_itemAt_27 ⟨_, rfl, rng_set hR (show (-9223372036854775808) ≤ z ∧ z ≤ 9223372036854775807 by omega), Frm.set Frm.rf (by decide), by omega, Or.inr (Or.inr (Or.inr ⟨rfl, by rw [u3_s]; exact hv9⟩))⟩
end
