set_option maxHeartbeats 4000000 in
set_option maxRecDepth 100000 in
theorem c_X9_newRow (l : Launch) (D : va_G) (tc : Nat → ClassId) (base : Nat) (ad : Nat → Int → Nat) (cnt : Nat → Int) (X : Nat → Int → Int → Int) (Y : Nat → Int → Int → Option Int) (ln : Int → Int) (hR : Rng X) (hFx : Fx cnt) (hMI : MInv X) (lane n : Int) (hlane : 0 ≤ lane ∧ lane ≤ 5) (hn : 0 ≤ n ∧ n ≤ 12) : KI l D tc base yX9_newRow wsX9_newRow ({ frames := 1, cells := 0, slots := 0, locals := 22 } : Room) [.ref (ad 40 0), .int (jI lane), .int (jI n)] (ad, cnt, X, Y, ln) 0 0 (fun z u => ∃ X1 : Nat → Int → Int → Int, u = (ad, cnt, X1, Y, ln) ∧ Rng X1 ∧ Frm [6000, 5700, 5800, 5900] X X1 ∧ MInv X1 ∧ (0 ≤ z ∧ z ≤ 399)) := by
  refine K_of (cc := cX9_newRow) (maxL := 5) (ret := (some .int)) (by decide) rfl (Nat.le_of_ble_eq_true rfl) ?_
  intro p e s m below meth c ls hx hb hr hml hown hts hlocks hl hK hw hS
  have hown : s.vm.findClass RX9 = some m.cls := hown
  have hi9 : ∀ w ∈ wsX90, w ∈ wsX9_newRow := fun w h => List.mem_cons_of_mem _ (List.mem_append_right _ h)
  have hf9 : fctx s m _ RX9 wsX9_newRow D tc RX9 TX9 51 9 := ⟨hts, hi9, hown, hK.1, rfl⟩
  have lk13 := hts (.fieldLink RX9 13 "StateRecordsModel" "fMany" "[I") (by decide +kernel)
  have lk45 := hts (.fieldLink RX9 45 "StateRecordsModel" "xType" "[I") (by decide +kernel)
  have lk48 := hts (.fieldLink RX9 48 "StateRecordsModel" "xVal" "[J") (by decide +kernel)
  have lk51 := hts (.fieldLink RX9 51 "StateRecordsModel" "rLane" "[I") (by decide +kernel)
  have lk54 := hts (.fieldLink RX9 54 "StateRecordsModel" "rMany" "[I") (by decide +kernel)
  have lk57 := hts (.fieldLink RX9 57 "StateRecordsModel" "rItems" "[J") (by decide +kernel)
  have lk60 := hts (.fieldLink RX9 60 "StateRecordsModel" "rUsed" "[Z") (by decide +kernel)
  have lk72 := hts (.fieldLink RX9 72 "StateRecordsModel" "noteRow" "[I") (by decide +kernel)
  have lk151 := hts (.fieldLink RX9 151 "StateRecordsModel" "things" "I") (by decide +kernel)
  have lk173 := hts (.fieldLink RX9 173 "StateRecordsModel" "notes" "I") (by decide +kernel)
  have hc40 : cnt 40 = 1 := hFx.at 40 1 (by decide)
  have hc44 : cnt 44 = 1 := hFx.at 44 1 (by decide)
  have hc55 : cnt 55 = 1 := hFx.at 55 1 (by decide)
  have hc56 : cnt 56 = 1 := hFx.at 56 1 (by decide)
  have hc57 : cnt 57 = 1 := hFx.at 57 1 (by decide)
  have hc58 : cnt 58 = 1 := hFx.at 58 1 (by decide)
  have hc59 : cnt 59 = 1 := hFx.at 59 1 (by decide)
  have hc60 : cnt 60 = 1 := hFx.at 60 1 (by decide)
  have hc66 : cnt 66 = 1 := hFx.at 66 1 (by decide)
  have hl : lv_has ls 5 [(0, .ref (ad 40 0)), (1, .int (jI lane)), (2, .int (jI n))] := hl
  have fstypes : 0 ≤ X 40 0 2 ∧ X 40 0 2 ≤ 8 := hR 40 0 2
  have fsthings : 0 ≤ X 40 0 13 ∧ X 40 0 13 ≤ 30 := hR 40 0 13
  have fsmarks : 0 ≤ X 40 0 20 ∧ X 40 0 20 ≤ 4 := hR 40 0 20
  have fsnotes : 0 ≤ X 40 0 22 ∧ X 40 0 22 ≤ 80 := hR 40 0 22
  refine lv_iconst (v := jI 0) hx hb dX9_newRow_0 rfl ?_
  refine lv_istore_n (lv' := [(3, .int (jI 0)), (0, .ref (ad 40 0)), (1, .int (jI lane)), (2, .int (jI n))]) hx hb dX9_newRow_1 rfl hl (by decide) rfl (fun ls hl => ?_)
  have lp2 : ∀ (nn : Nat) (k : Int) (Xa : Nat → Int → Int → Int) (H : Heap) (locs : List Loc) (ls : Array Slot), (400 - k) < (nn : Int) → (Rng Xa) → (Frm [6000] X Xa) → (0 ≤ k ∧ k ≤ 400) → (∀ j, 0 ≤ j → j < k → Xa 60 0 j = 0) → wd D tc base (ad, cnt, Xa, Y, ln) H → va_S (frA base) s.heap H locs → lv_has ls 5 [(0, .ref (ad 40 0)), (1, .int (jI lane)), (2, .int (jI n)), (3, .int (jI k))] → W p l e ({ frames := 1, cells := 0, slots := 0, locals := 22 } : Room) s m ([.ref (ad 40 0), .int (jI lane), .int (jI n)] : List Value).toArray below meth c H locs 0 0 (MQ below (QI D tc base (fun z u => ∃ X1 : Nat → Int → Int → Int, u = (ad, cnt, X1, Y, ln) ∧ Rng X1 ∧ Frm [6000, 5700, 5800, 5900] X X1 ∧ MInv X1 ∧ (0 ≤ z ∧ z ≤ 399))) ([.ref (ad 40 0), .int (jI lane), .int (jI n)] : List Value).toArray s 0 0 (frA base)) (F0 m 2 ls []) := by
    intro nn
    induction nn with
    | zero => intro k Xa H locs ls hm hRXa hGXa hk hz hw hS hl; exfalso; omega
    | succ nn ih2 =>
      intro k Xa H locs ls hm hRXa hGXa hk hz hw hS hl
      have hFXa : Frm [6000, 5700, 5800, 5900] X Xa := Frm.tr Frm.rf (Frm.mono hGXa (by decide))
      refine lv_iload_n hx hb dX9_newRow_2 rfl (lv_at hl 3 rfl) ?_
      refine lv_sipush (v := jI 400) hx hb dX9_newRow_3 (by decide) ?_
      refine x_icmp_ge (tgt := 22) hx hb (by omega) (by omega) dX9_newRow_6 (by decide) (fun c1 => ?_) (fun c1 => ?_)
      · refine lv_iconst (v := jI 0) hx hb dX9_newRow_22 rfl ?_
        refine lv_istore_n (lv' := [(3, .int (jI 0)), (0, .ref (ad 40 0)), (1, .int (jI lane)), (2, .int (jI n))]) hx hb dX9_newRow_23 rfl hl (by decide) rfl (fun ls hl => ?_)
        have lp24 : ∀ (nn : Nat) (x : Int) (Xb : Nat → Int → Int → Int) (H : Heap) (locs : List Loc) (ls : Array Slot), (30 - x) < (nn : Int) → (Rng Xb) → (Frm [6000] Xa Xb) → (0 ≤ x ∧ x ≤ 30) → (Ucov Xb (5 * x)) → wd D tc base (ad, cnt, Xb, Y, ln) H → va_S (frA base) s.heap H locs → lv_has ls 5 [(0, .ref (ad 40 0)), (1, .int (jI lane)), (2, .int (jI n)), (3, .int (jI x))] → W p l e ({ frames := 1, cells := 0, slots := 0, locals := 22 } : Room) s m ([.ref (ad 40 0), .int (jI lane), .int (jI n)] : List Value).toArray below meth c H locs 0 0 (MQ below (QI D tc base (fun z u => ∃ X1 : Nat → Int → Int → Int, u = (ad, cnt, X1, Y, ln) ∧ Rng X1 ∧ Frm [6000, 5700, 5800, 5900] X X1 ∧ MInv X1 ∧ (0 ≤ z ∧ z ≤ 399))) ([.ref (ad 40 0), .int (jI lane), .int (jI n)] : List Value).toArray s 0 0 (frA base)) (F0 m 24 ls []) := by
          intro nn
          induction nn with
          | zero => intro x Xb H locs ls hm hRXb hGXb hx3 hU hw hS hl; exfalso; omega
          | succ nn ih24 =>
            intro x Xb H locs ls hm hRXb hGXb hx3 hU hw hS hl
            have hFXb : Frm [6000, 5700, 5800, 5900] X Xb := Frm.tr hFXa (Frm.mono hGXb (by decide))
            refine lv_iload_n hx hb dX9_newRow_24 rfl (lv_at hl 3 rfl) ?_
            refine lv_aload_n hx hb dX9_newRow_25 rfl (lv_at hl 0 rfl) ?_
            refine x_geti (jz := 13) hx hb hf9 hw (by omega) (by omega) sl_40_13 rfl lk151 dX9_newRow_26 ?_
            have e2 : Xb 40 0 13 = X 40 0 13 := by rw [hGXb 40 0 13 (show 4014 ∉ [6000] by decide), hGXa 40 0 13 (show 4014 ∉ [6000] by decide)]
            rw [e2]
            have f3 : 0 ≤ X 40 0 13 ∧ X 40 0 13 ≤ 30 := hR 40 0 13
            refine x_icmp_ge (tgt := 108) hx hb (by omega) (by omega) dX9_newRow_29 (by decide) (fun c4 => ?_) (fun c4 => ?_)
            · refine lv_iconst (v := jI 0) hx hb dX9_newRow_108 rfl ?_
              refine lv_istore_n (lv' := [(3, .int (jI 0)), (0, .ref (ad 40 0)), (1, .int (jI lane)), (2, .int (jI n))]) hx hb dX9_newRow_109 rfl hl (by decide) rfl (fun ls hl => ?_)
              have lp110 : ∀ (nn : Nat) (k : Int) (Xd : Nat → Int → Int → Int) (H : Heap) (locs : List Loc) (ls : Array Slot), (80 - k) < (nn : Int) → (Rng Xd) → (Frm [6000] Xb Xd) → (0 ≤ k ∧ k ≤ 80) → (Ucov Xd (150 + k)) → wd D tc base (ad, cnt, Xd, Y, ln) H → va_S (frA base) s.heap H locs → lv_has ls 5 [(0, .ref (ad 40 0)), (1, .int (jI lane)), (2, .int (jI n)), (3, .int (jI k))] → W p l e ({ frames := 1, cells := 0, slots := 0, locals := 22 } : Room) s m ([.ref (ad 40 0), .int (jI lane), .int (jI n)] : List Value).toArray below meth c H locs 0 0 (MQ below (QI D tc base (fun z u => ∃ X1 : Nat → Int → Int → Int, u = (ad, cnt, X1, Y, ln) ∧ Rng X1 ∧ Frm [6000, 5700, 5800, 5900] X X1 ∧ MInv X1 ∧ (0 ≤ z ∧ z ≤ 399))) ([.ref (ad 40 0), .int (jI lane), .int (jI n)] : List Value).toArray s 0 0 (frA base)) (F0 m 110 ls []) := by
                intro nn
                induction nn with
                | zero => intro k Xd H locs ls hm hRXd hGXd hk hU hw hS hl; exfalso; omega
                | succ nn ih110 =>
                  intro k Xd H locs ls hm hRXd hGXd hk hU hw hS hl
                  have hFXd : Frm [6000, 5700, 5800, 5900] X Xd := Frm.tr hFXb (Frm.mono hGXd (by decide))
                  refine lv_iload_n hx hb dX9_newRow_110 rfl (lv_at hl 3 rfl) ?_
                  refine lv_aload_n hx hb dX9_newRow_111 rfl (lv_at hl 0 rfl) ?_
                  refine x_geti (jz := 22) hx hb hf9 hw (by omega) (by omega) sl_40_22 rfl lk173 dX9_newRow_112 ?_
                  have e5 : Xd 40 0 22 = X 40 0 22 := by rw [hGXd 40 0 22 (show 4023 ∉ [6000] by decide), hGXb 40 0 22 (show 4023 ∉ [6000] by decide), hGXa 40 0 22 (show 4023 ∉ [6000] by decide)]
                  rw [e5]
                  have f6 : 0 ≤ X 40 0 22 ∧ X 40 0 22 ≤ 80 := hR 40 0 22
                  refine x_icmp_ge (tgt := 145) hx hb (by omega) (by omega) dX9_newRow_115 (by decide) (fun c7 => ?_) (fun c7 => ?_)
                  · refine lv_iconst (v := jI 0) hx hb dX9_newRow_145 rfl ?_
                    refine lv_istore_n (lv' := [(3, .int (jI 0)), (0, .ref (ad 40 0)), (1, .int (jI lane)), (2, .int (jI n))]) hx hb dX9_newRow_146 rfl hl (by decide) rfl (fun ls hl => ?_)
                    have lp147 : ∀ (nn : Nat) (r : Int) (H : Heap) (locs : List Loc) (ls : Array Slot), (230 - r) < (nn : Int) → (0 ≤ r ∧ r ≤ 230) → (∀ j, 0 ≤ j → j < r → Xd 60 0 j = 1) → wd D tc base (ad, cnt, Xd, Y, ln) H → va_S (frA base) s.heap H locs → lv_has ls 5 [(0, .ref (ad 40 0)), (1, .int (jI lane)), (2, .int (jI n)), (3, .int (jI r))] → W p l e ({ frames := 1, cells := 0, slots := 0, locals := 22 } : Room) s m ([.ref (ad 40 0), .int (jI lane), .int (jI n)] : List Value).toArray below meth c H locs 0 0 (MQ below (QI D tc base (fun z u => ∃ X1 : Nat → Int → Int → Int, u = (ad, cnt, X1, Y, ln) ∧ Rng X1 ∧ Frm [6000, 5700, 5800, 5900] X X1 ∧ MInv X1 ∧ (0 ≤ z ∧ z ≤ 399))) ([.ref (ad 40 0), .int (jI lane), .int (jI n)] : List Value).toArray s 0 0 (frA base)) (F0 m 147 ls []) := by
                      intro nn
                      induction nn with
                      | zero => intro r H locs ls hm hr0 hu hw hS hl; exfalso; omega
                      | succ nn ih147 =>
                        intro r H locs ls hm hr0 hu hw hS hl
                        refine lv_aload_n hx hb dX9_newRow_147 rfl (lv_at hl 0 rfl) ?_
                        refine x_geto hx hb hf9 hw (by omega) (by omega) sl_40_19 lk60 dX9_newRow_148 ?_
                        refine lv_iload_n hx hb dX9_newRow_151 rfl (lv_at hl 3 rfl) ?_
                        refine x_zald hx hb hK.1 hw (by omega) (by omega) ar_60 (len_E ar_60 (by decide)) (by omega) (by omega) (by omega) dX9_newRow_152 ?_
                        have f8 : 0 ≤ Xd 60 0 r ∧ Xd 60 0 r ≤ 1 := hRXd 60 0 r
                        refine x_if_eq (tgt := 162) hx hb (by omega) dX9_newRow_153 (by decide) (fun c9 => ?_) (fun c9 => ?_)
                        · refine lv_aload_n hx hb dX9_newRow_162 rfl (lv_at hl 0 rfl) ?_
                          refine x_geto hx hb hf9 hw (by omega) (by omega) sl_40_16 lk51 dX9_newRow_163 ?_
                          refine lv_iload_n hx hb dX9_newRow_166 rfl (lv_at hl 3 rfl) ?_
                          refine lv_iload_n hx hb dX9_newRow_167 rfl (lv_at hl 1 rfl) ?_
                          refine x_iast hx hb hK.1 hw hS (by omega) (by omega) ar_57 (len_E ar_57 (by decide)) (by omega) (by omega) (by omega) dX9_newRow_168 (fun H locs hw hS => ?_)
                          obtain ⟨X10, hX10⟩ : ∃ Xq, Xq = u3 Xd 57 0 r lane := ⟨_, rfl⟩
                          rw [← hX10] at hw
                          have hRX10 : Rng X10 := by rw [hX10]; exact rng_set hRXd (show 0 ≤ lane ∧ lane ≤ 5 by omega)
                          have hVX10 : X10 57 0 r = lane := by rw [hX10]; exact u3_s _ _ _ _ _
                          have hFX10 : Frm [6000, 5700, 5800, 5900] X X10 := by rw [hX10]; exact Frm.set hFXd (show 5700 ∈ [6000, 5700, 5800, 5900] by decide)
                          refine lv_aload_n hx hb dX9_newRow_169 rfl (lv_at hl 0 rfl) ?_
                          refine x_geto hx hb hf9 hw (by omega) (by omega) sl_40_17 lk54 dX9_newRow_170 ?_
                          refine lv_iload_n hx hb dX9_newRow_173 rfl (lv_at hl 3 rfl) ?_
                          refine lv_iload_n hx hb dX9_newRow_174 rfl (lv_at hl 2 rfl) ?_
                          refine x_iast hx hb hK.1 hw hS (by omega) (by omega) ar_58 (len_E ar_58 (by decide)) (by omega) (by omega) (by omega) dX9_newRow_175 (fun H locs hw hS => ?_)
                          obtain ⟨X11, hX11⟩ : ∃ Xq, Xq = u3 X10 58 0 r n := ⟨_, rfl⟩
                          rw [← hX11] at hw
                          have hRX11 : Rng X11 := by rw [hX11]; exact rng_set hRX10 (show 0 ≤ n ∧ n ≤ 12 by omega)
                          have hVX11 : X11 58 0 r = n := by rw [hX11]; exact u3_s _ _ _ _ _
                          have hFX11 : Frm [6000, 5700, 5800, 5900] X X11 := by rw [hX11]; exact Frm.set hFX10 (show 5800 ∈ [6000, 5700, 5800, 5900] by decide)
                          refine lv_iconst (v := jI 0) hx hb dX9_newRow_176 rfl ?_
                          refine lv_istore (lv' := [(4, .int (jI 0)), (0, .ref (ad 40 0)), (1, .int (jI lane)), (2, .int (jI n)), (3, .int (jI r))]) hx hb dX9_newRow_177 hl (by decide) rfl (fun ls hl => ?_)
                          have lp179 : ∀ (nn : Nat) (k : Int) (Xe : Nat → Int → Int → Int) (H : Heap) (locs : List Loc) (ls : Array Slot), (12 - k) < (nn : Int) → (Rng Xe) → (Frm [5900] X11 Xe) → (0 ≤ k ∧ k ≤ 12) → wd D tc base (ad, cnt, Xe, Y, ln) H → va_S (frA base) s.heap H locs → lv_has ls 5 [(0, .ref (ad 40 0)), (1, .int (jI lane)), (2, .int (jI n)), (3, .int (jI r)), (4, .int (jI k))] → W p l e ({ frames := 1, cells := 0, slots := 0, locals := 22 } : Room) s m ([.ref (ad 40 0), .int (jI lane), .int (jI n)] : List Value).toArray below meth c H locs 0 0 (MQ below (QI D tc base (fun z u => ∃ X1 : Nat → Int → Int → Int, u = (ad, cnt, X1, Y, ln) ∧ Rng X1 ∧ Frm [6000, 5700, 5800, 5900] X X1 ∧ MInv X1 ∧ (0 ≤ z ∧ z ≤ 399))) ([.ref (ad 40 0), .int (jI lane), .int (jI n)] : List Value).toArray s 0 0 (frA base)) (F0 m 179 ls []) := by
                            intro nn
                            induction nn with
                            | zero => intro k Xe H locs ls hm hRXe hGXe hk hw hS hl; exfalso; omega
                            | succ nn ih179 =>
                              intro k Xe H locs ls hm hRXe hGXe hk hw hS hl
                              have hFXe : Frm [6000, 5700, 5800, 5900] X Xe := Frm.tr hFX11 (Frm.mono hGXe (by decide))
                              refine lv_iload hx hb dX9_newRow_179 (lv_at hl 4 rfl) ?_
                              refine lv_bipush (v := jI 12) hx hb dX9_newRow_181 (by decide) ?_
                              refine x_icmp_ge (tgt := 205) hx hb (by omega) (by omega) dX9_newRow_183 (by decide) (fun c12 => ?_) (fun c12 => ?_)
                              · refine lv_iload_n hx hb dX9_newRow_205 rfl (lv_at hl 3 rfl) ?_
                                refine ret_i (mc := 0) (ms := 0) hx hb hr hlocks hw hS (by omega) (by omega) dX9_newRow_206 ?_
                                have q14 : Frm [5700, 5800, 5900, 6000] X Xa := Frm.tr Frm.rf (Frm.mono hGXa (by decide))
                                have q15 : Frm [5700, 5800, 5900, 6000] X Xb := Frm.tr q14 (Frm.mono hGXb (by decide))
                                have q16 : Frm [5700, 5800, 5900, 6000] X Xd := Frm.tr q15 (Frm.mono hGXd (by decide))
                                have q17 : Frm [5700, 5800, 5900, 6000] X X10 := by rw [hX10]; exact Frm.set q16 (show 5700 ∈ [5700, 5800, 5900, 6000] by decide)
                                have q18 : Frm [5700, 5800, 5900, 6000] X X11 := by rw [hX11]; exact Frm.set q17 (show 5800 ∈ [5700, 5800, 5900, 6000] by decide)
                                have q19 : Frm [5700, 5800, 5900, 6000] X Xe := Frm.tr q18 (Frm.mono hGXe (by decide))
                                have hMq13 : MInv Xe := minv_frm hMI q19 (by decide)
                                exact ⟨Xe, rfl, hRXe, hFXe, hMq13, by omega⟩
                              · refine lv_aload_n hx hb dX9_newRow_186 rfl (lv_at hl 0 rfl) ?_
                                refine x_geto hx hb hf9 hw (by omega) (by omega) sl_40_18 lk57 dX9_newRow_187 ?_
                                refine lv_bipush (v := jI 12) hx hb dX9_newRow_190 (by decide) ?_
                                refine lv_iload_n hx hb dX9_newRow_192 rfl (lv_at hl 3 rfl) ?_
                                refine x_imul hx hb dX9_newRow_193 ?_
                                refine lv_iload hx hb dX9_newRow_194 (lv_at hl 4 rfl) ?_
                                refine x_iadd hx hb dX9_newRow_196 ?_
                                refine lv_lconst (v := jL 0) hx hb dX9_newRow_197 (by decide) ?_
                                refine x_last hx hb hK.1 hw hS (by omega) (by omega) ar_59 (len_E ar_59 (by decide)) (by omega) (by omega) (by omega) dX9_newRow_198 (fun H locs hw hS => ?_)
                                obtain ⟨X20, hX20⟩ : ∃ Xq, Xq = u3 Xe 59 0 ((12 * r) + k) 0 := ⟨_, rfl⟩
                                rw [← hX20] at hw
                                have hRX20 : Rng X20 := by rw [hX20]; exact rng_set hRXe (show (-9223372036854775808) ≤ 0 ∧ 0 ≤ 9223372036854775807 by omega)
                                have hVX20 : X20 59 0 ((12 * r) + k) = 0 := by rw [hX20]; exact u3_s _ _ _ _ _
                                have hFX20 : Frm [6000, 5700, 5800, 5900] X X20 := by rw [hX20]; exact Frm.set hFXe (show 5900 ∈ [6000, 5700, 5800, 5900] by decide)
                                refine lv_iinc (v := jI (k + 1)) (lv' := [(4, .int (jI (k + 1))), (0, .ref (ad 40 0)), (1, .int (jI lane)), (2, .int (jI n)), (3, .int (jI r))]) hx hb dX9_newRow_199 hl (k := 4) rfl (jI_add _ _) (by decide) rfl (fun ls hl => ?_)
                                refine lv_goto (tgt := 179) hx hb dX9_newRow_202 (by decide) ?_
                                have q21 : Frm [5900] X11 Xe := Frm.tr Frm.rf (Frm.mono hGXe (by decide))
                                have q22 : Frm [5900] X11 X20 := by rw [hX20]; exact Frm.set q21 (show 5900 ∈ [5900] by decide)
                                exact ih179 (k + 1) X20 _ _ _ (by omega) hRX20 q22 (by omega) hw hS (lv_sub hl [1, 2, 3, 4, 0] rfl)
                          exact lp179 (12 - 0 : Int).toNat.succ 0 X11 _ _ _ (by omega) hRX11 Frm.rf (by omega) hw hS (lv_sub hl [1, 2, 3, 4, 0] rfl)
                        · refine lv_iinc (v := jI (r + 1)) (lv' := [(3, .int (jI (r + 1))), (0, .ref (ad 40 0)), (1, .int (jI lane)), (2, .int (jI n))]) hx hb dX9_newRow_156 hl (k := 3) rfl (jI_add _ _) (by decide) rfl (fun ls hl => ?_)
                          refine lv_goto (tgt := 147) hx hb dX9_newRow_159 (by decide) ?_
                          exact ih147 (r + 1) _ _ _ (by omega) (by have := hU.fin (r := r + 1) (by omega) (fun j a b => if hj : j = r then (by rw [hj]; omega) else hu j a (by omega)); omega) (fun j a b => if hj : j = r then (by rw [hj]; omega) else hu j a (by omega)) hw hS (lv_sub hl [1, 2, 3, 0] rfl)
                    exact lp147 (230 - 0 : Int).toNat.succ 0 _ _ _ (by omega) (by omega) (fun j a b => by omega) hw hS (lv_sub hl [1, 2, 3, 0] rfl)
                  · refine lv_aload_n hx hb dX9_newRow_118 rfl (lv_at hl 0 rfl) ?_
                    refine x_geto hx hb hf9 hw (by omega) (by omega) sl_40_25 lk72 dX9_newRow_119 ?_
                    refine lv_iload_n hx hb dX9_newRow_122 rfl (lv_at hl 3 rfl) ?_
                    refine x_iald hx hb hK.1 hw (by omega) (by omega) ar_66 (len_E ar_66 (by decide)) (by omega) (by omega) (by omega) dX9_newRow_123 ?_
                    have e23 : ∀ p9 q9 : Int, Xd 66 p9 q9 = X 66 p9 q9 := fun p9 q9 => by rw [hGXd 66 p9 q9 (show 6600 ∉ [6000] by decide), hGXb 66 p9 q9 (show 6600 ∉ [6000] by decide), hGXa 66 p9 q9 (show 6600 ∉ [6000] by decide)]
                    rw [e23 0 k]
                    have f24 : (-1) ≤ X 66 0 k ∧ X 66 0 k ≤ 399 := hR 66 0 k
                    refine x_if_lt (tgt := 139) hx hb (by omega) dX9_newRow_124 (by decide) (fun c25 => ?_) (fun c25 => ?_)
                    · refine lv_iinc (v := jI (k + 1)) (lv' := [(3, .int (jI (k + 1))), (0, .ref (ad 40 0)), (1, .int (jI lane)), (2, .int (jI n))]) hx hb dX9_newRow_139 hl (k := 3) rfl (jI_add _ _) (by decide) rfl (fun ls hl => ?_)
                      refine lv_goto (tgt := 110) hx hb dX9_newRow_142 (by decide) ?_
                      have q26 : Frm [6000] Xb Xd := Frm.tr Frm.rf (Frm.mono hGXd (by decide))
                      exact ih110 (k + 1) Xd _ _ _ (by omega) hRXd q26 (by omega) (hU.mono (by omega)) hw hS (lv_sub hl [1, 2, 3, 0] rfl)
                    · refine lv_aload_n hx hb dX9_newRow_127 rfl (lv_at hl 0 rfl) ?_
                      refine x_geto hx hb hf9 hw (by omega) (by omega) sl_40_19 lk60 dX9_newRow_128 ?_
                      refine lv_aload_n hx hb dX9_newRow_131 rfl (lv_at hl 0 rfl) ?_
                      refine x_geto hx hb hf9 hw (by omega) (by omega) sl_40_25 lk72 dX9_newRow_132 ?_
                      refine lv_iload_n hx hb dX9_newRow_135 rfl (lv_at hl 3 rfl) ?_
                      refine x_iald hx hb hK.1 hw (by omega) (by omega) ar_66 (len_E ar_66 (by decide)) (by omega) (by omega) (by omega) dX9_newRow_136 ?_
                      have e27 : ∀ p9 q9 : Int, Xd 66 p9 q9 = X 66 p9 q9 := fun p9 q9 => by rw [hGXd 66 p9 q9 (show 6600 ∉ [6000] by decide), hGXb 66 p9 q9 (show 6600 ∉ [6000] by decide), hGXa 66 p9 q9 (show 6600 ∉ [6000] by decide)]
                      rw [e27 0 k]
                      have f28 : (-1) ≤ X 66 0 k ∧ X 66 0 k ≤ 399 := hR 66 0 k
                      refine lv_iconst (v := jI 1) hx hb dX9_newRow_137 rfl ?_
                      refine x_zast hx hb hK.1 hw hS (by omega) (by omega) ar_60 (len_E ar_60 (by decide)) (by omega) (by omega) (by omega) (by omega) (by omega) dX9_newRow_138 (fun H locs hw hS => ?_)
                      obtain ⟨X29, hX29⟩ : ∃ Xq, Xq = u3 Xd 60 0 (X 66 0 k) 1 := ⟨_, rfl⟩
                      rw [← hX29] at hw
                      have hRX29 : Rng X29 := by rw [hX29]; exact rng_set hRXd (show 0 ≤ 1 ∧ 1 ≤ 1 by omega)
                      have hVX29 : X29 60 0 (X 66 0 k) = 1 := by rw [hX29]; exact u3_s _ _ _ _ _
                      have hFX29 : Frm [6000, 5700, 5800, 5900] X X29 := by rw [hX29]; exact Frm.set hFXd (show 6000 ∈ [6000, 5700, 5800, 5900] by decide)
                      refine lv_iinc (v := jI (k + 1)) (lv' := [(3, .int (jI (k + 1))), (0, .ref (ad 40 0)), (1, .int (jI lane)), (2, .int (jI n))]) hx hb dX9_newRow_139 hl (k := 3) rfl (jI_add _ _) (by decide) rfl (fun ls hl => ?_)
                      refine lv_goto (tgt := 110) hx hb dX9_newRow_142 (by decide) ?_
                      have q30 : Frm [6000] Xb Xd := Frm.tr Frm.rf (Frm.mono hGXd (by decide))
                      have q31 : Frm [6000] Xb X29 := by rw [hX29]; exact Frm.set q30 (show 6000 ∈ [6000] by decide)
                      exact ih110 (k + 1) X29 _ _ _ (by omega) hRX29 q31 (by omega) (by rw [hX29]; exact (hU.set).mono (by omega)) hw hS (lv_sub hl [1, 2, 3, 0] rfl)
              exact lp110 (80 - 0 : Int).toNat.succ 0 Xb _ _ _ (by omega) hRXb Frm.rf (by omega) (hU.mono (by omega)) hw hS (lv_sub hl [1, 2, 3, 0] rfl)
            · refine lv_iconst (v := jI 0) hx hb dX9_newRow_32 rfl ?_
              refine lv_istore (lv' := [(4, .int (jI 0)), (0, .ref (ad 40 0)), (1, .int (jI lane)), (2, .int (jI n)), (3, .int (jI x))]) hx hb dX9_newRow_33 hl (by decide) rfl (fun ls hl => ?_)
              have lp35 : ∀ (nn : Nat) (k : Int) (Xc : Nat → Int → Int → Int) (H : Heap) (locs : List Loc) (ls : Array Slot), (5 - k) < (nn : Int) → (Rng Xc) → (Frm [6000] Xb Xc) → (0 ≤ k ∧ k ≤ 5) → (Ucov Xc (5 * x + k)) → wd D tc base (ad, cnt, Xc, Y, ln) H → va_S (frA base) s.heap H locs → lv_has ls 5 [(0, .ref (ad 40 0)), (1, .int (jI lane)), (2, .int (jI n)), (3, .int (jI x)), (4, .int (jI k))] → W p l e ({ frames := 1, cells := 0, slots := 0, locals := 22 } : Room) s m ([.ref (ad 40 0), .int (jI lane), .int (jI n)] : List Value).toArray below meth c H locs 0 0 (MQ below (QI D tc base (fun z u => ∃ X1 : Nat → Int → Int → Int, u = (ad, cnt, X1, Y, ln) ∧ Rng X1 ∧ Frm [6000, 5700, 5800, 5900] X X1 ∧ MInv X1 ∧ (0 ≤ z ∧ z ≤ 399))) ([.ref (ad 40 0), .int (jI lane), .int (jI n)] : List Value).toArray s 0 0 (frA base)) (F0 m 35 ls []) := by
                intro nn
                induction nn with
                | zero => intro k Xc H locs ls hm hRXc hGXc hk hU hw hS hl; exfalso; omega
                | succ nn ih35 =>
                  intro k Xc H locs ls hm hRXc hGXc hk hU hw hS hl
                  have hFXc : Frm [6000, 5700, 5800, 5900] X Xc := Frm.tr hFXb (Frm.mono hGXc (by decide))
                  refine lv_iload hx hb dX9_newRow_35 (lv_at hl 4 rfl) ?_
                  refine lv_aload_n hx hb dX9_newRow_37 rfl (lv_at hl 0 rfl) ?_
                  refine x_geto hx hb hf9 hw (by omega) (by omega) sl_40_3 lk13 dX9_newRow_38 ?_
                  refine lv_aload_n hx hb dX9_newRow_41 rfl (lv_at hl 0 rfl) ?_
                  refine x_geto hx hb hf9 hw (by omega) (by omega) sl_40_14 lk45 dX9_newRow_42 ?_
                  refine lv_iload_n hx hb dX9_newRow_45 rfl (lv_at hl 3 rfl) ?_
                  refine x_iald hx hb hK.1 hw (by omega) (by omega) ar_55 (len_E ar_55 (by decide)) (by omega) (by omega) (by omega) dX9_newRow_46 ?_
                  have e32 : ∀ p9 q9 : Int, Xc 55 p9 q9 = X 55 p9 q9 := fun p9 q9 => by rw [hGXc 55 p9 q9 (show 5500 ∉ [6000] by decide), hGXb 55 p9 q9 (show 5500 ∉ [6000] by decide), hGXa 55 p9 q9 (show 5500 ∉ [6000] by decide)]
                  rw [e32 0 x]
                  have f33 : 0 ≤ X 55 0 x ∧ X 55 0 x ≤ 7 := hR 55 0 x
                  refine x_iald hx hb hK.1 hw (by omega) (by omega) ar_44 (len_E ar_44 (by decide)) (by omega) (by omega) (by omega) dX9_newRow_47 ?_
                  have e34 : ∀ p9 q9 : Int, Xc 44 p9 q9 = X 44 p9 q9 := fun p9 q9 => by rw [hGXc 44 p9 q9 (show 4400 ∉ [6000] by decide), hGXb 44 p9 q9 (show 4400 ∉ [6000] by decide), hGXa 44 p9 q9 (show 4400 ∉ [6000] by decide)]
                  rw [e34 0 (X 55 0 x)]
                  have f35 : 0 ≤ X 44 0 (X 55 0 x) ∧ X 44 0 (X 55 0 x) ≤ 5 := hR 44 0 (X 55 0 x)
                  refine x_icmp_ge (tgt := 102) hx hb (by omega) (by omega) dX9_newRow_48 (by decide) (fun c36 => ?_) (fun c36 => ?_)
                  · refine lv_iinc (v := jI (x + 1)) (lv' := [(3, .int (jI (x + 1))), (0, .ref (ad 40 0)), (1, .int (jI lane)), (2, .int (jI n)), (4, .int (jI k))]) hx hb dX9_newRow_102 hl (k := 3) rfl (jI_add _ _) (by decide) rfl (fun ls hl => ?_)
                    refine lv_goto (tgt := 24) hx hb dX9_newRow_105 (by decide) ?_
                    have q37 : Frm [6000] Xa Xb := Frm.tr Frm.rf (Frm.mono hGXb (by decide))
                    have q38 : Frm [6000] Xa Xc := Frm.tr q37 (Frm.mono hGXc (by decide))
                    exact ih24 (x + 1) Xc _ _ _ (by omega) hRXc q38 (by omega) (hU.mono (by omega)) hw hS (lv_sub hl [1, 2, 3, 0] rfl)
                  · refine lv_aload_n hx hb dX9_newRow_51 rfl (lv_at hl 0 rfl) ?_
                    refine lv_iload_n hx hb dX9_newRow_52 rfl (lv_at hl 3 rfl) ?_
                    refine lv_iload hx hb dX9_newRow_53 (lv_at hl 4 rfl) ?_
                    refine gos_i (run_V (As := [.int (jI x), .int (jI k)]) (rest := []) hx hb hml hown hts (c_X9_lane l D tc base ad cnt Xc Y ln hRXc hFx x k (by omega) (by omega)) (cwV 2 hts gX9_newRow_X9_lane rfl rfl rfl (by decide +kernel) ⟨Nat.le_of_ble_eq_true rfl, Nat.le_of_ble_eq_true rfl⟩) hK hw (by omega) (by omega) sl_40_0 rfl rfl hl.1 rfl (Nat.le_of_ble_eq_true rfl) dX9_newRow_55 ⟨Nat.le_of_ble_eq_true rfl, Nat.le_of_ble_eq_true rfl⟩) hS (fun z39 u40 H locs p41 hw hS => ?_)
                    obtain ⟨eu40, p41⟩ := p41
                    subst eu40
                    have e42 : ∀ j : Int, Xc 55 0 j = X 55 0 j := fun j => by rw [hGXc 55 0 j (show 5500 ∉ [6000] by decide), hGXb 55 0 j (show 5500 ∉ [6000] by decide), hGXa 55 0 j (show 5500 ∉ [6000] by decide)]
                    have e43 : ∀ j : Int, Xc 46 0 j = X 46 0 j := fun j => by rw [hGXc 46 0 j (show 4600 ∉ [6000] by decide), hGXb 46 0 j (show 4600 ∉ [6000] by decide), hGXa 46 0 j (show 4600 ∉ [6000] by decide)]
                    simp only [e42, e43] at p41
                    refine lv_iconst (v := jI 3) hx hb dX9_newRow_58 rfl ?_
                    refine x_icmp_lt (tgt := 96) hx hb (by omega) (by omega) dX9_newRow_59 (by decide) (fun c44 => ?_) (fun c44 => ?_)
                    · refine lv_iinc (v := jI (k + 1)) (lv' := [(4, .int (jI (k + 1))), (0, .ref (ad 40 0)), (1, .int (jI lane)), (2, .int (jI n)), (3, .int (jI x))]) hx hb dX9_newRow_96 hl (k := 4) rfl (jI_add _ _) (by decide) rfl (fun ls hl => ?_)
                      refine lv_goto (tgt := 35) hx hb dX9_newRow_99 (by decide) ?_
                      have q45 : Frm [6000] Xb Xc := Frm.tr Frm.rf (Frm.mono hGXc (by decide))
                      exact ih35 (k + 1) Xc _ _ _ (by omega) hRXc q45 (by omega) (hU.mono (by omega)) hw hS (lv_sub hl [1, 2, 3, 4, 0] rfl)
                    · refine lv_aload_n hx hb dX9_newRow_62 rfl (lv_at hl 0 rfl) ?_
                      refine x_geto hx hb hf9 hw (by omega) (by omega) sl_40_15 lk48 dX9_newRow_63 ?_
                      refine lv_iconst (v := jI 5) hx hb dX9_newRow_66 rfl ?_
                      refine lv_iload_n hx hb dX9_newRow_67 rfl (lv_at hl 3 rfl) ?_
                      refine x_imul hx hb dX9_newRow_68 ?_
                      refine lv_iload hx hb dX9_newRow_69 (lv_at hl 4 rfl) ?_
                      refine x_iadd hx hb dX9_newRow_71 ?_
                      obtain ⟨hy1, hy2, hy3⟩ := hMI.1 x k (by omega) (by omega) (by omega) (by omega)
                      refine x_lald hx hb hK.1 hw (by omega) (by omega) ar_56 (len_E ar_56 (by decide)) (by omega) (by omega) (by omega) dX9_newRow_72 ?_
                      have e46 : ∀ p9 q9 : Int, Xc 56 p9 q9 = X 56 p9 q9 := fun p9 q9 => by rw [hGXc 56 p9 q9 (show 5600 ∉ [6000] by decide), hGXb 56 p9 q9 (show 5600 ∉ [6000] by decide), hGXa 56 p9 q9 (show 5600 ∉ [6000] by decide)]
                      rw [e46 0 ((5 * x) + k)]
                      have f47 : (-9223372036854775808) ≤ X 56 0 ((5 * x) + k) ∧ X 56 0 ((5 * x) + k) ≤ 9223372036854775807 := hR 56 0 ((5 * x) + k)
                      refine lv_lconst (v := jL 0) hx hb dX9_newRow_73 (by decide) ?_
                      refine x_lcmp hx hb (by omega) (by omega) dX9_newRow_74 ?_
                      obtain ⟨z48, ez48⟩ : ∃ y : Int, y = cmpZ (X 56 0 ((5 * x) + k)) 0 := ⟨_, rfl⟩
                      rw [← ez48]
                      have gz48 : (z48 < 0 ↔ ((X 56 0 ((5 * x) + k)) : Int) < 0) ∧ (z48 = 0 ↔ ((X 56 0 ((5 * x) + k)) : Int) = 0) ∧ -1 ≤ z48 ∧ z48 ≤ 1 := by rw [ez48]; exact ⟨cmpZ_lt, cmpZ_eq, (cmpZ_r _ _).1, (cmpZ_r _ _).2⟩
                      clear ez48
                      refine x_if_lt (tgt := 96) hx hb (by omega) dX9_newRow_75 (by decide) (fun c49 => ?_) (fun c49 => ?_)
                      · refine lv_iinc (v := jI (k + 1)) (lv' := [(4, .int (jI (k + 1))), (0, .ref (ad 40 0)), (1, .int (jI lane)), (2, .int (jI n)), (3, .int (jI x))]) hx hb dX9_newRow_96 hl (k := 4) rfl (jI_add _ _) (by decide) rfl (fun ls hl => ?_)
                        refine lv_goto (tgt := 35) hx hb dX9_newRow_99 (by decide) ?_
                        have q50 : Frm [6000] Xb Xc := Frm.tr Frm.rf (Frm.mono hGXc (by decide))
                        exact ih35 (k + 1) Xc _ _ _ (by omega) hRXc q50 (by omega) (hU.mono (by omega)) hw hS (lv_sub hl [1, 2, 3, 4, 0] rfl)
                      · refine lv_aload_n hx hb dX9_newRow_78 rfl (lv_at hl 0 rfl) ?_
                        refine x_geto hx hb hf9 hw (by omega) (by omega) sl_40_19 lk60 dX9_newRow_79 ?_
                        refine lv_aload_n hx hb dX9_newRow_82 rfl (lv_at hl 0 rfl) ?_
                        refine x_geto hx hb hf9 hw (by omega) (by omega) sl_40_15 lk48 dX9_newRow_83 ?_
                        refine lv_iconst (v := jI 5) hx hb dX9_newRow_86 rfl ?_
                        refine lv_iload_n hx hb dX9_newRow_87 rfl (lv_at hl 3 rfl) ?_
                        refine x_imul hx hb dX9_newRow_88 ?_
                        refine lv_iload hx hb dX9_newRow_89 (lv_at hl 4 rfl) ?_
                        refine x_iadd hx hb dX9_newRow_91 ?_
                        skip
                        refine x_lald hx hb hK.1 hw (by omega) (by omega) ar_56 (len_E ar_56 (by decide)) (by omega) (by omega) (by omega) dX9_newRow_92 ?_
                        have e51 : ∀ p9 q9 : Int, Xc 56 p9 q9 = X 56 p9 q9 := fun p9 q9 => by rw [hGXc 56 p9 q9 (show 5600 ∉ [6000] by decide), hGXb 56 p9 q9 (show 5600 ∉ [6000] by decide), hGXa 56 p9 q9 (show 5600 ∉ [6000] by decide)]
                        rw [e51 0 ((5 * x) + k)]
                        have f52 : (-9223372036854775808) ≤ X 56 0 ((5 * x) + k) ∧ X 56 0 ((5 * x) + k) ≤ 9223372036854775807 := hR 56 0 ((5 * x) + k)
                        refine x_l2i hx hb dX9_newRow_93 ?_
                        refine lv_iconst (v := jI 1) hx hb dX9_newRow_94 rfl ?_
                        refine x_zast hx hb hK.1 hw hS (by omega) (by omega) ar_60 (len_E ar_60 (by decide)) (by omega) (by omega) (by omega) (by omega) (by omega) dX9_newRow_95 (fun H locs hw hS => ?_)
                        obtain ⟨X53, hX53⟩ : ∃ Xq, Xq = u3 Xc 60 0 (X 56 0 ((5 * x) + k)) 1 := ⟨_, rfl⟩
                        rw [← hX53] at hw
                        have hRX53 : Rng X53 := by rw [hX53]; exact rng_set hRXc (show 0 ≤ 1 ∧ 1 ≤ 1 by omega)
                        have hVX53 : X53 60 0 (X 56 0 ((5 * x) + k)) = 1 := by rw [hX53]; exact u3_s _ _ _ _ _
                        have hFX53 : Frm [6000, 5700, 5800, 5900] X X53 := by rw [hX53]; exact Frm.set hFXc (show 6000 ∈ [6000, 5700, 5800, 5900] by decide)
                        refine lv_iinc (v := jI (k + 1)) (lv' := [(4, .int (jI (k + 1))), (0, .ref (ad 40 0)), (1, .int (jI lane)), (2, .int (jI n)), (3, .int (jI x))]) hx hb dX9_newRow_96 hl (k := 4) rfl (jI_add _ _) (by decide) rfl (fun ls hl => ?_)
                        refine lv_goto (tgt := 35) hx hb dX9_newRow_99 (by decide) ?_
                        have q54 : Frm [6000] Xb Xc := Frm.tr Frm.rf (Frm.mono hGXc (by decide))
                        have q55 : Frm [6000] Xb X53 := by rw [hX53]; exact Frm.set q54 (show 6000 ∈ [6000] by decide)
                        exact ih35 (k + 1) X53 _ _ _ (by omega) hRX53 q55 (by omega) (by rw [hX53]; exact (hU.set).mono (by omega)) hw hS (lv_sub hl [1, 2, 3, 4, 0] rfl)
              exact lp35 (5 - 0 : Int).toNat.succ 0 Xb _ _ _ (by omega) hRXb Frm.rf (by omega) (hU.mono (by omega)) hw hS (lv_sub hl [1, 2, 3, 4, 0] rfl)
        exact lp24 (30 - 0 : Int).toNat.succ 0 Xa _ _ _ (by omega) hRXa Frm.rf (by omega) (⟨[], by simp, fun j a b e => absurd (hz j a (by omega)) (by omega)⟩) hw hS (lv_sub hl [1, 2, 3, 0] rfl)
      · refine lv_aload_n hx hb dX9_newRow_9 rfl (lv_at hl 0 rfl) ?_
        refine x_geto hx hb hf9 hw (by omega) (by omega) sl_40_19 lk60 dX9_newRow_10 ?_
        refine lv_iload_n hx hb dX9_newRow_13 rfl (lv_at hl 3 rfl) ?_
        refine lv_iconst (v := jI 0) hx hb dX9_newRow_14 rfl ?_
        refine x_zast hx hb hK.1 hw hS (by omega) (by omega) ar_60 (len_E ar_60 (by decide)) (by omega) (by omega) (by omega) (by omega) (by omega) dX9_newRow_15 (fun H locs hw hS => ?_)
        obtain ⟨X56, hX56⟩ : ∃ Xq, Xq = u3 Xa 60 0 k 0 := ⟨_, rfl⟩
        rw [← hX56] at hw
        have hRX56 : Rng X56 := by rw [hX56]; exact rng_set hRXa (show 0 ≤ 0 ∧ 0 ≤ 1 by omega)
        have hVX56 : X56 60 0 k = 0 := by rw [hX56]; exact u3_s _ _ _ _ _
        have hFX56 : Frm [6000, 5700, 5800, 5900] X X56 := by rw [hX56]; exact Frm.set hFXa (show 6000 ∈ [6000, 5700, 5800, 5900] by decide)
        refine lv_iinc (v := jI (k + 1)) (lv' := [(3, .int (jI (k + 1))), (0, .ref (ad 40 0)), (1, .int (jI lane)), (2, .int (jI n))]) hx hb dX9_newRow_16 hl (k := 3) rfl (jI_add _ _) (by decide) rfl (fun ls hl => ?_)
        refine lv_goto (tgt := 2) hx hb dX9_newRow_19 (by decide) ?_
        have q57 : Frm [6000] X Xa := Frm.tr Frm.rf (Frm.mono hGXa (by decide))
        have q58 : Frm [6000] X X56 := by rw [hX56]; exact Frm.set q57 (show 6000 ∈ [6000] by decide)
        exact ih2 (k + 1) X56 _ _ _ (by omega) hRX56 q58 (by omega) (fun j a b => if hj : j = k then (by rw [hX56, hj]; exact u3_s _ _ _ _ _) else (by rw [hX56, u3_j _ _ _ _ hj]; exact hz j a (by omega))) hw hS (lv_sub hl [1, 2, 3, 0] rfl)
  exact lp2 (400 - 0 : Int).toNat.succ 0 X _ _ _ (by omega) hR Frm.rf (by omega) (fun j a b => by omega) hw hS (lv_sub hl [1, 2, 3, 0] rfl)

set_option maxHeartbeats 4000000 in
set_option maxRecDepth 100000 in
theorem c_X9_row (l : Launch) (D : va_G) (tc : Nat → ClassId) (base : Nat) (ad : Nat → Int → Nat) (cnt : Nat → Int) (X : Nat → Int → Int → Int) (Y : Nat → Int → Int → Option Int) (ln : Int → Int) (hR : Rng X) (hFx : Fx cnt) (hMI : MInv X) (x k n : Int) (hx : -2147483648 ≤ x ∧ x ≤ 2147483647) (hk : -2147483648 ≤ k ∧ k ≤ 2147483647) (hn : -2147483648 ≤ n ∧ n ≤ 2147483647) : KI l D tc base yX9_row wsX9_row ({ frames := 2, cells := 0, slots := 0, locals := 46 } : Room) [.ref (ad 40 0), .int (jI x), .int (jI k), .int (jI n)] (ad, cnt, X, Y, ln) 0 0 (fun z u => ∃ X1 : Nat → Int → Int → Int, u = (ad, cnt, X1, Y, ln) ∧ Rng X1 ∧ Frm [4001, 6400, 6500, 6700, 6800, 6600, 4023, 5600, 6000, 5700, 5800, 5900] X X1 ∧ MInv X1 ∧ (-2147483648 ≤ z ∧ z ≤ 2147483647)) := by
  refine K_of (cc := cX9_row) (maxL := 4) (ret := (some .int)) (by decide) rfl (Nat.le_of_ble_eq_true rfl) ?_
  intro p e s m below meth c ls hx hb hr hml hown hts hlocks hl hK hw hS
  have hown : s.vm.findClass RX9 = some m.cls := hown
  have hi9 : ∀ w ∈ wsX90, w ∈ wsX9_row := fun w h => List.mem_cons_of_mem _ (List.mem_append_right _ h)
  have hf9 : fctx s m _ RX9 wsX9_row D tc RX9 TX9 51 9 := ⟨hts, hi9, hown, hK.1, rfl⟩
  have lk145 := hts (.fieldLink RX9 145 "StateRecordsModel" "code" "I") (by decide +kernel)
  have hc40 : cnt 40 = 1 := hFx.at 40 1 (by decide)
  have hl : lv_has ls 4 [(0, .ref (ad 40 0)), (1, .int (jI x)), (2, .int (jI k)), (3, .int (jI n))] := hl
  have fstypes : 0 ≤ X 40 0 2 ∧ X 40 0 2 ≤ 8 := hR 40 0 2
  have fsthings : 0 ≤ X 40 0 13 ∧ X 40 0 13 ≤ 30 := hR 40 0 13
  have fsmarks : 0 ≤ X 40 0 20 ∧ X 40 0 20 ≤ 4 := hR 40 0 20
  have fsnotes : 0 ≤ X 40 0 22 ∧ X 40 0 22 ≤ 80 := hR 40 0 22
  refine lv_aload_n hx hb dX9_row_0 rfl (lv_at hl 0 rfl) ?_
  refine lv_iconst (v := jI 0) hx hb dX9_row_1 rfl ?_
  refine x_puti (jz := 0) hx hb hf9 ⟨tyX9_ok, nmX9⟩ hw hS (by omega) (by omega) sl_40_0 rfl lk145 rfl (tyX9_ok 0 (by decide)) rfl rfl dX9_row_2 (fun H locs hw hS => ?_)
  obtain ⟨X1, hX1⟩ : ∃ Xq, Xq = u3 X 40 0 0 0 := ⟨_, rfl⟩
  rw [← hX1] at hw
  have hRX1 : Rng X1 := by rw [hX1]; exact rng_set hR (show (-2147483648) ≤ 0 ∧ 0 ≤ 2147483647 by omega)
  have hVX1 : X1 40 0 0 = 0 := by rw [hX1]; exact u3_s _ _ _ _ _
  have hFX1 : Frm [4001, 6400, 6500, 6700, 6800, 6600, 4023, 5600, 6000, 5700, 5800, 5900] X X1 := by rw [hX1]; exact Frm.set Frm.rf (show 4001 ∈ [4001, 6400, 6500, 6700, 6800, 6600, 4023, 5600, 6000, 5700, 5800, 5900] by decide)
  refine lv_aload_n hx hb dX9_row_5 rfl (lv_at hl 0 rfl) ?_
  refine lv_iload_n hx hb dX9_row_6 rfl (lv_at hl 1 rfl) ?_
  refine lv_iload_n hx hb dX9_row_7 rfl (lv_at hl 2 rfl) ?_
  refine gos_i (run_V (As := [.int (jI x), .int (jI k)]) (rest := []) hx hb hml hown hts (c_X9_isField l D tc base ad cnt X1 Y ln hRX1 hFx x k (by omega) (by omega)) (cwV 2 hts gX9_row_X9_isField rfl rfl rfl (by decide +kernel) ⟨Nat.le_of_ble_eq_true rfl, Nat.le_of_ble_eq_true rfl⟩) hK hw (by omega) (by omega) sl_40_0 rfl rfl hl.1 rfl (Nat.le_of_ble_eq_true rfl) dX9_row_8 ⟨Nat.le_of_ble_eq_true rfl, Nat.le_of_ble_eq_true rfl⟩) hS (fun z2 u3 H locs p4 hw hS => ?_)
  obtain ⟨eu3, p4⟩ := p4
  subst eu3
  have e5 : X1 40 0 13 = X 40 0 13 := by rw [hX1, u3_j _ _ _ _ (by decide)]
  have e6 : ∀ j : Int, X1 55 0 j = X 55 0 j := fun j => by rw [hX1, u3_k _ _ _ _ (by decide)]
  have e7 : ∀ j : Int, X1 44 0 j = X 44 0 j := fun j => by rw [hX1, u3_k _ _ _ _ (by decide)]
  simp only [e5, e6, e7] at p4
  rcases p4 with ⟨ez2, p4⟩ | ⟨ez2, p4⟩
  · subst ez2
    refine x_if_neT (tgt := 16) hx hb (by omega) (by decide) dX9_row_11 (by decide) ?_
    refine lv_iload_n hx hb dX9_row_16 rfl (lv_at hl 3 rfl) ?_
    refine lv_bipush (v := jI 12) hx hb dX9_row_17 (by decide) ?_
    refine x_icmp_le (tgt := 25) hx hb (by omega) (by omega) dX9_row_19 (by decide) (fun c8 => ?_) (fun c8 => ?_)
    · refine lv_aload_n hx hb dX9_row_25 rfl (lv_at hl 0 rfl) ?_
      refine lv_iload_n hx hb dX9_row_26 rfl (lv_at hl 1 rfl) ?_
      refine lv_iload_n hx hb dX9_row_27 rfl (lv_at hl 2 rfl) ?_
      refine gos_i (run_V (As := [.int (jI x), .int (jI k)]) (rest := []) hx hb hml hown hts (c_X9_lane l D tc base ad cnt X1 Y ln hRX1 hFx x k (by omega) (by omega)) (cwV 2 hts gX9_row_X9_lane rfl rfl rfl (by decide +kernel) ⟨Nat.le_of_ble_eq_true rfl, Nat.le_of_ble_eq_true rfl⟩) hK hw (by omega) (by omega) sl_40_0 rfl rfl hl.1 rfl (Nat.le_of_ble_eq_true rfl) dX9_row_28 ⟨Nat.le_of_ble_eq_true rfl, Nat.le_of_ble_eq_true rfl⟩) hS (fun z9 u10 H locs p11 hw hS => ?_)
      obtain ⟨eu10, p11⟩ := p11
      subst eu10
      have e12 : ∀ j : Int, X1 55 0 j = X 55 0 j := fun j => by rw [hX1, u3_k _ _ _ _ (by decide)]
      have e13 : ∀ j : Int, X1 46 0 j = X 46 0 j := fun j => by rw [hX1, u3_k _ _ _ _ (by decide)]
      simp only [e12, e13] at p11
      refine lv_iconst (v := jI 3) hx hb dX9_row_31 rfl ?_
      refine x_icmp_ge (tgt := 38) hx hb (by omega) (by omega) dX9_row_32 (by decide) (fun c14 => ?_) (fun c14 => ?_)
      · refine lv_iload_n hx hb dX9_row_38 rfl (lv_at hl 3 rfl) ?_
        refine lv_iconst (v := jI (-1)) hx hb dX9_row_39 rfl ?_
        refine x_icmp_ge (tgt := 46) hx hb (by omega) (by omega) dX9_row_40 (by decide) (fun c15 => ?_) (fun c15 => ?_)
        · refine lv_aload_n hx hb dX9_row_46 rfl (lv_at hl 0 rfl) ?_
          refine gos_i (run_V (As := []) (rest := []) hx hb hml hown hts (c_X9_isFull l D tc base ad cnt X1 Y ln hRX1 hFx) (cwV 0 hts gX9_row_X9_isFull rfl rfl rfl (by decide +kernel) ⟨Nat.le_of_ble_eq_true rfl, Nat.le_of_ble_eq_true rfl⟩) hK hw (by omega) (by omega) sl_40_0 rfl rfl hl.1 rfl (Nat.le_of_ble_eq_true rfl) dX9_row_47 ⟨Nat.le_of_ble_eq_true rfl, Nat.le_of_ble_eq_true rfl⟩) hS (fun z16 u17 H locs p18 hw hS => ?_)
          obtain ⟨eu17, p18⟩ := p18
          subst eu17
          have e19 : X1 40 0 20 = X 40 0 20 := by rw [hX1, u3_j _ _ _ _ (by decide)]
          have e20 : X1 40 0 22 = X 40 0 22 := by rw [hX1, u3_j _ _ _ _ (by decide)]
          simp only [e19, e20] at p18
          rcases p18 with ⟨ez16, p18⟩ | ⟨ez16, p18⟩
          · subst ez16
            refine x_if_eqF (tgt := 56) hx hb (by omega) (by decide) dX9_row_50 (by decide) ?_
            refine lv_bipush (v := jI (-4)) hx hb dX9_row_53 (by decide) ?_
            refine ret_i (mc := 0) (ms := 0) hx hb hr hlocks hw hS (by omega) (by omega) dX9_row_55 ?_
            have q22 : Frm [4001] X X1 := by rw [hX1]; exact Frm.set Frm.rf (show 4001 ∈ [4001] by decide)
            have hMq21 : MInv X1 := minv_frm hMI q22 (by decide)
            exact ⟨X1, rfl, hRX1, hFX1, hMq21, by omega⟩
          · subst ez16
            refine x_if_eqT (tgt := 56) hx hb (by omega) (by decide) dX9_row_50 (by decide) ?_
            refine lv_aload_n hx hb dX9_row_56 rfl (lv_at hl 0 rfl) ?_
            refine lv_iload_n hx hb dX9_row_57 rfl (lv_at hl 1 rfl) ?_
            refine lv_iload_n hx hb dX9_row_58 rfl (lv_at hl 2 rfl) ?_
            refine lv_iload_n hx hb dX9_row_59 rfl (lv_at hl 3 rfl) ?_
            refine x_if_ge (tgt := 69) hx hb (by omega) dX9_row_60 (by decide) (fun c23 => ?_) (fun c23 => ?_)
            · refine lv_aload_n hx hb dX9_row_69 rfl (lv_at hl 0 rfl) ?_
              refine lv_aload_n hx hb dX9_row_70 rfl (lv_at hl 0 rfl) ?_
              refine lv_iload_n hx hb dX9_row_71 rfl (lv_at hl 1 rfl) ?_
              refine lv_iload_n hx hb dX9_row_72 rfl (lv_at hl 2 rfl) ?_
              refine gos_i (run_V (As := [.int (jI x), .int (jI k)]) (rest := [.ref (ad 40 0), .int (jI k), .int (jI x), .ref (ad 40 0)]) hx hb hml hown hts (c_X9_lane l D tc base ad cnt X1 Y ln hRX1 hFx x k (by omega) (by omega)) (cwV 2 hts gX9_row_X9_lane rfl rfl rfl (by decide +kernel) ⟨Nat.le_of_ble_eq_true rfl, Nat.le_of_ble_eq_true rfl⟩) hK hw (by omega) (by omega) sl_40_0 rfl rfl hl.1 rfl (Nat.le_of_ble_eq_true rfl) dX9_row_73 ⟨Nat.le_of_ble_eq_true rfl, Nat.le_of_ble_eq_true rfl⟩) hS (fun z24 u25 H locs p26 hw hS => ?_)
              obtain ⟨eu25, p26⟩ := p26
              subst eu25
              have e27 : ∀ j : Int, X1 55 0 j = X 55 0 j := fun j => by rw [hX1, u3_k _ _ _ _ (by decide)]
              have e28 : ∀ j : Int, X1 46 0 j = X 46 0 j := fun j => by rw [hX1, u3_k _ _ _ _ (by decide)]
              simp only [e27, e28] at p26
              refine lv_iload_n hx hb dX9_row_76 rfl (lv_at hl 3 rfl) ?_
              have q30 : Frm [4001] X X1 := by rw [hX1]; exact Frm.set Frm.rf (show 4001 ∈ [4001] by decide)
              have hMq29 : MInv X1 := minv_frm hMI q30 (by decide)
              refine gos_i (run_V (As := [.int (jI z24), .int (jI n)]) (rest := [.int (jI k), .int (jI x), .ref (ad 40 0)]) hx hb hml hown hts (c_X9_newRow l D tc base ad cnt X1 Y ln hRX1 hFx hMq29 z24 n (by omega) (by omega)) (cwV 2 hts gX9_row_X9_newRow rfl rfl rfl (by decide +kernel) ⟨Nat.le_of_ble_eq_true rfl, Nat.le_of_ble_eq_true rfl⟩) hK hw (by omega) (by omega) sl_40_0 rfl rfl hl.1 rfl (Nat.le_of_ble_eq_true rfl) dX9_row_77 ⟨Nat.le_of_ble_eq_true rfl, Nat.le_of_ble_eq_true rfl⟩) hS (fun z31 u32 H locs p33 hw hS => ?_)
              obtain ⟨X34, eu32, hRX34, hG35, hMIX34, p33⟩ := p33
              subst eu32
              have hFX34 : Frm [4001, 6400, 6500, 6700, 6800, 6600, 4023, 5600, 6000, 5700, 5800, 5900] X X34 := Frm.tr hFX1 (Frm.mono hG35 (by decide))
              refine x_i2l hx hb (by omega) dX9_row_80 ?_
              have e36 : ∀ j : Int, X34 55 0 j = X 55 0 j := fun j => by rw [hG35 55 0 j (show 5500 ∉ [6000, 5700, 5800, 5900] by decide), hX1, u3_k _ _ _ _ (by decide)]
              have e37 : ∀ j : Int, X34 44 0 j = X 44 0 j := fun j => by rw [hG35 44 0 j (show 4400 ∉ [6000, 5700, 5800, 5900] by decide), hX1, u3_k _ _ _ _ (by decide)]
              have e38 : ∀ j : Int, X34 46 0 j = X 46 0 j := fun j => by rw [hG35 46 0 j (show 4600 ∉ [6000, 5700, 5800, 5900] by decide), hX1, u3_k _ _ _ _ (by decide)]
              have e39 : X34 40 0 13 = X 40 0 13 := by rw [hG35 40 0 13 (show 4014 ∉ [6000, 5700, 5800, 5900] by decide), hX1, u3_j _ _ _ _ (by decide)]
              have e40 : X34 40 0 20 = X 40 0 20 := by rw [hG35 40 0 20 (show 4021 ∉ [6000, 5700, 5800, 5900] by decide), hX1, u3_j _ _ _ _ (by decide)]
              have e41 : X34 40 0 22 = X 40 0 22 := by rw [hG35 40 0 22 (show 4023 ∉ [6000, 5700, 5800, 5900] by decide), hX1, u3_j _ _ _ _ (by decide)]
              refine gos_v (run_V (As := [.int (jI x), .int (jI k), .long (jL z31)]) (rest := []) hx hb hml hown hts (c_X9_becomes l D tc base ad cnt X34 Y ln hRX34 hFx hMIX34 x k z31 (by omega) (by omega) (by omega) (by simp only [e36, e37, e38, e39, e40, e41]; omega) (by simp only [e36, e37, e38, e39, e40, e41]; omega) (by unfold tyv; simp only [e36, e37, e38, e39, e40, e41]; exact ⟨fun _ => by omega, fun _ => by omega, fun _ => by omega⟩) (by simp only [e36, e37, e38, e39, e40, e41]; (try simp only [Hid] at *); omega)) (cwV 3 hts gX9_row_X9_becomes rfl rfl rfl (by decide +kernel) ⟨Nat.le_of_ble_eq_true rfl, Nat.le_of_ble_eq_true rfl⟩) hK hw (by omega) (by omega) sl_40_0 rfl rfl hl.1 rfl (Nat.le_of_ble_eq_true rfl) dX9_row_81 ⟨Nat.le_of_ble_eq_true rfl, Nat.le_of_ble_eq_true rfl⟩) hS (fun u43 H locs p44 hw hS => ?_)
              obtain ⟨X45, eu43, hRX45, hG46, hMIX45, p44⟩ := p44
              subst eu43
              have hFX45 : Frm [4001, 6400, 6500, 6700, 6800, 6600, 4023, 5600, 6000, 5700, 5800, 5900] X X45 := Frm.tr hFX34 (Frm.mono hG46 (by decide))
              refine lv_iconst (v := jI 1) hx hb dX9_row_84 rfl ?_
              refine ret_i (mc := 0) (ms := 0) hx hb hr hlocks hw hS (by omega) (by omega) dX9_row_85 ?_
              exact ⟨X45, rfl, hRX45, hFX45, hMIX45, by omega⟩
            · refine lv_ldc2 (v := jL (-1)) hx hb hown (hts (.constantLong RX9 168 (-1)) (by decide +kernel)) dX9_row_63 ?_
              refine lv_goto (tgt := 81) hx hb dX9_row_66 (by decide) ?_
              have q48 : Frm [4001] X X1 := by rw [hX1]; exact Frm.set Frm.rf (show 4001 ∈ [4001] by decide)
              have hMq47 : MInv X1 := minv_frm hMI q48 (by decide)
              have e49 : ∀ j : Int, X1 55 0 j = X 55 0 j := fun j => by rw [hX1, u3_k _ _ _ _ (by decide)]
              have e50 : ∀ j : Int, X1 44 0 j = X 44 0 j := fun j => by rw [hX1, u3_k _ _ _ _ (by decide)]
              have e51 : ∀ j : Int, X1 46 0 j = X 46 0 j := fun j => by rw [hX1, u3_k _ _ _ _ (by decide)]
              have e52 : X1 40 0 13 = X 40 0 13 := by rw [hX1, u3_j _ _ _ _ (by decide)]
              have e53 : X1 40 0 20 = X 40 0 20 := by rw [hX1, u3_j _ _ _ _ (by decide)]
              have e54 : X1 40 0 22 = X 40 0 22 := by rw [hX1, u3_j _ _ _ _ (by decide)]
              refine gos_v (run_V (As := [.int (jI x), .int (jI k), .long (jL (-1))]) (rest := []) hx hb hml hown hts (c_X9_becomes l D tc base ad cnt X1 Y ln hRX1 hFx hMq47 x k (-1) (by omega) (by omega) (by omega) (by simp only [e49, e50, e51, e52, e53, e54]; omega) (by simp only [e49, e50, e51, e52, e53, e54]; omega) (by unfold tyv; simp only [e49, e50, e51, e52, e53, e54]; exact ⟨fun _ => by omega, fun _ => by omega, fun _ => by omega⟩) (by simp only [e49, e50, e51, e52, e53, e54]; (try simp only [Hid] at *); omega)) (cwV 3 hts gX9_row_X9_becomes rfl rfl rfl (by decide +kernel) ⟨Nat.le_of_ble_eq_true rfl, Nat.le_of_ble_eq_true rfl⟩) hK hw (by omega) (by omega) sl_40_0 rfl rfl hl.1 rfl (Nat.le_of_ble_eq_true rfl) dX9_row_81 ⟨Nat.le_of_ble_eq_true rfl, Nat.le_of_ble_eq_true rfl⟩) hS (fun u56 H locs p57 hw hS => ?_)
              obtain ⟨X58, eu56, hRX58, hG59, hMIX58, p57⟩ := p57
              subst eu56
              have hFX58 : Frm [4001, 6400, 6500, 6700, 6800, 6600, 4023, 5600, 6000, 5700, 5800, 5900] X X58 := Frm.tr hFX1 (Frm.mono hG59 (by decide))
              refine lv_iconst (v := jI 1) hx hb dX9_row_84 rfl ?_
              refine ret_i (mc := 0) (ms := 0) hx hb hr hlocks hw hS (by omega) (by omega) dX9_row_85 ?_
              exact ⟨X58, rfl, hRX58, hFX58, hMIX58, by omega⟩
        · refine lv_bipush (v := jI (-13)) hx hb dX9_row_43 (by decide) ?_
          refine ret_i (mc := 0) (ms := 0) hx hb hr hlocks hw hS (by omega) (by omega) dX9_row_45 ?_
          have q61 : Frm [4001] X X1 := by rw [hX1]; exact Frm.set Frm.rf (show 4001 ∈ [4001] by decide)
          have hMq60 : MInv X1 := minv_frm hMI q61 (by decide)
          exact ⟨X1, rfl, hRX1, hFX1, hMq60, by omega⟩
      · refine lv_bipush (v := jI (-14)) hx hb dX9_row_35 (by decide) ?_
        refine ret_i (mc := 0) (ms := 0) hx hb hr hlocks hw hS (by omega) (by omega) dX9_row_37 ?_
        have q63 : Frm [4001] X X1 := by rw [hX1]; exact Frm.set Frm.rf (show 4001 ∈ [4001] by decide)
        have hMq62 : MInv X1 := minv_frm hMI q63 (by decide)
        exact ⟨X1, rfl, hRX1, hFX1, hMq62, by omega⟩
    · refine lv_bipush (v := jI (-2)) hx hb dX9_row_22 (by decide) ?_
      refine ret_i (mc := 0) (ms := 0) hx hb hr hlocks hw hS (by omega) (by omega) dX9_row_24 ?_
      have q65 : Frm [4001] X X1 := by rw [hX1]; exact Frm.set Frm.rf (show 4001 ∈ [4001] by decide)
      have hMq64 : MInv X1 := minv_frm hMI q65 (by decide)
      exact ⟨X1, rfl, hRX1, hFX1, hMq64, by omega⟩
  · subst ez2
    refine x_if_neF (tgt := 16) hx hb (by omega) (by decide) dX9_row_11 (by decide) ?_
    refine lv_iconst (v := jI (-1)) hx hb dX9_row_14 rfl ?_
    refine ret_i (mc := 0) (ms := 0) hx hb hr hlocks hw hS (by omega) (by omega) dX9_row_15 ?_
    have q67 : Frm [4001] X X1 := by rw [hX1]; exact Frm.set Frm.rf (show 4001 ∈ [4001] by decide)
    have hMq66 : MInv X1 := minv_frm hMI q67 (by decide)
    exact ⟨X1, rfl, hRX1, hFX1, hMq66, by omega⟩

set_option maxHeartbeats 4000000 in
set_option maxRecDepth 100000 in
theorem c_X9_checked (l : Launch) (D : va_G) (tc : Nat → ClassId) (base : Nat) (ad : Nat → Int → Nat) (cnt : Nat → Int) (X : Nat → Int → Int → Int) (Y : Nat → Int → Int → Option Int) (ln : Int → Int) (hR : Rng X) (hFx : Fx cnt) (hMI : MInv X) (x cq : Int) (hx0 : 0 ≤ x ∧ x ≤ 29) (hxt : x < X 40 0 13) (hcq : 0 ≤ cq ∧ cq ≤ 31) : KI l D tc base yX9_checked wsX9_checked ({ frames := 2, cells := 0, slots := 0, locals := 46 } : Room) [.ref (ad 40 0), .int (jI x), .int (jI cq)] (ad, cnt, X, Y, ln) 0 0 (fun z u => u = (ad, cnt, X, Y, ln) ∧ (0 ≤ z ∧ z ≤ 10)) := by
  refine K_of (cc := cX9_checked) (maxL := 13) (ret := (some .int)) (by decide) rfl (Nat.le_of_ble_eq_true rfl) ?_
  intro p e s m below meth c ls hx hb hr hml hown hts hlocks hl hK hw hS
  have hown : s.vm.findClass RX9 = some m.cls := hown
  have hi9 : ∀ w ∈ wsX90, w ∈ wsX9_checked := fun w h => List.mem_cons_of_mem _ (List.mem_append_right _ h)
  have hf9 : fctx s m _ RX9 wsX9_checked D tc RX9 TX9 51 9 := ⟨hts, hi9, hown, hK.1, rfl⟩
  have lk13 := hts (.fieldLink RX9 13 "StateRecordsModel" "fMany" "[I") (by decide +kernel)
  have lk17 := hts (.fieldLink RX9 17 "StateRecordsModel" "fName" "[I") (by decide +kernel)
  have lk33 := hts (.fieldLink RX9 33 "StateRecordsModel" "cKind" "[I") (by decide +kernel)
  have lk36 := hts (.fieldLink RX9 36 "StateRecordsModel" "cA" "[I") (by decide +kernel)
  have lk39 := hts (.fieldLink RX9 39 "StateRecordsModel" "cB" "[I") (by decide +kernel)
  have lk42 := hts (.fieldLink RX9 42 "StateRecordsModel" "cV" "[J") (by decide +kernel)
  have lk45 := hts (.fieldLink RX9 45 "StateRecordsModel" "xType" "[I") (by decide +kernel)
  have lk48 := hts (.fieldLink RX9 48 "StateRecordsModel" "xVal" "[J") (by decide +kernel)
  have lk54 := hts (.fieldLink RX9 54 "StateRecordsModel" "rMany" "[I") (by decide +kernel)
  have lk57 := hts (.fieldLink RX9 57 "StateRecordsModel" "rItems" "[J") (by decide +kernel)
  have hc40 : cnt 40 = 1 := hFx.at 40 1 (by decide)
  have hc44 : cnt 44 = 1 := hFx.at 44 1 (by decide)
  have hc45 : cnt 45 = 1 := hFx.at 45 1 (by decide)
  have hc50 : cnt 50 = 1 := hFx.at 50 1 (by decide)
  have hc51 : cnt 51 = 1 := hFx.at 51 1 (by decide)
  have hc52 : cnt 52 = 1 := hFx.at 52 1 (by decide)
  have hc53 : cnt 53 = 1 := hFx.at 53 1 (by decide)
  have hc55 : cnt 55 = 1 := hFx.at 55 1 (by decide)
  have hc56 : cnt 56 = 1 := hFx.at 56 1 (by decide)
  have hc58 : cnt 58 = 1 := hFx.at 58 1 (by decide)
  have hc59 : cnt 59 = 1 := hFx.at 59 1 (by decide)
  have hl : lv_has ls 13 [(0, .ref (ad 40 0)), (1, .int (jI x)), (2, .int (jI cq))] := hl
  have fstypes : 0 ≤ X 40 0 2 ∧ X 40 0 2 ≤ 8 := hR 40 0 2
  have fsthings : 0 ≤ X 40 0 13 ∧ X 40 0 13 ≤ 30 := hR 40 0 13
  have fsmarks : 0 ≤ X 40 0 20 ∧ X 40 0 20 ≤ 4 := hR 40 0 20
  have fsnotes : 0 ≤ X 40 0 22 ∧ X 40 0 22 ≤ 80 := hR 40 0 22
  refine lv_aload_n hx hb dX9_checked_0 rfl (lv_at hl 0 rfl) ?_
  refine x_geto hx hb hf9 hw (by omega) (by omega) sl_40_9 lk33 dX9_checked_1 ?_
  refine lv_iload_n hx hb dX9_checked_4 rfl (lv_at hl 2 rfl) ?_
  refine x_iald hx hb hK.1 hw (by omega) (by omega) ar_50 (len_E ar_50 (by decide)) (by omega) (by omega) (by omega) dX9_checked_5 ?_
  have f1 : 0 ≤ X 50 0 cq ∧ X 50 0 cq ≤ 5 := hR 50 0 cq
  refine lv_istore_n (lv' := [(3, .int (jI (X 50 0 cq))), (0, .ref (ad 40 0)), (1, .int (jI x)), (2, .int (jI cq))]) hx hb dX9_checked_6 rfl hl (by decide) rfl (fun ls hl => ?_)
  refine lv_aload_n hx hb dX9_checked_7 rfl (lv_at hl 1 rfl) ?_
  refine x_geto hx hb hf9 hw (by omega) (by omega) sl_40_10 lk36 dX9_checked_8 ?_
  refine lv_iload_n hx hb dX9_checked_11 rfl (lv_at hl 3 rfl) ?_
  refine x_iald hx hb hK.1 hw (by omega) (by omega) ar_51 (len_E ar_51 (by decide)) (by omega) (by omega) (by omega) dX9_checked_12 ?_
  have f2 : 0 ≤ X 51 0 cq ∧ X 51 0 cq ≤ 4 := hR 51 0 cq
  refine lv_istore (lv' := [(4, .int (jI (X 51 0 cq))), (3, .int (jI (X 50 0 cq))), (0, .ref (ad 40 0)), (1, .int (jI x)), (2, .int (jI cq))]) hx hb dX9_checked_13 hl (by decide) rfl (fun ls hl => ?_)
  refine lv_aload_n hx hb dX9_checked_15 rfl (lv_at hl 2 rfl) ?_
  refine x_geto hx hb hf9 hw (by omega) (by omega) sl_40_11 lk39 dX9_checked_16 ?_
  refine lv_iload_n hx hb dX9_checked_19 rfl (lv_at hl 4 rfl) ?_
  refine x_iald hx hb hK.1 hw (by omega) (by omega) ar_52 (len_E ar_52 (by decide)) (by omega) (by omega) (by omega) dX9_checked_20 ?_
  have f3 : 0 ≤ X 52 0 cq ∧ X 52 0 cq ≤ 4 := hR 52 0 cq
  refine lv_istore (lv' := [(5, .int (jI (X 52 0 cq))), (4, .int (jI (X 51 0 cq))), (3, .int (jI (X 50 0 cq))), (0, .ref (ad 40 0)), (1, .int (jI x)), (2, .int (jI cq))]) hx hb dX9_checked_21 hl (by decide) rfl (fun ls hl => ?_)
  have lp147 : ∀ (vz : Int) (wz : Int) (H : Heap) (locs : List Loc) (ls : Array Slot), (-9223372036854775808 ≤ vz ∧ vz ≤ 9223372036854775807) → (-9223372036854775808 ≤ wz ∧ wz ≤ 9223372036854775807) → ((X 50 0 cq) = 2 → vz ≤ 399) → ((X 50 0 cq) = 1 → vz ≤ 29) → ((X 50 0 cq) = 5 → vz ≤ 29) → wd D tc base (ad, cnt, X, Y, ln) H → va_S (frA base) s.heap H locs → lv_has ls 13 [(0, .ref (ad 40 0)), (1, .int (jI x)), (2, .int (jI cq)), (3, .int (jI (X 50 0 cq))), (4, .int (jI (X 51 0 cq))), (5, .int (jI (X 52 0 cq))), (7, .long (jL vz)), (9, .long (jL wz))] → W p l e ({ frames := 2, cells := 0, slots := 0, locals := 46 } : Room) s m ([.ref (ad 40 0), .int (jI x), .int (jI cq)] : List Value).toArray below meth c H locs 0 0 (MQ below (QI D tc base (fun z u => u = (ad, cnt, X, Y, ln) ∧ (0 ≤ z ∧ z ≤ 10))) ([.ref (ad 40 0), .int (jI x), .int (jI cq)] : List Value).toArray s 0 0 (frA base)) (F0 m 147 ls []) := by
    intro vz wz H locs ls hvz hwz hk2 hk1 hk5 hw hS hl
    have fka : 0 ≤ X 51 0 cq ∧ X 51 0 cq ≤ 4 := hR 51 0 cq
    refine lv_iload_n hx hb dX9_checked_147 rfl (lv_at hl 3 rfl) ?_
    have tc4 : (jI (X 50 0 cq)).toInt = (X 50 0 cq) := jI_toInt (by omega)
    by_cases c4 : (X 50 0 cq) < 0 ∨ 4 < (X 50 0 cq)
    · refine lv_tableOut (tgt := 344) hx hb dX9_checked_148 (by rw [tc4]; exact c4) (by decide) ?_
      refine lv_lload hx hb dX9_checked_344 (lv_at hl 6 rfl) ?_
      refine lv_lconst (v := jL 0) hx hb dX9_checked_346 (by decide) ?_
      refine x_lcmp hx hb (by omega) (by omega) dX9_checked_347 ?_
      obtain ⟨z5, ez5⟩ : ∃ y : Int, y = cmpZ vz 0 := ⟨_, rfl⟩
      rw [← ez5]
      have gz5 : (z5 < 0 ↔ (vz : Int) < 0) ∧ (z5 = 0 ↔ (vz : Int) = 0) ∧ -1 ≤ z5 ∧ z5 ≤ 1 := by rw [ez5]; exact ⟨cmpZ_lt, cmpZ_eq, (cmpZ_r _ _).1, (cmpZ_r _ _).2⟩
      clear ez5
      refine x_if_ge (tgt := 353) hx hb (by omega) dX9_checked_348 (by decide) (fun c6 => ?_) (fun c6 => ?_)
      · refine lv_lload hx hb dX9_checked_353 (lv_at hl 6 rfl) ?_
        refine x_l2i hx hb dX9_checked_355 ?_
        refine lv_istore (lv' := [(11, .int (jI vz)), (0, .ref (ad 40 0)), (1, .int (jI x)), (2, .int (jI cq)), (3, .int (jI (X 50 0 cq))), (4, .int (jI (X 51 0 cq))), (5, .int (jI (X 52 0 cq))), (7, .long (jL vz)), (9, .long (jL wz))]) hx hb dX9_checked_356 hl (by decide) rfl (fun ls hl => ?_)
        refine lv_aload_n hx hb dX9_checked_358 rfl (lv_at hl 1 rfl) ?_
        refine lv_aload_n hx hb dX9_checked_359 rfl (lv_at hl 1 rfl) ?_
        refine x_geto hx hb hf9 hw (by omega) (by omega) sl_40_14 lk45 dX9_checked_360 ?_
        refine lv_iload hx hb dX9_checked_363 (lv_at hl 0 rfl) ?_
        refine x_iald hx hb hK.1 hw (by omega) (by omega) ar_55 (len_E ar_55 (by decide)) (by omega) (by omega) (by omega) dX9_checked_365 ?_
        have f7 : 0 ≤ X 55 0 vz ∧ X 55 0 vz ≤ 7 := hR 55 0 vz
        refine lv_aload_n hx hb dX9_checked_366 rfl (lv_at hl 1 rfl) ?_
        refine x_geto hx hb hf9 hw (by omega) (by omega) sl_40_4 lk17 dX9_checked_367 ?_
        refine lv_iconst (v := jI 5) hx hb dX9_checked_370 rfl ?_
        refine lv_aload_n hx hb dX9_checked_371 rfl (lv_at hl 1 rfl) ?_
        refine x_geto hx hb hf9 hw (by omega) (by omega) sl_40_14 lk45 dX9_checked_372 ?_
        refine lv_iload_n hx hb dX9_checked_375 rfl (lv_at hl 2 rfl) ?_
        refine x_iald hx hb hK.1 hw (by omega) (by omega) ar_55 (len_E ar_55 (by decide)) (by omega) (by omega) (by omega) dX9_checked_376 ?_
        have f8 : 0 ≤ X 55 0 x ∧ X 55 0 x ≤ 7 := hR 55 0 x
        refine x_imul hx hb dX9_checked_377 ?_
        refine lv_iload hx hb dX9_checked_378 (lv_at hl 5 rfl) ?_
        refine x_iadd hx hb dX9_checked_380 ?_
        refine x_iald hx hb hK.1 hw (by omega) (by omega) ar_45 (len_E ar_45 (by decide)) (by omega) (by omega) (by omega) dX9_checked_381 ?_
        have f9 : 0 ≤ X 45 0 ((5 * (X 55 0 x)) + (X 51 0 cq)) ∧ X 45 0 ((5 * (X 55 0 x)) + (X 51 0 cq)) ≤ 19 := hR 45 0 ((5 * (X 55 0 x)) + (X 51 0 cq))
        refine gos_i (run_V (As := [.int (jI (X 55 0 vz)), .int (jI (X 45 0 ((5 * (X 55 0 x)) + (X 51 0 cq))))]) (rest := []) hx hb hml hown hts (c_X9_named l D tc base ad cnt X Y ln hR hFx (X 55 0 vz) (X 45 0 ((5 * (X 55 0 x)) + (X 51 0 cq))) (by omega) (by omega)) (cwV 2 hts gX9_checked_X9_named rfl rfl rfl (by decide +kernel) ⟨Nat.le_of_ble_eq_true rfl, Nat.le_of_ble_eq_true rfl⟩) hK hw (by omega) (by omega) sl_40_0 rfl rfl hl.1 rfl (Nat.le_of_ble_eq_true rfl) dX9_checked_382 ⟨Nat.le_of_ble_eq_true rfl, Nat.le_of_ble_eq_true rfl⟩) hS (fun z10 u11 H locs p12 hw hS => ?_)
        obtain ⟨eu11, p12⟩ := p12
        subst eu11
        refine lv_istore (lv' := [(12, .int (jI z10)), (11, .int (jI vz)), (0, .ref (ad 40 0)), (1, .int (jI x)), (2, .int (jI cq)), (3, .int (jI (X 50 0 cq))), (4, .int (jI (X 51 0 cq))), (5, .int (jI (X 52 0 cq))), (7, .long (jL vz)), (9, .long (jL wz))]) hx hb dX9_checked_385 hl (by decide) rfl (fun ls hl => ?_)
        refine lv_iload hx hb dX9_checked_387 (lv_at hl 0 rfl) ?_
        refine x_if_lt (tgt := 404) hx hb (by omega) dX9_checked_389 (by decide) (fun c13 => ?_) (fun c13 => ?_)
        · refine lv_iconst (v := jI 4) hx hb dX9_checked_404 rfl ?_
          refine ret_i (mc := 0) (ms := 0) hx hb hr hlocks hw hS (by omega) (by omega) dX9_checked_405 ?_
          exact ⟨rfl, by omega⟩
        · refine lv_aload_n hx hb dX9_checked_392 rfl (lv_at hl 2 rfl) ?_
          refine lv_iload hx hb dX9_checked_393 (lv_at hl 1 rfl) ?_
          refine lv_iload hx hb dX9_checked_395 (lv_at hl 0 rfl) ?_
          refine gos_i (run_V (As := [.int (jI vz), .int (jI z10)]) (rest := []) hx hb hml hown hts (c_X9_lane l D tc base ad cnt X Y ln hR hFx vz z10 (by omega) (by omega)) (cwV 2 hts gX9_checked_X9_lane rfl rfl rfl (by decide +kernel) ⟨Nat.le_of_ble_eq_true rfl, Nat.le_of_ble_eq_true rfl⟩) hK hw (by omega) (by omega) sl_40_0 rfl rfl hl.1 rfl (Nat.le_of_ble_eq_true rfl) dX9_checked_397 ⟨Nat.le_of_ble_eq_true rfl, Nat.le_of_ble_eq_true rfl⟩) hS (fun z14 u15 H locs p16 hw hS => ?_)
          obtain ⟨eu15, p16⟩ := p16
          subst eu15
          refine lv_iconst (v := jI 2) hx hb dX9_checked_400 rfl ?_
          refine x_icmp_eq (tgt := 406) hx hb (by omega) (by omega) dX9_checked_401 (by decide) (fun c17 => ?_) (fun c17 => ?_)
          · refine lv_aload_n hx hb dX9_checked_406 rfl (lv_at hl 2 rfl) ?_
            refine x_geto hx hb hf9 hw (by omega) (by omega) sl_40_15 lk48 dX9_checked_407 ?_
            refine lv_iconst (v := jI 5) hx hb dX9_checked_410 rfl ?_
            refine lv_iload hx hb dX9_checked_411 (lv_at hl 1 rfl) ?_
            refine x_imul hx hb dX9_checked_413 ?_
            refine lv_iload hx hb dX9_checked_414 (lv_at hl 0 rfl) ?_
            refine x_iadd hx hb dX9_checked_416 ?_
            skip
            refine x_lald hx hb hK.1 hw (by omega) (by omega) ar_56 (len_E ar_56 (by decide)) (by omega) (by omega) (by omega) dX9_checked_417 ?_
            have f18 : (-9223372036854775808) ≤ X 56 0 ((5 * vz) + z10) ∧ X 56 0 ((5 * vz) + z10) ≤ 9223372036854775807 := hR 56 0 ((5 * vz) + z10)
            refine lv_lconst (v := jL 0) hx hb dX9_checked_418 (by decide) ?_
            refine x_lcmp hx hb (by omega) (by omega) dX9_checked_419 ?_
            obtain ⟨z19, ez19⟩ : ∃ y : Int, y = cmpZ (X 56 0 ((5 * vz) + z10)) 0 := ⟨_, rfl⟩
            rw [← ez19]
            have gz19 : (z19 < 0 ↔ ((X 56 0 ((5 * vz) + z10)) : Int) < 0) ∧ (z19 = 0 ↔ ((X 56 0 ((5 * vz) + z10)) : Int) = 0) ∧ -1 ≤ z19 ∧ z19 ≤ 1 := by rw [ez19]; exact ⟨cmpZ_lt, cmpZ_eq, (cmpZ_r _ _).1, (cmpZ_r _ _).2⟩
            clear ez19
            refine x_if_ge (tgt := 427) hx hb (by omega) dX9_checked_420 (by decide) (fun c20 => ?_) (fun c20 => ?_)
            · refine lv_iconst (v := jI 0) hx hb dX9_checked_427 rfl ?_
              refine ret_i (mc := 0) (ms := 0) hx hb hr hlocks hw hS (by omega) (by omega) dX9_checked_428 ?_
              exact ⟨rfl, by omega⟩
            · refine lv_iconst (v := jI 1) hx hb dX9_checked_423 rfl ?_
              refine lv_goto (tgt := 428) hx hb dX9_checked_424 (by decide) ?_
              refine ret_i (mc := 0) (ms := 0) hx hb hr hlocks hw hS (by omega) (by omega) dX9_checked_428 ?_
              exact ⟨rfl, by omega⟩
          · refine lv_iconst (v := jI 4) hx hb dX9_checked_404 rfl ?_
            refine ret_i (mc := 0) (ms := 0) hx hb hr hlocks hw hS (by omega) (by omega) dX9_checked_405 ?_
            exact ⟨rfl, by omega⟩
      · refine lv_iconst (v := jI 1) hx hb dX9_checked_351 rfl ?_
        refine ret_i (mc := 0) (ms := 0) hx hb hr hlocks hw hS (by omega) (by omega) dX9_checked_352 ?_
        exact ⟨rfl, by omega⟩
    by_cases c21 : (X 50 0 cq) = 0
    · refine lv_tableIn (off := 36) (tgt := 184) hx hb dX9_checked_148 (by rw [tc4]; omega) (by rw [tc4]; omega) (by rw [tc4, c21]; rfl) (by decide) ?_
      refine lv_lload hx hb dX9_checked_184 (lv_at hl 7 rfl) ?_
      refine lv_lconst (v := jL 0) hx hb dX9_checked_186 (by decide) ?_
      refine x_lcmp hx hb (by omega) (by omega) dX9_checked_187 ?_
      obtain ⟨z22, ez22⟩ : ∃ y : Int, y = cmpZ wz 0 := ⟨_, rfl⟩
      rw [← ez22]
      have gz22 : (z22 < 0 ↔ (wz : Int) < 0) ∧ (z22 = 0 ↔ (wz : Int) = 0) ∧ -1 ≤ z22 ∧ z22 ≤ 1 := by rw [ez22]; exact ⟨cmpZ_lt, cmpZ_eq, (cmpZ_r _ _).1, (cmpZ_r _ _).2⟩
      clear ez22
      refine x_if_ne (tgt := 195) hx hb (by omega) dX9_checked_188 (by decide) (fun c23 => ?_) (fun c23 => ?_)
      · refine lv_iconst (v := jI 0) hx hb dX9_checked_195 rfl ?_
        refine ret_i (mc := 0) (ms := 0) hx hb hr hlocks hw hS (by omega) (by omega) dX9_checked_196 ?_
        exact ⟨rfl, by omega⟩
      · refine lv_iconst (v := jI 5) hx hb dX9_checked_191 rfl ?_
        refine lv_goto (tgt := 196) hx hb dX9_checked_192 (by decide) ?_
        refine ret_i (mc := 0) (ms := 0) hx hb hr hlocks hw hS (by omega) (by omega) dX9_checked_196 ?_
        exact ⟨rfl, by omega⟩
    by_cases c24 : (X 50 0 cq) = 1
    · refine lv_tableIn (off := 49) (tgt := 197) hx hb dX9_checked_148 (by rw [tc4]; omega) (by rw [tc4]; omega) (by rw [tc4, c24]; rfl) (by decide) ?_
      refine lv_lload hx hb dX9_checked_197 (lv_at hl 6 rfl) ?_
      refine lv_lconst (v := jL 0) hx hb dX9_checked_199 (by decide) ?_
      refine x_lcmp hx hb (by omega) (by omega) dX9_checked_200 ?_
      obtain ⟨z25, ez25⟩ : ∃ y : Int, y = cmpZ vz 0 := ⟨_, rfl⟩
      rw [← ez25]
      have gz25 : (z25 < 0 ↔ (vz : Int) < 0) ∧ (z25 = 0 ↔ (vz : Int) = 0) ∧ -1 ≤ z25 ∧ z25 ≤ 1 := by rw [ez25]; exact ⟨cmpZ_lt, cmpZ_eq, (cmpZ_r _ _).1, (cmpZ_r _ _).2⟩
      clear ez25
      refine x_if_ge (tgt := 208) hx hb (by omega) dX9_checked_201 (by decide) (fun c26 => ?_) (fun c26 => ?_)
      · refine lv_aload_n hx hb dX9_checked_208 rfl (lv_at hl 0 rfl) ?_
        refine x_geto hx hb hf9 hw (by omega) (by omega) sl_40_14 lk45 dX9_checked_209 ?_
        refine lv_lload hx hb dX9_checked_212 (lv_at hl 6 rfl) ?_
        refine x_l2i hx hb dX9_checked_214 ?_
        refine x_iald hx hb hK.1 hw (by omega) (by omega) ar_55 (len_E ar_55 (by decide)) (by omega) (by omega) (by omega) dX9_checked_215 ?_
        have f27 : 0 ≤ X 55 0 vz ∧ X 55 0 vz ≤ 7 := hR 55 0 vz
        refine x_i2l hx hb (by omega) dX9_checked_216 ?_
        refine lv_aload_n hx hb dX9_checked_217 rfl (lv_at hl 0 rfl) ?_
        refine x_geto hx hb hf9 hw (by omega) (by omega) sl_40_12 lk42 dX9_checked_218 ?_
        refine lv_iload_n hx hb dX9_checked_221 rfl (lv_at hl 2 rfl) ?_
        refine x_lald hx hb hK.1 hw (by omega) (by omega) ar_53 (len_E ar_53 (by decide)) (by omega) (by omega) (by omega) dX9_checked_222 ?_
        have f28 : (-9223372036854775808) ≤ X 53 0 cq ∧ X 53 0 cq ≤ 9223372036854775807 := hR 53 0 cq
        refine x_lcmp hx hb (by omega) (by omega) dX9_checked_223 ?_
        obtain ⟨z29, ez29⟩ : ∃ y : Int, y = cmpZ (X 55 0 vz) (X 53 0 cq) := ⟨_, rfl⟩
        rw [← ez29]
        have gz29 : (z29 < 0 ↔ ((X 55 0 vz) : Int) < (X 53 0 cq)) ∧ (z29 = 0 ↔ ((X 55 0 vz) : Int) = (X 53 0 cq)) ∧ -1 ≤ z29 ∧ z29 ≤ 1 := by rw [ez29]; exact ⟨cmpZ_lt, cmpZ_eq, (cmpZ_r _ _).1, (cmpZ_r _ _).2⟩
        clear ez29
        refine x_if_eq (tgt := 231) hx hb (by omega) dX9_checked_224 (by decide) (fun c30 => ?_) (fun c30 => ?_)
        · refine lv_iconst (v := jI 0) hx hb dX9_checked_231 rfl ?_
          refine ret_i (mc := 0) (ms := 0) hx hb hr hlocks hw hS (by omega) (by omega) dX9_checked_232 ?_
          exact ⟨rfl, by omega⟩
        · refine lv_iconst (v := jI 4) hx hb dX9_checked_227 rfl ?_
          refine lv_goto (tgt := 232) hx hb dX9_checked_228 (by decide) ?_
          refine ret_i (mc := 0) (ms := 0) hx hb hr hlocks hw hS (by omega) (by omega) dX9_checked_232 ?_
          exact ⟨rfl, by omega⟩
      · refine lv_iconst (v := jI 1) hx hb dX9_checked_204 rfl ?_
        refine lv_goto (tgt := 232) hx hb dX9_checked_205 (by decide) ?_
        refine ret_i (mc := 0) (ms := 0) hx hb hr hlocks hw hS (by omega) (by omega) dX9_checked_232 ?_
        exact ⟨rfl, by omega⟩
    by_cases c31 : (X 50 0 cq) = 2
    · refine lv_tableIn (off := 85) (tgt := 233) hx hb dX9_checked_148 (by rw [tc4]; omega) (by rw [tc4]; omega) (by rw [tc4, c31]; rfl) (by decide) ?_
      refine lv_lload hx hb dX9_checked_233 (lv_at hl 6 rfl) ?_
      refine lv_lconst (v := jL 0) hx hb dX9_checked_235 (by decide) ?_
      refine x_lcmp hx hb (by omega) (by omega) dX9_checked_236 ?_
      obtain ⟨z32, ez32⟩ : ∃ y : Int, y = cmpZ vz 0 := ⟨_, rfl⟩
      rw [← ez32]
      have gz32 : (z32 < 0 ↔ (vz : Int) < 0) ∧ (z32 = 0 ↔ (vz : Int) = 0) ∧ -1 ≤ z32 ∧ z32 ≤ 1 := by rw [ez32]; exact ⟨cmpZ_lt, cmpZ_eq, (cmpZ_r _ _).1, (cmpZ_r _ _).2⟩
      clear ez32
      refine x_if_ge (tgt := 242) hx hb (by omega) dX9_checked_237 (by decide) (fun c33 => ?_) (fun c33 => ?_)
      · refine lv_lload hx hb dX9_checked_242 (lv_at hl 7 rfl) ?_
        refine lv_lconst (v := jL 0) hx hb dX9_checked_244 (by decide) ?_
        refine x_lcmp hx hb (by omega) (by omega) dX9_checked_245 ?_
        obtain ⟨z34, ez34⟩ : ∃ y : Int, y = cmpZ wz 0 := ⟨_, rfl⟩
        rw [← ez34]
        have gz34 : (z34 < 0 ↔ (wz : Int) < 0) ∧ (z34 = 0 ↔ (wz : Int) = 0) ∧ -1 ≤ z34 ∧ z34 ≤ 1 := by rw [ez34]; exact ⟨cmpZ_lt, cmpZ_eq, (cmpZ_r _ _).1, (cmpZ_r _ _).2⟩
        clear ez34
        refine x_if_lt (tgt := 264) hx hb (by omega) dX9_checked_246 (by decide) (fun c35 => ?_) (fun c35 => ?_)
        · refine lv_iconst (v := jI 2) hx hb dX9_checked_264 rfl ?_
          refine ret_i (mc := 0) (ms := 0) hx hb hr hlocks hw hS (by omega) (by omega) dX9_checked_265 ?_
          exact ⟨rfl, by omega⟩
        · refine lv_lload hx hb dX9_checked_249 (lv_at hl 7 rfl) ?_
          refine lv_aload_n hx hb dX9_checked_251 rfl (lv_at hl 0 rfl) ?_
          refine x_geto hx hb hf9 hw (by omega) (by omega) sl_40_17 lk54 dX9_checked_252 ?_
          refine lv_lload hx hb dX9_checked_255 (lv_at hl 6 rfl) ?_
          refine x_l2i hx hb dX9_checked_257 ?_
          refine x_iald hx hb hK.1 hw (by omega) (by omega) ar_58 (len_E ar_58 (by decide)) (by omega) (by omega) (by omega) dX9_checked_258 ?_
          have f36 : 0 ≤ X 58 0 vz ∧ X 58 0 vz ≤ 12 := hR 58 0 vz
          refine x_i2l hx hb (by omega) dX9_checked_259 ?_
          refine x_lcmp hx hb (by omega) (by omega) dX9_checked_260 ?_
          obtain ⟨z37, ez37⟩ : ∃ y : Int, y = cmpZ wz (X 58 0 vz) := ⟨_, rfl⟩
          rw [← ez37]
          have gz37 : (z37 < 0 ↔ (wz : Int) < (X 58 0 vz)) ∧ (z37 = 0 ↔ (wz : Int) = (X 58 0 vz)) ∧ -1 ≤ z37 ∧ z37 ≤ 1 := by rw [ez37]; exact ⟨cmpZ_lt, cmpZ_eq, (cmpZ_r _ _).1, (cmpZ_r _ _).2⟩
          clear ez37
          refine x_if_lt (tgt := 266) hx hb (by omega) dX9_checked_261 (by decide) (fun c38 => ?_) (fun c38 => ?_)
          · refine lv_aload_n hx hb dX9_checked_266 rfl (lv_at hl 0 rfl) ?_
            refine x_geto hx hb hf9 hw (by omega) (by omega) sl_40_18 lk57 dX9_checked_267 ?_
            refine lv_bipush (v := jI 12) hx hb dX9_checked_270 (by decide) ?_
            refine lv_lload hx hb dX9_checked_272 (lv_at hl 6 rfl) ?_
            refine x_l2i hx hb dX9_checked_274 ?_
            refine x_imul hx hb dX9_checked_275 ?_
            refine lv_lload hx hb dX9_checked_276 (lv_at hl 7 rfl) ?_
            refine x_l2i hx hb dX9_checked_278 ?_
            refine x_iadd hx hb dX9_checked_279 ?_
            refine x_lald hx hb hK.1 hw (by omega) (by omega) ar_59 (len_E ar_59 (by decide)) (by omega) (by omega) (by omega) dX9_checked_280 ?_
            have f39 : (-9223372036854775808) ≤ X 59 0 ((12 * vz) + wz) ∧ X 59 0 ((12 * vz) + wz) ≤ 9223372036854775807 := hR 59 0 ((12 * vz) + wz)
            refine lv_aload_n hx hb dX9_checked_281 rfl (lv_at hl 0 rfl) ?_
            refine x_geto hx hb hf9 hw (by omega) (by omega) sl_40_12 lk42 dX9_checked_282 ?_
            refine lv_iload_n hx hb dX9_checked_285 rfl (lv_at hl 2 rfl) ?_
            refine x_lald hx hb hK.1 hw (by omega) (by omega) ar_53 (len_E ar_53 (by decide)) (by omega) (by omega) (by omega) dX9_checked_286 ?_
            have f40 : (-9223372036854775808) ≤ X 53 0 cq ∧ X 53 0 cq ≤ 9223372036854775807 := hR 53 0 cq
            refine x_lcmp hx hb (by omega) (by omega) dX9_checked_287 ?_
            obtain ⟨z41, ez41⟩ : ∃ y : Int, y = cmpZ (X 59 0 ((12 * vz) + wz)) (X 53 0 cq) := ⟨_, rfl⟩
            rw [← ez41]
            have gz41 : (z41 < 0 ↔ ((X 59 0 ((12 * vz) + wz)) : Int) < (X 53 0 cq)) ∧ (z41 = 0 ↔ ((X 59 0 ((12 * vz) + wz)) : Int) = (X 53 0 cq)) ∧ -1 ≤ z41 ∧ z41 ≤ 1 := by rw [ez41]; exact ⟨cmpZ_lt, cmpZ_eq, (cmpZ_r _ _).1, (cmpZ_r _ _).2⟩
            clear ez41
            refine x_if_le (tgt := 295) hx hb (by omega) dX9_checked_288 (by decide) (fun c42 => ?_) (fun c42 => ?_)
            · refine lv_bipush (v := jI 6) hx hb dX9_checked_295 (by decide) ?_
              refine ret_i (mc := 0) (ms := 0) hx hb hr hlocks hw hS (by omega) (by omega) dX9_checked_297 ?_
              exact ⟨rfl, by omega⟩
            · refine lv_iconst (v := jI 0) hx hb dX9_checked_291 rfl ?_
              refine lv_goto (tgt := 297) hx hb dX9_checked_292 (by decide) ?_
              refine ret_i (mc := 0) (ms := 0) hx hb hr hlocks hw hS (by omega) (by omega) dX9_checked_297 ?_
              exact ⟨rfl, by omega⟩
          · refine lv_iconst (v := jI 2) hx hb dX9_checked_264 rfl ?_
            refine ret_i (mc := 0) (ms := 0) hx hb hr hlocks hw hS (by omega) (by omega) dX9_checked_265 ?_
            exact ⟨rfl, by omega⟩
      · refine lv_iconst (v := jI 1) hx hb dX9_checked_240 rfl ?_
        refine ret_i (mc := 0) (ms := 0) hx hb hr hlocks hw hS (by omega) (by omega) dX9_checked_241 ?_
        exact ⟨rfl, by omega⟩
    by_cases c43 : (X 50 0 cq) = 3
    · refine lv_tableIn (off := 150) (tgt := 298) hx hb dX9_checked_148 (by rw [tc4]; omega) (by rw [tc4]; omega) (by rw [tc4, c43]; rfl) (by decide) ?_
      refine lv_lload hx hb dX9_checked_298 (lv_at hl 6 rfl) ?_
      refine lv_ldc2 (v := jL 12) hx hb hown (hts (.constantLong RX9 201 (12)) (by decide +kernel)) dX9_checked_300 ?_
      refine x_lcmp hx hb (by omega) (by omega) dX9_checked_303 ?_
      obtain ⟨z44, ez44⟩ : ∃ y : Int, y = cmpZ vz 12 := ⟨_, rfl⟩
      rw [← ez44]
      have gz44 : (z44 < 0 ↔ (vz : Int) < 12) ∧ (z44 = 0 ↔ (vz : Int) = 12) ∧ -1 ≤ z44 ∧ z44 ≤ 1 := by rw [ez44]; exact ⟨cmpZ_lt, cmpZ_eq, (cmpZ_r _ _).1, (cmpZ_r _ _).2⟩
      clear ez44
      refine x_if_le (tgt := 312) hx hb (by omega) dX9_checked_304 (by decide) (fun c45 => ?_) (fun c45 => ?_)
      · refine lv_lload hx hb dX9_checked_312 (lv_at hl 6 rfl) ?_
        refine lv_lconst (v := jL 0) hx hb dX9_checked_314 (by decide) ?_
        refine x_lcmp hx hb (by omega) (by omega) dX9_checked_315 ?_
        obtain ⟨z46, ez46⟩ : ∃ y : Int, y = cmpZ vz 0 := ⟨_, rfl⟩
        rw [← ez46]
        have gz46 : (z46 < 0 ↔ (vz : Int) < 0) ∧ (z46 = 0 ↔ (vz : Int) = 0) ∧ -1 ≤ z46 ∧ z46 ≤ 1 := by rw [ez46]; exact ⟨cmpZ_lt, cmpZ_eq, (cmpZ_r _ _).1, (cmpZ_r _ _).2⟩
        clear ez46
        refine x_if_ge (tgt := 323) hx hb (by omega) dX9_checked_316 (by decide) (fun c47 => ?_) (fun c47 => ?_)
        · refine lv_iconst (v := jI 0) hx hb dX9_checked_323 rfl ?_
          refine ret_i (mc := 0) (ms := 0) hx hb hr hlocks hw hS (by omega) (by omega) dX9_checked_324 ?_
          exact ⟨rfl, by omega⟩
        · refine lv_iconst (v := jI 3) hx hb dX9_checked_319 rfl ?_
          refine lv_goto (tgt := 324) hx hb dX9_checked_320 (by decide) ?_
          refine ret_i (mc := 0) (ms := 0) hx hb hr hlocks hw hS (by omega) (by omega) dX9_checked_324 ?_
          exact ⟨rfl, by omega⟩
      · refine lv_bipush (v := jI 6) hx hb dX9_checked_307 (by decide) ?_
        refine lv_goto (tgt := 324) hx hb dX9_checked_309 (by decide) ?_
        refine ret_i (mc := 0) (ms := 0) hx hb hr hlocks hw hS (by omega) (by omega) dX9_checked_324 ?_
        exact ⟨rfl, by omega⟩
    have c48 : (X 50 0 cq) = 4 := by omega
    refine lv_tableIn (off := 177) (tgt := 325) hx hb dX9_checked_148 (by rw [tc4]; omega) (by rw [tc4]; omega) (by rw [tc4, c48]; rfl) (by decide) ?_
    refine lv_lload hx hb dX9_checked_325 (lv_at hl 6 rfl) ?_
    refine lv_aload_n hx hb dX9_checked_327 rfl (lv_at hl 0 rfl) ?_
    refine x_geto hx hb hf9 hw (by omega) (by omega) sl_40_12 lk42 dX9_checked_328 ?_
    refine lv_iload_n hx hb dX9_checked_331 rfl (lv_at hl 2 rfl) ?_
    refine x_lald hx hb hK.1 hw (by omega) (by omega) ar_53 (len_E ar_53 (by decide)) (by omega) (by omega) (by omega) dX9_checked_332 ?_
    have f49 : (-9223372036854775808) ≤ X 53 0 cq ∧ X 53 0 cq ≤ 9223372036854775807 := hR 53 0 cq
    refine x_lcmp hx hb (by omega) (by omega) dX9_checked_333 ?_
    obtain ⟨z50, ez50⟩ : ∃ y : Int, y = cmpZ vz (X 53 0 cq) := ⟨_, rfl⟩
    rw [← ez50]
    have gz50 : (z50 < 0 ↔ (vz : Int) < (X 53 0 cq)) ∧ (z50 = 0 ↔ (vz : Int) = (X 53 0 cq)) ∧ -1 ≤ z50 ∧ z50 ≤ 1 := by rw [ez50]; exact ⟨cmpZ_lt, cmpZ_eq, (cmpZ_r _ _).1, (cmpZ_r _ _).2⟩
    clear ez50
    refine x_if_ge (tgt := 342) hx hb (by omega) dX9_checked_334 (by decide) (fun c51 => ?_) (fun c51 => ?_)
    · refine lv_iconst (v := jI 0) hx hb dX9_checked_342 rfl ?_
      refine ret_i (mc := 0) (ms := 0) hx hb hr hlocks hw hS (by omega) (by omega) dX9_checked_343 ?_
      exact ⟨rfl, by omega⟩
    · refine lv_bipush (v := jI 6) hx hb dX9_checked_337 (by decide) ?_
      refine lv_goto (tgt := 343) hx hb dX9_checked_339 (by decide) ?_
      refine ret_i (mc := 0) (ms := 0) hx hb hr hlocks hw hS (by omega) (by omega) dX9_checked_343 ?_
      exact ⟨rfl, by omega⟩
  have lp101 : ∀  (H : Heap) (locs : List Loc) (ls : Array Slot), ((X 51 0 cq) < X 44 0 (X 55 0 x) ∧ ((X 50 0 cq) = 2 → 3 ≤ X 46 0 (5 * X 55 0 x + (X 51 0 cq))) ∧ ((X 50 0 cq) = 1 → X 46 0 (5 * X 55 0 x + (X 51 0 cq)) = 2) ∧ ((X 50 0 cq) = 5 → X 46 0 (5 * X 55 0 x + (X 51 0 cq)) = 2)) → wd D tc base (ad, cnt, X, Y, ln) H → va_S (frA base) s.heap H locs → lv_has ls 13 [(0, .ref (ad 40 0)), (1, .int (jI x)), (2, .int (jI cq)), (3, .int (jI (X 50 0 cq))), (4, .int (jI (X 51 0 cq))), (5, .int (jI (X 52 0 cq)))] → W p l e ({ frames := 2, cells := 0, slots := 0, locals := 46 } : Room) s m ([.ref (ad 40 0), .int (jI x), .int (jI cq)] : List Value).toArray below meth c H locs 0 0 (MQ below (QI D tc base (fun z u => u = (ad, cnt, X, Y, ln) ∧ (0 ≤ z ∧ z ≤ 10))) ([.ref (ad 40 0), .int (jI x), .int (jI cq)] : List Value).toArray s 0 0 (frA base)) (F0 m 101 ls []) := by
    intro  H locs ls hfi hw hS hl
    refine lv_aload_n hx hb dX9_checked_101 rfl (lv_at hl 0 rfl) ?_
    refine x_geto hx hb hf9 hw (by omega) (by omega) sl_40_15 lk48 dX9_checked_102 ?_
    refine lv_iconst (v := jI 5) hx hb dX9_checked_105 rfl ?_
    refine lv_iload_n hx hb dX9_checked_106 rfl (lv_at hl 1 rfl) ?_
    refine x_imul hx hb dX9_checked_107 ?_
    refine lv_iload hx hb dX9_checked_108 (lv_at hl 4 rfl) ?_
    refine x_iadd hx hb dX9_checked_110 ?_
    obtain ⟨hy1, hy2, hy3⟩ := hMI.1 x (X 51 0 cq) (by omega) (by omega) (by omega) (by omega)
    refine x_lald hx hb hK.1 hw (by omega) (by omega) ar_56 (len_E ar_56 (by decide)) (by omega) (by omega) (by omega) dX9_checked_111 ?_
    have f52 : (-9223372036854775808) ≤ X 56 0 ((5 * x) + (X 51 0 cq)) ∧ X 56 0 ((5 * x) + (X 51 0 cq)) ≤ 9223372036854775807 := hR 56 0 ((5 * x) + (X 51 0 cq))
    refine lv_lstore (lv' := [(7, .long (jL (X 56 0 ((5 * x) + (X 51 0 cq))))), (0, .ref (ad 40 0)), (1, .int (jI x)), (2, .int (jI cq)), (3, .int (jI (X 50 0 cq))), (4, .int (jI (X 51 0 cq))), (5, .int (jI (X 52 0 cq)))]) hx hb dX9_checked_112 hl (by decide) rfl (fun ls hl => ?_)
    refine lv_iload hx hb dX9_checked_114 (lv_at hl 6 rfl) ?_
    refine lv_aload_n hx hb dX9_checked_116 rfl (lv_at hl 1 rfl) ?_
    refine x_geto hx hb hf9 hw (by omega) (by omega) sl_40_3 lk13 dX9_checked_117 ?_
    refine lv_aload_n hx hb dX9_checked_120 rfl (lv_at hl 1 rfl) ?_
    refine x_geto hx hb hf9 hw (by omega) (by omega) sl_40_14 lk45 dX9_checked_121 ?_
    refine lv_iload_n hx hb dX9_checked_124 rfl (lv_at hl 2 rfl) ?_
    refine x_iald hx hb hK.1 hw (by omega) (by omega) ar_55 (len_E ar_55 (by decide)) (by omega) (by omega) (by omega) dX9_checked_125 ?_
    have f53 : 0 ≤ X 55 0 x ∧ X 55 0 x ≤ 7 := hR 55 0 x
    refine x_iald hx hb hK.1 hw (by omega) (by omega) ar_44 (len_E ar_44 (by decide)) (by omega) (by omega) (by omega) dX9_checked_126 ?_
    have f54 : 0 ≤ X 44 0 (X 55 0 x) ∧ X 44 0 (X 55 0 x) ≤ 5 := hR 44 0 (X 55 0 x)
    refine x_icmp_ge (tgt := 144) hx hb (by omega) (by omega) dX9_checked_127 (by decide) (fun c55 => ?_) (fun c55 => ?_)
    · refine lv_lconst (v := jL 0) hx hb dX9_checked_144 (by decide) ?_
      refine lv_lstore (lv' := [(9, .long (jL 0)), (7, .long (jL (X 56 0 ((5 * x) + (X 51 0 cq))))), (0, .ref (ad 40 0)), (1, .int (jI x)), (2, .int (jI cq)), (3, .int (jI (X 50 0 cq))), (4, .int (jI (X 51 0 cq))), (5, .int (jI (X 52 0 cq)))]) hx hb dX9_checked_145 hl (by decide) rfl (fun ls hl => ?_)
      exact lp147 (X 56 0 ((5 * x) + (X 51 0 cq))) 0 _ _ _ (by omega) (by omega) (by omega) (by omega) (by omega) hw hS (lv_sub hl [2, 3, 4, 5, 6, 7, 1, 0] rfl)
    · refine lv_aload_n hx hb dX9_checked_130 rfl (lv_at hl 1 rfl) ?_
      refine x_geto hx hb hf9 hw (by omega) (by omega) sl_40_15 lk48 dX9_checked_131 ?_
      refine lv_iconst (v := jI 5) hx hb dX9_checked_134 rfl ?_
      refine lv_iload_n hx hb dX9_checked_135 rfl (lv_at hl 2 rfl) ?_
      refine x_imul hx hb dX9_checked_136 ?_
      refine lv_iload hx hb dX9_checked_137 (lv_at hl 6 rfl) ?_
      refine x_iadd hx hb dX9_checked_139 ?_
      refine x_lald hx hb hK.1 hw (by omega) (by omega) ar_56 (len_E ar_56 (by decide)) (by omega) (by omega) (by omega) dX9_checked_140 ?_
      have f56 : (-9223372036854775808) ≤ X 56 0 ((5 * x) + (X 52 0 cq)) ∧ X 56 0 ((5 * x) + (X 52 0 cq)) ≤ 9223372036854775807 := hR 56 0 ((5 * x) + (X 52 0 cq))
      refine lv_goto (tgt := 145) hx hb dX9_checked_141 (by decide) ?_
      refine lv_lstore (lv' := [(9, .long (jL (X 56 0 ((5 * x) + (X 52 0 cq))))), (7, .long (jL (X 56 0 ((5 * x) + (X 51 0 cq))))), (0, .ref (ad 40 0)), (1, .int (jI x)), (2, .int (jI cq)), (3, .int (jI (X 50 0 cq))), (4, .int (jI (X 51 0 cq))), (5, .int (jI (X 52 0 cq)))]) hx hb dX9_checked_145 hl (by decide) rfl (fun ls hl => ?_)
      exact lp147 (X 56 0 ((5 * x) + (X 51 0 cq))) (X 56 0 ((5 * x) + (X 52 0 cq))) _ _ _ (by omega) (by omega) (by omega) (by omega) (by omega) hw hS (lv_sub hl [2, 3, 4, 5, 6, 7, 1, 0] rfl)
  have lp73 : ∀ (fz : Int) (H : Heap) (locs : List Loc) (ls : Array Slot), (0 ≤ fz ∧ fz ≤ 1) → (fz = 1 → (X 51 0 cq) < X 44 0 (X 55 0 x) ∧ ((X 50 0 cq) = 2 → 3 ≤ X 46 0 (5 * X 55 0 x + (X 51 0 cq))) ∧ ((X 50 0 cq) = 1 → X 46 0 (5 * X 55 0 x + (X 51 0 cq)) = 2) ∧ ((X 50 0 cq) = 5 → X 46 0 (5 * X 55 0 x + (X 51 0 cq)) = 2)) → wd D tc base (ad, cnt, X, Y, ln) H → va_S (frA base) s.heap H locs → lv_has ls 13 [(0, .ref (ad 40 0)), (1, .int (jI x)), (2, .int (jI cq)), (3, .int (jI (X 50 0 cq))), (4, .int (jI (X 51 0 cq))), (5, .int (jI (X 52 0 cq))), (6, .int (jI fz))] → W p l e ({ frames := 2, cells := 0, slots := 0, locals := 46 } : Room) s m ([.ref (ad 40 0), .int (jI x), .int (jI cq)] : List Value).toArray below meth c H locs 0 0 (MQ below (QI D tc base (fun z u => u = (ad, cnt, X, Y, ln) ∧ (0 ≤ z ∧ z ≤ 10))) ([.ref (ad 40 0), .int (jI x), .int (jI cq)] : List Value).toArray s 0 0 (frA base)) (F0 m 73 ls []) := by
    intro fz H locs ls hfz hfi hw hS hl
    refine lv_iload hx hb dX9_checked_73 (lv_at hl 6 rfl) ?_
    refine x_if_eq (tgt := 99) hx hb (by omega) dX9_checked_75 (by decide) (fun c57 => ?_) (fun c57 => ?_)
    · refine lv_iconst (v := jI 4) hx hb dX9_checked_99 rfl ?_
      refine ret_i (mc := 0) (ms := 0) hx hb hr hlocks hw hS (by omega) (by omega) dX9_checked_100 ?_
      exact ⟨rfl, by omega⟩
    · refine lv_iload_n hx hb dX9_checked_78 rfl (lv_at hl 3 rfl) ?_
      refine x_if_eq (tgt := 87) hx hb (by omega) dX9_checked_79 (by decide) (fun c58 => ?_) (fun c58 => ?_)
      · refine lv_aload_n hx hb dX9_checked_87 rfl (lv_at hl 0 rfl) ?_
        refine lv_iload_n hx hb dX9_checked_88 rfl (lv_at hl 1 rfl) ?_
        refine lv_iload hx hb dX9_checked_89 (lv_at hl 5 rfl) ?_
        refine lv_iconst (v := jI 0) hx hb dX9_checked_91 rfl ?_
        refine lv_iconst (v := jI 0) hx hb dX9_checked_92 rfl ?_
        refine gos_i (run_V (As := [.int (jI x), .int (jI (X 52 0 cq)), .int (jI 0), .int (jI 0)]) (rest := []) hx hb hml hown hts (c_X9_isLane l D tc base ad cnt X Y ln hR hFx x (X 52 0 cq) 0 0 (by omega) (by omega) (by omega) (by omega)) (cwV 4 hts gX9_checked_X9_isLane rfl rfl rfl (by decide +kernel) ⟨Nat.le_of_ble_eq_true rfl, Nat.le_of_ble_eq_true rfl⟩) hK hw (by omega) (by omega) sl_40_0 rfl rfl hl.1 rfl (Nat.le_of_ble_eq_true rfl) dX9_checked_93 ⟨Nat.le_of_ble_eq_true rfl, Nat.le_of_ble_eq_true rfl⟩) hS (fun z59 u60 H locs p61 hw hS => ?_)
        obtain ⟨eu60, p61⟩ := p61
        subst eu60
        rcases p61 with ⟨ez59, p61⟩ | ⟨ez59, p61⟩
        · subst ez59
          refine x_if_neT (tgt := 101) hx hb (by omega) (by decide) dX9_checked_96 (by decide) ?_
          exact lp101  _ _ _ (by omega) hw hS (lv_sub hl [0, 1, 2, 3, 4, 5] rfl)
        · subst ez59
          refine x_if_neF (tgt := 101) hx hb (by omega) (by decide) dX9_checked_96 (by decide) ?_
          refine lv_iconst (v := jI 4) hx hb dX9_checked_99 rfl ?_
          refine ret_i (mc := 0) (ms := 0) hx hb hr hlocks hw hS (by omega) (by omega) dX9_checked_100 ?_
          exact ⟨rfl, by omega⟩
      · refine lv_iload_n hx hb dX9_checked_82 rfl (lv_at hl 3 rfl) ?_
        refine lv_iconst (v := jI 2) hx hb dX9_checked_83 rfl ?_
        refine x_icmp_ne (tgt := 101) hx hb (by omega) (by omega) dX9_checked_84 (by decide) (fun c62 => ?_) (fun c62 => ?_)
        · exact lp101  _ _ _ (by omega) hw hS (lv_sub hl [0, 1, 2, 3, 4, 5] rfl)
        · refine lv_aload_n hx hb dX9_checked_87 rfl (lv_at hl 0 rfl) ?_
          refine lv_iload_n hx hb dX9_checked_88 rfl (lv_at hl 1 rfl) ?_
          refine lv_iload hx hb dX9_checked_89 (lv_at hl 5 rfl) ?_
          refine lv_iconst (v := jI 0) hx hb dX9_checked_91 rfl ?_
          refine lv_iconst (v := jI 0) hx hb dX9_checked_92 rfl ?_
          refine gos_i (run_V (As := [.int (jI x), .int (jI (X 52 0 cq)), .int (jI 0), .int (jI 0)]) (rest := []) hx hb hml hown hts (c_X9_isLane l D tc base ad cnt X Y ln hR hFx x (X 52 0 cq) 0 0 (by omega) (by omega) (by omega) (by omega)) (cwV 4 hts gX9_checked_X9_isLane rfl rfl rfl (by decide +kernel) ⟨Nat.le_of_ble_eq_true rfl, Nat.le_of_ble_eq_true rfl⟩) hK hw (by omega) (by omega) sl_40_0 rfl rfl hl.1 rfl (Nat.le_of_ble_eq_true rfl) dX9_checked_93 ⟨Nat.le_of_ble_eq_true rfl, Nat.le_of_ble_eq_true rfl⟩) hS (fun z63 u64 H locs p65 hw hS => ?_)
          obtain ⟨eu64, p65⟩ := p65
          subst eu64
          rcases p65 with ⟨ez63, p65⟩ | ⟨ez63, p65⟩
          · subst ez63
            refine x_if_neT (tgt := 101) hx hb (by omega) (by decide) dX9_checked_96 (by decide) ?_
            exact lp101  _ _ _ (by omega) hw hS (lv_sub hl [0, 1, 2, 3, 4, 5] rfl)
          · subst ez63
            refine x_if_neF (tgt := 101) hx hb (by omega) (by decide) dX9_checked_96 (by decide) ?_
            refine lv_iconst (v := jI 4) hx hb dX9_checked_99 rfl ?_
            refine ret_i (mc := 0) (ms := 0) hx hb hr hlocks hw hS (by omega) (by omega) dX9_checked_100 ?_
            exact ⟨rfl, by omega⟩
  refine lv_iload_n hx hb dX9_checked_23 rfl (lv_at hl 2 rfl) ?_
  refine lv_iconst (v := jI 2) hx hb dX9_checked_24 rfl ?_
  refine x_icmp_ne (tgt := 40) hx hb (by omega) (by omega) dX9_checked_25 (by decide) (fun c66 => ?_) (fun c66 => ?_)
  · refine lv_iload_n hx hb dX9_checked_40 rfl (lv_at hl 2 rfl) ?_
    refine lv_iconst (v := jI 1) hx hb dX9_checked_41 rfl ?_
    refine x_icmp_eq (tgt := 50) hx hb (by omega) (by omega) dX9_checked_42 (by decide) (fun c67 => ?_) (fun c67 => ?_)
    · refine lv_aload_n hx hb dX9_checked_50 rfl (lv_at hl 3 rfl) ?_
      refine lv_iload_n hx hb dX9_checked_51 rfl (lv_at hl 4 rfl) ?_
      refine lv_iload hx hb dX9_checked_52 (lv_at hl 1 rfl) ?_
      refine lv_iconst (v := jI 2) hx hb dX9_checked_54 rfl ?_
      refine lv_iconst (v := jI 2) hx hb dX9_checked_55 rfl ?_
      refine gos_i (run_V (As := [.int (jI x), .int (jI (X 51 0 cq)), .int (jI 2), .int (jI 2)]) (rest := []) hx hb hml hown hts (c_X9_isLane l D tc base ad cnt X Y ln hR hFx x (X 51 0 cq) 2 2 (by omega) (by omega) (by omega) (by omega)) (cwV 4 hts gX9_checked_X9_isLane rfl rfl rfl (by decide +kernel) ⟨Nat.le_of_ble_eq_true rfl, Nat.le_of_ble_eq_true rfl⟩) hK hw (by omega) (by omega) sl_40_0 rfl rfl hl.1 rfl (Nat.le_of_ble_eq_true rfl) dX9_checked_56 ⟨Nat.le_of_ble_eq_true rfl, Nat.le_of_ble_eq_true rfl⟩) hS (fun z68 u69 H locs p70 hw hS => ?_)
      obtain ⟨eu69, p70⟩ := p70
      subst eu69
      rcases p70 with ⟨ez68, p70⟩ | ⟨ez68, p70⟩
      · subst ez68
        refine lv_goto (tgt := 71) hx hb dX9_checked_59 (by decide) ?_
        refine lv_istore (lv' := [(6, .int (jI 1)), (5, .int (jI (X 52 0 cq))), (4, .int (jI (X 51 0 cq))), (3, .int (jI (X 50 0 cq))), (0, .ref (ad 40 0)), (1, .int (jI x)), (2, .int (jI cq))]) hx hb dX9_checked_71 hl (by decide) rfl (fun ls hl => ?_)
        exact lp73 1 _ _ _ (by omega) (by omega) hw hS (lv_sub hl [4, 5, 6, 3, 2, 1, 0] rfl)
      · subst ez68
        refine lv_goto (tgt := 71) hx hb dX9_checked_59 (by decide) ?_
        refine lv_istore (lv' := [(6, .int (jI 0)), (5, .int (jI (X 52 0 cq))), (4, .int (jI (X 51 0 cq))), (3, .int (jI (X 50 0 cq))), (0, .ref (ad 40 0)), (1, .int (jI x)), (2, .int (jI cq))]) hx hb dX9_checked_71 hl (by decide) rfl (fun ls hl => ?_)
        exact lp73 0 _ _ _ (by omega) (by omega) hw hS (lv_sub hl [4, 5, 6, 3, 2, 1, 0] rfl)
    · refine lv_iload_n hx hb dX9_checked_45 rfl (lv_at hl 2 rfl) ?_
      refine lv_iconst (v := jI 5) hx hb dX9_checked_46 rfl ?_
      refine x_icmp_ne (tgt := 62) hx hb (by omega) (by omega) dX9_checked_47 (by decide) (fun c71 => ?_) (fun c71 => ?_)
      · refine lv_aload_n hx hb dX9_checked_62 rfl (lv_at hl 3 rfl) ?_
        refine lv_iload_n hx hb dX9_checked_63 rfl (lv_at hl 4 rfl) ?_
        refine lv_iload hx hb dX9_checked_64 (lv_at hl 1 rfl) ?_
        refine lv_iconst (v := jI 0) hx hb dX9_checked_66 rfl ?_
        refine lv_iconst (v := jI 0) hx hb dX9_checked_67 rfl ?_
        refine gos_i (run_V (As := [.int (jI x), .int (jI (X 51 0 cq)), .int (jI 0), .int (jI 0)]) (rest := []) hx hb hml hown hts (c_X9_isLane l D tc base ad cnt X Y ln hR hFx x (X 51 0 cq) 0 0 (by omega) (by omega) (by omega) (by omega)) (cwV 4 hts gX9_checked_X9_isLane rfl rfl rfl (by decide +kernel) ⟨Nat.le_of_ble_eq_true rfl, Nat.le_of_ble_eq_true rfl⟩) hK hw (by omega) (by omega) sl_40_0 rfl rfl hl.1 rfl (Nat.le_of_ble_eq_true rfl) dX9_checked_68 ⟨Nat.le_of_ble_eq_true rfl, Nat.le_of_ble_eq_true rfl⟩) hS (fun z72 u73 H locs p74 hw hS => ?_)
        obtain ⟨eu73, p74⟩ := p74
        subst eu73
        rcases p74 with ⟨ez72, p74⟩ | ⟨ez72, p74⟩
        · subst ez72
          refine lv_istore (lv' := [(6, .int (jI 1)), (5, .int (jI (X 52 0 cq))), (4, .int (jI (X 51 0 cq))), (3, .int (jI (X 50 0 cq))), (0, .ref (ad 40 0)), (1, .int (jI x)), (2, .int (jI cq))]) hx hb dX9_checked_71 hl (by decide) rfl (fun ls hl => ?_)
          exact lp73 1 _ _ _ (by omega) (by omega) hw hS (lv_sub hl [4, 5, 6, 3, 2, 1, 0] rfl)
        · subst ez72
          refine lv_istore (lv' := [(6, .int (jI 0)), (5, .int (jI (X 52 0 cq))), (4, .int (jI (X 51 0 cq))), (3, .int (jI (X 50 0 cq))), (0, .ref (ad 40 0)), (1, .int (jI x)), (2, .int (jI cq))]) hx hb dX9_checked_71 hl (by decide) rfl (fun ls hl => ?_)
          exact lp73 0 _ _ _ (by omega) (by omega) hw hS (lv_sub hl [4, 5, 6, 3, 2, 1, 0] rfl)
      · refine lv_aload_n hx hb dX9_checked_50 rfl (lv_at hl 3 rfl) ?_
        refine lv_iload_n hx hb dX9_checked_51 rfl (lv_at hl 4 rfl) ?_
        refine lv_iload hx hb dX9_checked_52 (lv_at hl 1 rfl) ?_
        refine lv_iconst (v := jI 2) hx hb dX9_checked_54 rfl ?_
        refine lv_iconst (v := jI 2) hx hb dX9_checked_55 rfl ?_
        refine gos_i (run_V (As := [.int (jI x), .int (jI (X 51 0 cq)), .int (jI 2), .int (jI 2)]) (rest := []) hx hb hml hown hts (c_X9_isLane l D tc base ad cnt X Y ln hR hFx x (X 51 0 cq) 2 2 (by omega) (by omega) (by omega) (by omega)) (cwV 4 hts gX9_checked_X9_isLane rfl rfl rfl (by decide +kernel) ⟨Nat.le_of_ble_eq_true rfl, Nat.le_of_ble_eq_true rfl⟩) hK hw (by omega) (by omega) sl_40_0 rfl rfl hl.1 rfl (Nat.le_of_ble_eq_true rfl) dX9_checked_56 ⟨Nat.le_of_ble_eq_true rfl, Nat.le_of_ble_eq_true rfl⟩) hS (fun z75 u76 H locs p77 hw hS => ?_)
        obtain ⟨eu76, p77⟩ := p77
        subst eu76
        rcases p77 with ⟨ez75, p77⟩ | ⟨ez75, p77⟩
        · subst ez75
          refine lv_goto (tgt := 71) hx hb dX9_checked_59 (by decide) ?_
          refine lv_istore (lv' := [(6, .int (jI 1)), (5, .int (jI (X 52 0 cq))), (4, .int (jI (X 51 0 cq))), (3, .int (jI (X 50 0 cq))), (0, .ref (ad 40 0)), (1, .int (jI x)), (2, .int (jI cq))]) hx hb dX9_checked_71 hl (by decide) rfl (fun ls hl => ?_)
          exact lp73 1 _ _ _ (by omega) (by omega) hw hS (lv_sub hl [4, 5, 6, 3, 2, 1, 0] rfl)
        · subst ez75
          refine lv_goto (tgt := 71) hx hb dX9_checked_59 (by decide) ?_
          refine lv_istore (lv' := [(6, .int (jI 0)), (5, .int (jI (X 52 0 cq))), (4, .int (jI (X 51 0 cq))), (3, .int (jI (X 50 0 cq))), (0, .ref (ad 40 0)), (1, .int (jI x)), (2, .int (jI cq))]) hx hb dX9_checked_71 hl (by decide) rfl (fun ls hl => ?_)
          exact lp73 0 _ _ _ (by omega) (by omega) hw hS (lv_sub hl [4, 5, 6, 3, 2, 1, 0] rfl)
  · refine lv_aload_n hx hb dX9_checked_28 rfl (lv_at hl 3 rfl) ?_
    refine lv_iload_n hx hb dX9_checked_29 rfl (lv_at hl 4 rfl) ?_
    refine lv_iload hx hb dX9_checked_30 (lv_at hl 1 rfl) ?_
    refine lv_iconst (v := jI 3) hx hb dX9_checked_32 rfl ?_
    refine lv_iconst (v := jI 5) hx hb dX9_checked_33 rfl ?_
    refine gos_i (run_V (As := [.int (jI x), .int (jI (X 51 0 cq)), .int (jI 3), .int (jI 5)]) (rest := []) hx hb hml hown hts (c_X9_isLane l D tc base ad cnt X Y ln hR hFx x (X 51 0 cq) 3 5 (by omega) (by omega) (by omega) (by omega)) (cwV 4 hts gX9_checked_X9_isLane rfl rfl rfl (by decide +kernel) ⟨Nat.le_of_ble_eq_true rfl, Nat.le_of_ble_eq_true rfl⟩) hK hw (by omega) (by omega) sl_40_0 rfl rfl hl.1 rfl (Nat.le_of_ble_eq_true rfl) dX9_checked_34 ⟨Nat.le_of_ble_eq_true rfl, Nat.le_of_ble_eq_true rfl⟩) hS (fun z78 u79 H locs p80 hw hS => ?_)
    obtain ⟨eu79, p80⟩ := p80
    subst eu79
    rcases p80 with ⟨ez78, p80⟩ | ⟨ez78, p80⟩
    · subst ez78
      refine lv_goto (tgt := 71) hx hb dX9_checked_37 (by decide) ?_
      refine lv_istore (lv' := [(6, .int (jI 1)), (5, .int (jI (X 52 0 cq))), (4, .int (jI (X 51 0 cq))), (3, .int (jI (X 50 0 cq))), (0, .ref (ad 40 0)), (1, .int (jI x)), (2, .int (jI cq))]) hx hb dX9_checked_71 hl (by decide) rfl (fun ls hl => ?_)
      exact lp73 1 _ _ _ (by omega) (by omega) hw hS (lv_sub hl [4, 5, 6, 3, 2, 1, 0] rfl)
    · subst ez78
      refine lv_goto (tgt := 71) hx hb dX9_checked_37 (by decide) ?_
      refine lv_istore (lv' := [(6, .int (jI 0)), (5, .int (jI (X 52 0 cq))), (4, .int (jI (X 51 0 cq))), (3, .int (jI (X 50 0 cq))), (0, .ref (ad 40 0)), (1, .int (jI x)), (2, .int (jI cq))]) hx hb dX9_checked_71 hl (by decide) rfl (fun ls hl => ?_)
      exact lp73 0 _ _ _ (by omega) (by omega) hw hS (lv_sub hl [4, 5, 6, 3, 2, 1, 0] rfl)

set_option maxHeartbeats 4000000 in
set_option maxRecDepth 100000 in
theorem c_X9_judged (l : Launch) (D : va_G) (tc : Nat → ClassId) (base : Nat) (ad : Nat → Int → Nat) (cnt : Nat → Int) (X : Nat → Int → Int → Int) (Y : Nat → Int → Int → Option Int) (ln : Int → Int) (hR : Rng X) (hFx : Fx cnt) (hMI : MInv X) (x : Int) (hx0 : 0 ≤ x ∧ x ≤ 29) (hxt : x < X 40 0 13) : KI l D tc base yX9_judged wsX9_judged ({ frames := 3, cells := 0, slots := 0, locals := 78 } : Room) [.ref (ad 40 0), .int (jI x)] (ad, cnt, X, Y, ln) 0 0 (fun z u => ∃ X1 : Nat → Int → Int → Int, u = (ad, cnt, X1, Y, ln) ∧ Rng X1 ∧ Frm [4029] X X1 ∧ MInv X1 ∧ (0 ≤ z ∧ z ≤ 10)) := by
  refine K_of (cc := cX9_judged) (maxL := 5) (ret := (some .int)) (by decide) rfl (Nat.le_of_ble_eq_true rfl) ?_
  intro p e s m below meth c ls hx hb hr hml hown hts hlocks hl hK hw hS
  have hown : s.vm.findClass RX9 = some m.cls := hown
  have hi9 : ∀ w ∈ wsX90, w ∈ wsX9_judged := fun w h => List.mem_cons_of_mem _ (List.mem_append_right _ h)
  have hf9 : fctx s m _ RX9 wsX9_judged D tc RX9 TX9 51 9 := ⟨hts, hi9, hown, hK.1, rfl⟩
  have lk30 := hts (.fieldLink RX9 30 "StateRecordsModel" "cMany" "[I") (by decide +kernel)
  have lk45 := hts (.fieldLink RX9 45 "StateRecordsModel" "xType" "[I") (by decide +kernel)
  have lk206 := hts (.fieldLink RX9 206 "StateRecordsModel" "checkAt" "I") (by decide +kernel)
  have hc40 : cnt 40 = 1 := hFx.at 40 1 (by decide)
  have hc49 : cnt 49 = 1 := hFx.at 49 1 (by decide)
  have hc55 : cnt 55 = 1 := hFx.at 55 1 (by decide)
  have hl : lv_has ls 5 [(0, .ref (ad 40 0)), (1, .int (jI x))] := hl
  have fstypes : 0 ≤ X 40 0 2 ∧ X 40 0 2 ≤ 8 := hR 40 0 2
  have fsthings : 0 ≤ X 40 0 13 ∧ X 40 0 13 ≤ 30 := hR 40 0 13
  have fsmarks : 0 ≤ X 40 0 20 ∧ X 40 0 20 ≤ 4 := hR 40 0 20
  have fsnotes : 0 ≤ X 40 0 22 ∧ X 40 0 22 ≤ 80 := hR 40 0 22
  refine lv_aload_n hx hb dX9_judged_0 rfl (lv_at hl 0 rfl) ?_
  refine x_geto hx hb hf9 hw (by omega) (by omega) sl_40_14 lk45 dX9_judged_1 ?_
  refine lv_iload_n hx hb dX9_judged_4 rfl (lv_at hl 1 rfl) ?_
  refine x_iald hx hb hK.1 hw (by omega) (by omega) ar_55 (len_E ar_55 (by decide)) (by omega) (by omega) (by omega) dX9_judged_5 ?_
  have f1 : 0 ≤ X 55 0 x ∧ X 55 0 x ≤ 7 := hR 55 0 x
  refine lv_istore_n (lv' := [(2, .int (jI (X 55 0 x))), (0, .ref (ad 40 0)), (1, .int (jI x))]) hx hb dX9_judged_6 rfl hl (by decide) rfl (fun ls hl => ?_)
  refine lv_iconst (v := jI 0) hx hb dX9_judged_7 rfl ?_
  refine lv_istore_n (lv' := [(3, .int (jI 0)), (2, .int (jI (X 55 0 x))), (0, .ref (ad 40 0)), (1, .int (jI x))]) hx hb dX9_judged_8 rfl hl (by decide) rfl (fun ls hl => ?_)
  have lp9 : ∀ (nn : Nat) (cz : Int) (H : Heap) (locs : List Loc) (ls : Array Slot), (4 - cz) < (nn : Int) → (0 ≤ cz ∧ cz ≤ 4) → wd D tc base (ad, cnt, X, Y, ln) H → va_S (frA base) s.heap H locs → lv_has ls 5 [(0, .ref (ad 40 0)), (1, .int (jI x)), (2, .int (jI (X 55 0 x))), (3, .int (jI cz))] → W p l e ({ frames := 3, cells := 0, slots := 0, locals := 78 } : Room) s m ([.ref (ad 40 0), .int (jI x)] : List Value).toArray below meth c H locs 0 0 (MQ below (QI D tc base (fun z u => ∃ X1 : Nat → Int → Int → Int, u = (ad, cnt, X1, Y, ln) ∧ Rng X1 ∧ Frm [4029] X X1 ∧ MInv X1 ∧ (0 ≤ z ∧ z ≤ 10))) ([.ref (ad 40 0), .int (jI x)] : List Value).toArray s 0 0 (frA base)) (F0 m 9 ls []) := by
    intro nn
    induction nn with
    | zero => intro cz H locs ls hm hcz hw hS hl; exfalso; omega
    | succ nn ih9 =>
      intro cz H locs ls hm hcz hw hS hl
      refine lv_iload_n hx hb dX9_judged_9 rfl (lv_at hl 3 rfl) ?_
      refine lv_aload_n hx hb dX9_judged_10 rfl (lv_at hl 0 rfl) ?_
      refine x_geto hx hb hf9 hw (by omega) (by omega) sl_40_8 lk30 dX9_judged_11 ?_
      refine lv_iload_n hx hb dX9_judged_14 rfl (lv_at hl 2 rfl) ?_
      refine x_iald hx hb hK.1 hw (by omega) (by omega) ar_49 (len_E ar_49 (by decide)) (by omega) (by omega) (by omega) dX9_judged_15 ?_
      have f2 : 0 ≤ X 49 0 (X 55 0 x) ∧ X 49 0 (X 55 0 x) ≤ 4 := hR 49 0 (X 55 0 x)
      refine x_icmp_ge (tgt := 50) hx hb (by omega) (by omega) dX9_judged_16 (by decide) (fun c3 => ?_) (fun c3 => ?_)
      · refine lv_iconst (v := jI 0) hx hb dX9_judged_50 rfl ?_
        refine ret_i (mc := 0) (ms := 0) hx hb hr hlocks hw hS (by omega) (by omega) dX9_judged_51 ?_
        exact ⟨X, rfl, hR, Frm.rf, hMI, by omega⟩
      · refine lv_aload_n hx hb dX9_judged_19 rfl (lv_at hl 0 rfl) ?_
        refine lv_iload_n hx hb dX9_judged_20 rfl (lv_at hl 1 rfl) ?_
        refine lv_iconst (v := jI 4) hx hb dX9_judged_21 rfl ?_
        refine lv_iload_n hx hb dX9_judged_22 rfl (lv_at hl 2 rfl) ?_
        refine x_imul hx hb dX9_judged_23 ?_
        refine lv_iload_n hx hb dX9_judged_24 rfl (lv_at hl 3 rfl) ?_
        refine x_iadd hx hb dX9_judged_25 ?_
        refine gos_i (run_V (As := [.int (jI x), .int (jI ((4 * (X 55 0 x)) + cz))]) (rest := []) hx hb hml hown hts (c_X9_checked l D tc base ad cnt X Y ln hR hFx hMI x ((4 * (X 55 0 x)) + cz) (by omega) (by omega) (by omega)) (cwV 2 hts gX9_judged_X9_checked rfl rfl rfl (by decide +kernel) ⟨Nat.le_of_ble_eq_true rfl, Nat.le_of_ble_eq_true rfl⟩) hK hw (by omega) (by omega) sl_40_0 rfl rfl hl.1 rfl (Nat.le_of_ble_eq_true rfl) dX9_judged_26 ⟨Nat.le_of_ble_eq_true rfl, Nat.le_of_ble_eq_true rfl⟩) hS (fun z4 u5 H locs p6 hw hS => ?_)
        obtain ⟨eu5, p6⟩ := p6
        subst eu5
        refine lv_istore (lv' := [(4, .int (jI z4)), (0, .ref (ad 40 0)), (1, .int (jI x)), (2, .int (jI (X 55 0 x))), (3, .int (jI cz))]) hx hb dX9_judged_29 hl (by decide) rfl (fun ls hl => ?_)
        refine lv_iload hx hb dX9_judged_31 (lv_at hl 0 rfl) ?_
        refine x_if_eq (tgt := 44) hx hb (by omega) dX9_judged_33 (by decide) (fun c7 => ?_) (fun c7 => ?_)
        · refine lv_iinc (v := jI (cz + 1)) (lv' := [(3, .int (jI (cz + 1))), (4, .int (jI z4)), (0, .ref (ad 40 0)), (1, .int (jI x)), (2, .int (jI (X 55 0 x)))]) hx hb dX9_judged_44 hl (k := 4) rfl (jI_add _ _) (by decide) rfl (fun ls hl => ?_)
          refine lv_goto (tgt := 9) hx hb dX9_judged_47 (by decide) ?_
          exact ih9 (cz + 1) _ _ _ (by omega) (by omega) hw hS (lv_sub hl [2, 3, 4, 0] rfl)
        · refine lv_aload_n hx hb dX9_judged_36 rfl (lv_at hl 1 rfl) ?_
          refine lv_iload_n hx hb dX9_judged_37 rfl (lv_at hl 4 rfl) ?_
          refine x_puti (jz := 28) hx hb hf9 ⟨tyX9_ok, nmX9⟩ hw hS (by omega) (by omega) sl_40_28 rfl lk206 rfl (tyX9_ok 28 (by decide)) rfl rfl dX9_judged_38 (fun H locs hw hS => ?_)
          obtain ⟨X8, hX8⟩ : ∃ Xq, Xq = u3 X 40 0 28 cz := ⟨_, rfl⟩
          rw [← hX8] at hw
          have hRX8 : Rng X8 := by rw [hX8]; exact rng_set hR (show 0 ≤ cz ∧ cz ≤ 3 by omega)
          have hVX8 : X8 40 0 28 = cz := by rw [hX8]; exact u3_s _ _ _ _ _
          have hFX8 : Frm [4029] X X8 := by rw [hX8]; exact Frm.set Frm.rf (show 4029 ∈ [4029] by decide)
          refine lv_iload hx hb dX9_judged_41 (lv_at hl 0 rfl) ?_
          refine ret_i (mc := 0) (ms := 0) hx hb hr hlocks hw hS (by omega) (by omega) dX9_judged_43 ?_
          have q10 : Frm [4029] X X8 := by rw [hX8]; exact Frm.set Frm.rf (show 4029 ∈ [4029] by decide)
          have hMq9 : MInv X8 := minv_frm hMI q10 (by decide)
          exact ⟨X8, rfl, hRX8, hFX8, hMq9, by omega⟩
  exact lp9 (4 - 0 : Int).toNat.succ 0 _ _ _ (by omega) (by omega) hw hS (lv_sub hl [2, 3, 1, 0] rfl)

set_option maxHeartbeats 4000000 in
set_option maxRecDepth 100000 in
theorem c_X9_judge (l : Launch) (D : va_G) (tc : Nat → ClassId) (base : Nat) (ad : Nat → Int → Nat) (cnt : Nat → Int) (X : Nat → Int → Int → Int) (Y : Nat → Int → Int → Option Int) (ln : Int → Int) (hR : Rng X) (hFx : Fx cnt) (hMI : MInv X) (x : Int) (hx : -2147483648 ≤ x ∧ x ≤ 2147483647) : KI l D tc base yX9_judge wsX9_judge ({ frames := 4, cells := 0, slots := 0, locals := 102 } : Room) [.ref (ad 40 0), .int (jI x)] (ad, cnt, X, Y, ln) 0 0 (fun z u => ∃ X1 : Nat → Int → Int → Int, u = (ad, cnt, X1, Y, ln) ∧ Rng X1 ∧ Frm [4001, 4029] X X1 ∧ MInv X1 ∧ (-2147483648 ≤ z ∧ z ≤ 2147483647)) := by
  refine K_of (cc := cX9_judge) (maxL := 3) (ret := (some .int)) (by decide) rfl (Nat.le_of_ble_eq_true rfl) ?_
  intro p e s m below meth c ls hx hb hr hml hown hts hlocks hl hK hw hS
  have hown : s.vm.findClass RX9 = some m.cls := hown
  have hi9 : ∀ w ∈ wsX90, w ∈ wsX9_judge := fun w h => List.mem_cons_of_mem _ (List.mem_append_right _ h)
  have hf9 : fctx s m _ RX9 wsX9_judge D tc RX9 TX9 51 9 := ⟨hts, hi9, hown, hK.1, rfl⟩
  have lk145 := hts (.fieldLink RX9 145 "StateRecordsModel" "code" "I") (by decide +kernel)
  have hc40 : cnt 40 = 1 := hFx.at 40 1 (by decide)
  have hl : lv_has ls 3 [(0, .ref (ad 40 0)), (1, .int (jI x))] := hl
  have fstypes : 0 ≤ X 40 0 2 ∧ X 40 0 2 ≤ 8 := hR 40 0 2
  have fsthings : 0 ≤ X 40 0 13 ∧ X 40 0 13 ≤ 30 := hR 40 0 13
  have fsmarks : 0 ≤ X 40 0 20 ∧ X 40 0 20 ≤ 4 := hR 40 0 20
  have fsnotes : 0 ≤ X 40 0 22 ∧ X 40 0 22 ≤ 80 := hR 40 0 22
  refine lv_aload_n hx hb dX9_judge_0 rfl (lv_at hl 0 rfl) ?_
  refine lv_iconst (v := jI 0) hx hb dX9_judge_1 rfl ?_
  refine x_puti (jz := 0) hx hb hf9 ⟨tyX9_ok, nmX9⟩ hw hS (by omega) (by omega) sl_40_0 rfl lk145 rfl (tyX9_ok 0 (by decide)) rfl rfl dX9_judge_2 (fun H locs hw hS => ?_)
  obtain ⟨X1, hX1⟩ : ∃ Xq, Xq = u3 X 40 0 0 0 := ⟨_, rfl⟩
  rw [← hX1] at hw
  have hRX1 : Rng X1 := by rw [hX1]; exact rng_set hR (show (-2147483648) ≤ 0 ∧ 0 ≤ 2147483647 by omega)
  have hVX1 : X1 40 0 0 = 0 := by rw [hX1]; exact u3_s _ _ _ _ _
  have hFX1 : Frm [4001, 4029] X X1 := by rw [hX1]; exact Frm.set Frm.rf (show 4001 ∈ [4001, 4029] by decide)
  refine lv_aload_n hx hb dX9_judge_5 rfl (lv_at hl 0 rfl) ?_
  refine lv_iload_n hx hb dX9_judge_6 rfl (lv_at hl 1 rfl) ?_
  refine gos_i (run_V (As := [.int (jI x)]) (rest := []) hx hb hml hown hts (c_X9_isThing l D tc base ad cnt X1 Y ln hRX1 hFx x (by omega)) (cwV 1 hts gX9_judge_X9_isThing rfl rfl rfl (by decide +kernel) ⟨Nat.le_of_ble_eq_true rfl, Nat.le_of_ble_eq_true rfl⟩) hK hw (by omega) (by omega) sl_40_0 rfl rfl hl.1 rfl (Nat.le_of_ble_eq_true rfl) dX9_judge_7 ⟨Nat.le_of_ble_eq_true rfl, Nat.le_of_ble_eq_true rfl⟩) hS (fun z2 u3 H locs p4 hw hS => ?_)
  obtain ⟨eu3, p4⟩ := p4
  subst eu3
  have e5 : X1 40 0 13 = X 40 0 13 := by rw [hX1, u3_j _ _ _ _ (by decide)]
  simp only [e5] at p4
  rcases p4 with ⟨ez2, p4⟩ | ⟨ez2, p4⟩
  · subst ez2
    refine x_if_neT (tgt := 15) hx hb (by omega) (by decide) dX9_judge_10 (by decide) ?_
    refine lv_aload_n hx hb dX9_judge_15 rfl (lv_at hl 0 rfl) ?_
    refine lv_iload_n hx hb dX9_judge_16 rfl (lv_at hl 1 rfl) ?_
    have q7 : Frm [4001] X X1 := by rw [hX1]; exact Frm.set Frm.rf (show 4001 ∈ [4001] by decide)
    have hMq6 : MInv X1 := minv_frm hMI q7 (by decide)
    have e8 : X1 40 0 13 = X 40 0 13 := by rw [hX1, u3_j _ _ _ _ (by decide)]
    refine gos_i (run_V (As := [.int (jI x)]) (rest := []) hx hb hml hown hts (c_X9_judged l D tc base ad cnt X1 Y ln hRX1 hFx hMq6 x (by omega) (by simp only [e8]; omega)) (cwV 1 hts gX9_judge_X9_judged rfl rfl rfl (by decide +kernel) ⟨Nat.le_of_ble_eq_true rfl, Nat.le_of_ble_eq_true rfl⟩) hK hw (by omega) (by omega) sl_40_0 rfl rfl hl.1 rfl (Nat.le_of_ble_eq_true rfl) dX9_judge_17 ⟨Nat.le_of_ble_eq_true rfl, Nat.le_of_ble_eq_true rfl⟩) hS (fun z9 u10 H locs p11 hw hS => ?_)
    obtain ⟨X12, eu10, hRX12, hG13, hMIX12, p11⟩ := p11
    subst eu10
    have hFX12 : Frm [4001, 4029] X X12 := Frm.tr hFX1 (Frm.mono hG13 (by decide))
    refine lv_istore_n (lv' := [(2, .int (jI z9)), (0, .ref (ad 40 0)), (1, .int (jI x))]) hx hb dX9_judge_20 rfl hl (by decide) rfl (fun ls hl => ?_)
    refine lv_iload_n hx hb dX9_judge_21 rfl (lv_at hl 0 rfl) ?_
    refine x_if_ne (tgt := 29) hx hb (by omega) dX9_judge_22 (by decide) (fun c14 => ?_) (fun c14 => ?_)
    · refine lv_bipush (v := jI (-10)) hx hb dX9_judge_29 (by decide) ?_
      refine lv_iload_n hx hb dX9_judge_31 rfl (lv_at hl 0 rfl) ?_
      refine x_isub hx hb dX9_judge_32 ?_
      refine ret_i (mc := 0) (ms := 0) hx hb hr hlocks hw hS (by omega) (by omega) dX9_judge_33 ?_
      exact ⟨X12, rfl, hRX12, hFX12, hMIX12, by omega⟩
    · refine lv_iconst (v := jI 1) hx hb dX9_judge_25 rfl ?_
      refine lv_goto (tgt := 33) hx hb dX9_judge_26 (by decide) ?_
      refine ret_i (mc := 0) (ms := 0) hx hb hr hlocks hw hS (by omega) (by omega) dX9_judge_33 ?_
      exact ⟨X12, rfl, hRX12, hFX12, hMIX12, by omega⟩
  · subst ez2
    refine x_if_neF (tgt := 15) hx hb (by omega) (by decide) dX9_judge_10 (by decide) ?_
    refine lv_iconst (v := jI (-1)) hx hb dX9_judge_13 rfl ?_
    refine ret_i (mc := 0) (ms := 0) hx hb hr hlocks hw hS (by omega) (by omega) dX9_judge_14 ?_
    have q16 : Frm [4001] X X1 := by rw [hX1]; exact Frm.set Frm.rf (show 4001 ∈ [4001] by decide)
    have hMq15 : MInv X1 := minv_frm hMI q16 (by decide)
    exact ⟨X1, rfl, hRX1, hFX1, hMq15, by omega⟩

