set_option maxHeartbeats 4000000 in
set_option maxRecDepth 100000 in
theorem c_X9_newRow (l : Launch) (D : va_G) (tc : Nat → ClassId) (base : Nat) (ad : Nat → Int → Nat) (cnt : Nat → Int) (X : Nat → Int → Int → Int) (Y : Nat → Int → Int → Option Int) (ln : Int → Int) (hR : Rng X) (hFx : Fx cnt) (hMI : MInv X) (lane n : Int) (hlane : 0 ≤ lane ∧ lane ≤ 5) (hn : 0 ≤ n ∧ n ≤ 12) : KI l D tc base yX9_newRow wsX9_newRow ({ frames := 1, cells := 0, slots := 0, locals := 22 } : Room) [.ref (ad 40 0), .int (jI lane), .int (jI n)] (ad, cnt, X, Y, ln) 0 0 (fun z u => ∃ X1 : Nat → Int → Int → Int, u = (ad, cnt, X1, Y, ln) ∧ Rng X1 ∧ Frm [6000, 5700, 5800, 5900] X X1 ∧ MInv X1 ∧ (0 ≤ z ∧ z ≤ 399) ∧ nwM X X1 lane n z) := by
  refine K_of (cc := cX9_newRow) (maxL := 5) (ret := (some .int)) (by decide) rfl (Nat.le_of_ble_eq_true rfl) ?_
  intro p e s m below meth c ls hx hb hr hml hown hts hlocks hl hK hw hS
  have hown : s.vm.findClass RX9 = some m.cls := hown
  obtain ⟨av9, hav9⟩ : ∃ a9 : Array Value, a9 = ([.ref (ad 40 0), .int (jI lane), .int (jI n)] : List Value).toArray := ⟨_, rfl⟩
  rw [← hav9] at hts ⊢
  obtain ⟨Q9, hQ9⟩ : ∃ q9Q : State → Prop, q9Q = MQ below (QI D tc base (fun z u => ∃ X1 : Nat → Int → Int → Int, u = (ad, cnt, X1, Y, ln) ∧ Rng X1 ∧ Frm [6000, 5700, 5800, 5900] X X1 ∧ MInv X1 ∧ (0 ≤ z ∧ z ≤ 399) ∧ nwM X X1 lane n z)) av9 s 0 0 (frA base) := ⟨_, rfl⟩
  rw [← hQ9]
  have hi9 : ∀ w ∈ wsX90, w ∈ wsX9_newRow := fun w h => List.mem_cons_of_mem _ (List.mem_append_right _ h)
  have hf9 : fctx s m _ RX9 wsX9_newRow D tc RX9 TX9 51 9 := ⟨hts, hi9, hown, hK.1, rfl⟩
  have lk13 := hts (.fieldLink RX9 13 (TX9 3).1 (TX9 3).2.1 (TX9 3).2.2.1) (gj_X9_newRow_0 _ (gp_1 (gp_1 gp_h)))
  have lk45 := hts (.fieldLink RX9 45 (TX9 14).1 (TX9 14).2.1 (TX9 14).2.2.1) (gj_X9_newRow_0 _ (gp_1 (gp_1 (gp_1 gp_h))))
  have lk48 := hts (.fieldLink RX9 48 (TX9 15).1 (TX9 15).2.1 (TX9 15).2.2.1) (gj_X9_newRow_0 _ (gp_4 gp_h))
  have lk51 := hts (.fieldLink RX9 51 (TX9 16).1 (TX9 16).2.1 (TX9 16).2.2.1) (gj_X9_newRow_0 _ (gp_4 (gp_1 (gp_1 (gp_1 gp_h)))))
  have lk54 := hts (.fieldLink RX9 54 (TX9 17).1 (TX9 17).2.1 (TX9 17).2.2.1) (gj_X9_newRow_0 _ (gp_4 (gp_4 gp_h)))
  have lk57 := hts (.fieldLink RX9 57 (TX9 18).1 (TX9 18).2.1 (TX9 18).2.2.1) (gj_X9_newRow_0 _ (gp_4 (gp_4 (gp_1 gp_h))))
  have lk60 := hts (.fieldLink RX9 60 (TX9 19).1 (TX9 19).2.1 (TX9 19).2.2.1) (gj_X9_newRow_0 _ (gp_h))
  have lk72 := hts (.fieldLink RX9 72 (TX9 25).1 (TX9 25).2.1 (TX9 25).2.2.1) (gj_X9_newRow_0 _ (gp_4 (gp_1 (gp_1 gp_h))))
  have lk151 := hts (.fieldLink RX9 151 (TX9 13).1 (TX9 13).2.1 (TX9 13).2.2.1) (gj_X9_newRow_0 _ (gp_1 gp_h))
  have lk173 := hts (.fieldLink RX9 173 (TX9 22).1 (TX9 22).2.1 (TX9 22).2.2.1) (gj_X9_newRow_0 _ (gp_4 (gp_1 gp_h)))
  have hc40 : cnt 40 = 1 := hFx.at 40 1 (by decide)
  have hc44 : cnt 44 = 1 := hFx.at 44 1 (by decide)
  have hc55 : cnt 55 = 1 := hFx.at 55 1 (by decide)
  have hc56 : cnt 56 = 1 := hFx.at 56 1 (by decide)
  have hc57 : cnt 57 = 1 := hFx.at 57 1 (by decide)
  have hc58 : cnt 58 = 1 := hFx.at 58 1 (by decide)
  have hc59 : cnt 59 = 1 := hFx.at 59 1 (by decide)
  have hc60 : cnt 60 = 1 := hFx.at 60 1 (by decide)
  have hc66 : cnt 66 = 1 := hFx.at 66 1 (by decide)
  have hl : lv_has ls 5 [(0, .ref (ad 40 0)), (1, .int (jI lane)), (2, .int (jI n))] := hl
  have fstypes : 0 ≤ X 40 0 2 ∧ X 40 0 2 ≤ 8 := hR 40 0 2
  have fsthings : 0 ≤ X 40 0 13 ∧ X 40 0 13 ≤ 30 := hR 40 0 13
  have fsmarks : 0 ≤ X 40 0 20 ∧ X 40 0 20 ≤ 4 := hR 40 0 20
  have fsnotes : 0 ≤ X 40 0 22 ∧ X 40 0 22 ≤ 80 := hR 40 0 22
  refine lv_iconst (v := jI 0) hx hb dX9_newRow_0 rfl ?_
  refine lv_istore_n (lv' := [(3, .int (jI 0)), (0, .ref (ad 40 0)), (1, .int (jI lane)), (2, .int (jI n))]) hx hb dX9_newRow_1 rfl hl (by decide) rfl (fun ls hl => ?_)
  have lp2 : ∀ (nn : Nat) (k : Int) (Xa : Nat → Int → Int → Int) (H : Heap) (locs : List Loc) (ls : Array Slot), (400 - k) < (nn : Int) → (Rng Xa) → (Frm [6000] X Xa) → (0 ≤ k ∧ k ≤ 400) → (∀ j, 0 ≤ j → j < k → Xa 60 0 j = 0) → wd D tc base (ad, cnt, Xa, Y, ln) H → va_S (frA base) s.heap H locs → lv_has ls 5 [(0, .ref (ad 40 0)), (1, .int (jI lane)), (2, .int (jI n)), (3, .int (jI k))] → W p l e ({ frames := 1, cells := 0, slots := 0, locals := 22 } : Room) s m av9 below meth c H locs 0 0 Q9 (F0 m 2 ls []) := by
    intro nn
    induction nn with
    | zero => intro k Xa H locs ls hm hRXa hGXa hk hz hw hS hl; exfalso; omega
    | succ nn ih2 =>
      intro k Xa H locs ls hm hRXa hGXa hk hz hw hS hl
      have hFXa : Frm [6000, 5700, 5800, 5900] X Xa := Frm.tr Frm.rf (Frm.mono hGXa (by first | exact nls_of rfl | decide))
      refine lv_iload_n hx hb dX9_newRow_2 rfl (lv_at hl 3 rfl) ?_
      refine lv_sipush (v := jI 400) hx hb dX9_newRow_3 (by decide) ?_
      refine x_icmp_ge (tgt := 22) hx hb (by omega) (by omega) dX9_newRow_6 (by decide) (fun c1 => ?_) (fun c1 => ?_)
      · refine lv_iconst (v := jI 0) hx hb dX9_newRow_22 rfl ?_
        refine lv_istore_n (lv' := [(3, .int (jI 0)), (0, .ref (ad 40 0)), (1, .int (jI lane)), (2, .int (jI n))]) hx hb dX9_newRow_23 rfl hl (by decide) rfl (fun ls hl => ?_)
        have lp24 : ∀ (nn : Nat) (x : Int) (Xb : Nat → Int → Int → Int) (H : Heap) (locs : List Loc) (ls : Array Slot), (30 - x) < (nn : Int) → (Rng Xb) → (Frm [6000] Xa Xb) → (0 ≤ x ∧ x ≤ 30) → (Ucov Xb (5 * x)) → (∀ y j, 0 ≤ y → y < x → 0 ≤ j → j < X 44 0 (X 55 0 y) → 3 ≤ X 46 0 (5 * X 55 0 y + j) → 0 ≤ X 56 0 (5 * y + j) → Xb 60 0 (X 56 0 (5 * y + j)) = 1) → wd D tc base (ad, cnt, Xb, Y, ln) H → va_S (frA base) s.heap H locs → lv_has ls 5 [(0, .ref (ad 40 0)), (1, .int (jI lane)), (2, .int (jI n)), (3, .int (jI x))] → W p l e ({ frames := 1, cells := 0, slots := 0, locals := 22 } : Room) s m av9 below meth c H locs 0 0 Q9 (F0 m 24 ls []) := by
          intro nn
          induction nn with
          | zero => intro x Xb H locs ls hm hRXb hGXb hx3 hU hPb hw hS hl; exfalso; omega
          | succ nn ih24 =>
            intro x Xb H locs ls hm hRXb hGXb hx3 hU hPb hw hS hl
            have hFXb : Frm [6000, 5700, 5800, 5900] X Xb := Frm.tr hFXa (Frm.mono hGXb (by first | exact nls_of rfl | decide))
            refine lv_iload_n hx hb dX9_newRow_24 rfl (lv_at hl 3 rfl) ?_
            refine lv_aload_n hx hb dX9_newRow_25 rfl (lv_at hl 0 rfl) ?_
            refine x_geti (jz := 13) hx hb hf9 hw (by first | exact Int.le_refl 0 | omega) (by first | exact zlt hc40 | omega) sl_40_13 rfl lk151 dX9_newRow_26 ?_
            have e2 : Xb 40 0 13 = X 40 0 13 := by rw [hGXb 40 0 13 (show 4014 ∉ [6000] by first | exact nlm_ni rfl | decide), hGXa 40 0 13 (show 4014 ∉ [6000] by first | exact nlm_ni rfl | decide)]
            rw [e2]
            have f3 : 0 ≤ X 40 0 13 ∧ X 40 0 13 ≤ 30 := hR 40 0 13
            refine x_icmp_ge (tgt := 108) hx hb (by omega) (by omega) dX9_newRow_29 (by decide) (fun c4 => ?_) (fun c4 => ?_)
            · refine lv_iconst (v := jI 0) hx hb dX9_newRow_108 rfl ?_
              refine lv_istore_n (lv' := [(3, .int (jI 0)), (0, .ref (ad 40 0)), (1, .int (jI lane)), (2, .int (jI n))]) hx hb dX9_newRow_109 rfl hl (by decide) rfl (fun ls hl => ?_)
              have lp110 : ∀ (nn : Nat) (k : Int) (Xd : Nat → Int → Int → Int) (H : Heap) (locs : List Loc) (ls : Array Slot), (80 - k) < (nn : Int) → (Rng Xd) → (Frm [6000] Xb Xd) → (0 ≤ k ∧ k ≤ 80) → (Ucov Xd (150 + k)) → (∀ y j, 0 ≤ y → y < X 40 0 13 → 0 ≤ j → j < X 44 0 (X 55 0 y) → 3 ≤ X 46 0 (5 * X 55 0 y + j) → 0 ≤ X 56 0 (5 * y + j) → Xd 60 0 (X 56 0 (5 * y + j)) = 1) → (∀ m, 0 ≤ m → m < k → 0 ≤ X 66 0 m → Xd 60 0 (X 66 0 m) = 1) → wd D tc base (ad, cnt, Xd, Y, ln) H → va_S (frA base) s.heap H locs → lv_has ls 5 [(0, .ref (ad 40 0)), (1, .int (jI lane)), (2, .int (jI n)), (3, .int (jI k))] → W p l e ({ frames := 1, cells := 0, slots := 0, locals := 22 } : Room) s m av9 below meth c H locs 0 0 Q9 (F0 m 110 ls []) := by
                intro nn
                induction nn with
                | zero => intro k Xd H locs ls hm hRXd hGXd hk hU hPd hNd hw hS hl; exfalso; omega
                | succ nn ih110 =>
                  intro k Xd H locs ls hm hRXd hGXd hk hU hPd hNd hw hS hl
                  have hFXd : Frm [6000, 5700, 5800, 5900] X Xd := Frm.tr hFXb (Frm.mono hGXd (by first | exact nls_of rfl | decide))
                  refine lv_iload_n hx hb dX9_newRow_110 rfl (lv_at hl 3 rfl) ?_
                  refine lv_aload_n hx hb dX9_newRow_111 rfl (lv_at hl 0 rfl) ?_
                  refine x_geti (jz := 22) hx hb hf9 hw (by first | exact Int.le_refl 0 | omega) (by first | exact zlt hc40 | omega) sl_40_22 rfl lk173 dX9_newRow_112 ?_
                  have e5 : Xd 40 0 22 = X 40 0 22 := by rw [hGXd 40 0 22 (show 4023 ∉ [6000] by first | exact nlm_ni rfl | decide), hGXb 40 0 22 (show 4023 ∉ [6000] by first | exact nlm_ni rfl | decide), hGXa 40 0 22 (show 4023 ∉ [6000] by first | exact nlm_ni rfl | decide)]
                  rw [e5]
                  have f6 : 0 ≤ X 40 0 22 ∧ X 40 0 22 ≤ 80 := hR 40 0 22
                  refine x_icmp_ge (tgt := 145) hx hb (by omega) (by omega) dX9_newRow_115 (by decide) (fun c7 => ?_) (fun c7 => ?_)
                  · refine lv_iconst (v := jI 0) hx hb dX9_newRow_145 rfl ?_
                    refine lv_istore_n (lv' := [(3, .int (jI 0)), (0, .ref (ad 40 0)), (1, .int (jI lane)), (2, .int (jI n))]) hx hb dX9_newRow_146 rfl hl (by decide) rfl (fun ls hl => ?_)
                    have lp147 : ∀ (nn : Nat) (r : Int) (H : Heap) (locs : List Loc) (ls : Array Slot), (230 - r) < (nn : Int) → (0 ≤ r ∧ r ≤ 230) → (∀ j, 0 ≤ j → j < r → Xd 60 0 j = 1) → wd D tc base (ad, cnt, Xd, Y, ln) H → va_S (frA base) s.heap H locs → lv_has ls 5 [(0, .ref (ad 40 0)), (1, .int (jI lane)), (2, .int (jI n)), (3, .int (jI r))] → W p l e ({ frames := 1, cells := 0, slots := 0, locals := 22 } : Room) s m av9 below meth c H locs 0 0 Q9 (F0 m 147 ls []) := by
                      intro nn
                      induction nn with
                      | zero => intro r H locs ls hm hr0 hu hw hS hl; exfalso; omega
                      | succ nn ih147 =>
                        intro r H locs ls hm hr0 hu hw hS hl
                        refine lv_aload_n hx hb dX9_newRow_147 rfl (lv_at hl 0 rfl) ?_
                        refine x_geto hx hb hf9 hw (by first | exact Int.le_refl 0 | omega) (by first | exact zlt hc40 | omega) sl_40_19 lk60 dX9_newRow_148 ?_
                        refine lv_iload_n hx hb dX9_newRow_151 rfl (lv_at hl 3 rfl) ?_
                        refine x_zald hx hb hK.1 hw (by first | exact Int.le_refl 0 | omega) (by first | exact zlt hc60 | omega) ar_60 (len_E ar_60 (by first | exact Nat.ne_of_beq_eq_false rfl | decide)) (by omega) (by omega) (by omega) dX9_newRow_152 ?_
                        have f8 : 0 ≤ Xd 60 0 r ∧ Xd 60 0 r ≤ 1 := hRXd 60 0 r
                        refine x_if_eq (tgt := 162) hx hb (by omega) dX9_newRow_153 (by decide) (fun c9 => ?_) (fun c9 => ?_)
                        · refine lv_aload_n hx hb dX9_newRow_162 rfl (lv_at hl 0 rfl) ?_
                          refine x_geto hx hb hf9 hw (by first | exact Int.le_refl 0 | omega) (by first | exact zlt hc40 | omega) sl_40_16 lk51 dX9_newRow_163 ?_
                          refine lv_iload_n hx hb dX9_newRow_166 rfl (lv_at hl 3 rfl) ?_
                          refine lv_iload_n hx hb dX9_newRow_167 rfl (lv_at hl 1 rfl) ?_
                          refine x_iast hx hb hK.1 hw hS (by first | exact Int.le_refl 0 | omega) (by first | exact zlt hc57 | omega) ar_57 (len_E ar_57 (by first | exact Nat.ne_of_beq_eq_false rfl | decide)) (by omega) (by omega) (by omega) dX9_newRow_168 (fun H locs hw hS => ?_)
                          obtain ⟨X10, hX10⟩ : ∃ Xq, Xq = u3 Xd 57 0 r lane := ⟨_, rfl⟩
                          rw [← hX10] at hw
                          have hRX10 : Rng X10 := by rw [hX10]; exact rng_set hRXd (show 0 ≤ lane ∧ lane ≤ 5 by omega)
                          have hVX10 : X10 57 0 r = lane := by rw [hX10]; exact u3_s _ _ _ _ _
                          have hFX10 : Frm [6000, 5700, 5800, 5900] X X10 := by rw [hX10]; exact Frm.set hFXd (show 5700 ∈ [6000, 5700, 5800, 5900] by first | exact nlm_in rfl | decide)
                          refine lv_aload_n hx hb dX9_newRow_169 rfl (lv_at hl 0 rfl) ?_
                          refine x_geto hx hb hf9 hw (by first | exact Int.le_refl 0 | omega) (by first | exact zlt hc40 | omega) sl_40_17 lk54 dX9_newRow_170 ?_
                          refine lv_iload_n hx hb dX9_newRow_173 rfl (lv_at hl 3 rfl) ?_
                          refine lv_iload_n hx hb dX9_newRow_174 rfl (lv_at hl 2 rfl) ?_
                          refine x_iast hx hb hK.1 hw hS (by first | exact Int.le_refl 0 | omega) (by first | exact zlt hc58 | omega) ar_58 (len_E ar_58 (by first | exact Nat.ne_of_beq_eq_false rfl | decide)) (by omega) (by omega) (by omega) dX9_newRow_175 (fun H locs hw hS => ?_)
                          obtain ⟨X11, hX11⟩ : ∃ Xq, Xq = u3 X10 58 0 r n := ⟨_, rfl⟩
                          rw [← hX11] at hw
                          have hRX11 : Rng X11 := by rw [hX11]; exact rng_set hRX10 (show 0 ≤ n ∧ n ≤ 12 by omega)
                          have hVX11 : X11 58 0 r = n := by rw [hX11]; exact u3_s _ _ _ _ _
                          have hFX11 : Frm [6000, 5700, 5800, 5900] X X11 := by rw [hX11]; exact Frm.set hFX10 (show 5800 ∈ [6000, 5700, 5800, 5900] by first | exact nlm_in rfl | decide)
                          refine lv_iconst (v := jI 0) hx hb dX9_newRow_176 rfl ?_
                          refine lv_istore (lv' := [(4, .int (jI 0)), (0, .ref (ad 40 0)), (1, .int (jI lane)), (2, .int (jI n)), (3, .int (jI r))]) hx hb dX9_newRow_177 hl (by decide) rfl (fun ls hl => ?_)
                          have lp179 : ∀ (nn : Nat) (k : Int) (Xe : Nat → Int → Int → Int) (H : Heap) (locs : List Loc) (ls : Array Slot), (12 - k) < (nn : Int) → (Rng Xe) → (Frm [5900] X11 Xe) → (0 ≤ k ∧ k ≤ 12) → (∀ j, 0 ≤ j → j < k → Xe 59 0 (12 * r + j) = 0) → (∀ p, ¬ (12 * r ≤ p ∧ p < 12 * r + 12) → Xe 59 0 p = X 59 0 p) → wd D tc base (ad, cnt, Xe, Y, ln) H → va_S (frA base) s.heap H locs → lv_has ls 5 [(0, .ref (ad 40 0)), (1, .int (jI lane)), (2, .int (jI n)), (3, .int (jI r)), (4, .int (jI k))] → W p l e ({ frames := 1, cells := 0, slots := 0, locals := 22 } : Room) s m av9 below meth c H locs 0 0 Q9 (F0 m 179 ls []) := by
                            intro nn
                            induction nn with
                            | zero => intro k Xe H locs ls hm hRXe hGXe hk hi12 hio hw hS hl; exfalso; omega
                            | succ nn ih179 =>
                              intro k Xe H locs ls hm hRXe hGXe hk hi12 hio hw hS hl
                              have hFXe : Frm [6000, 5700, 5800, 5900] X Xe := Frm.tr hFX11 (Frm.mono hGXe (by first | exact nls_of rfl | decide))
                              refine lv_iload hx hb dX9_newRow_179 (lv_at hl 4 rfl) ?_
                              refine lv_bipush (v := jI 12) hx hb dX9_newRow_181 (by decide) ?_
                              refine x_icmp_ge (tgt := 205) hx hb (by omega) (by omega) dX9_newRow_183 (by decide) (fun c12 => ?_) (fun c12 => ?_)
                              · refine lv_iload_n hx hb dX9_newRow_205 rfl (lv_at hl 3 rfl) ?_
                                rw [hQ9]
                                refine ret_i (mc := 0) (ms := 0) hx hb hr hlocks hw hS (by first | exact Nat.le_of_ble_eq_true rfl | omega) (by first | exact Nat.le_of_ble_eq_true rfl | omega) dX9_newRow_206 ?_
                                have q14 : Frm [5700, 5800, 5900, 6000] X Xa := Frm.tr Frm.rf (Frm.mono hGXa (by first | exact nls_of rfl | decide))
                                have q15 : Frm [5700, 5800, 5900, 6000] X Xb := Frm.tr q14 (Frm.mono hGXb (by first | exact nls_of rfl | decide))
                                have q16 : Frm [5700, 5800, 5900, 6000] X Xd := Frm.tr q15 (Frm.mono hGXd (by first | exact nls_of rfl | decide))
                                have q17 : Frm [5700, 5800, 5900, 6000] X X10 := by rw [hX10]; exact Frm.set q16 (show 5700 ∈ [5700, 5800, 5900, 6000] by first | exact nlm_in rfl | decide)
                                have q18 : Frm [5700, 5800, 5900, 6000] X X11 := by rw [hX11]; exact Frm.set q17 (show 5800 ∈ [5700, 5800, 5900, 6000] by first | exact nlm_in rfl | decide)
                                have q19 : Frm [5700, 5800, 5900, 6000] X Xe := Frm.tr q18 (Frm.mono hGXe (by first | exact nls_of rfl | decide))
                                have hMq13 : MInv Xe := minv_frm hMI q19 (by decide)
                                refine ⟨Xe, rfl, hRXe, hFXe, hMq13, ?g9p259, ?g9p260⟩
                                case g9p259 => omega
                                case g9p260 => exact ⟨fun y j a b c d l q => (by have h9 := hPd y j a (by omega) c d l (by omega); rw [q] at h9; omega), fun m a b q => (by have h9 := hNd m a (by omega) (by omega); rw [q] at h9; omega), (by rw [hGXe 57 0 r (show 5700 ∉ [5900] by first | exact nlm_ni rfl | decide), hX11, u3_k _ _ _ _ (by first | exact Nat.ne_of_beq_eq_false rfl | decide)]; exact hVX10), (by rw [hGXe 58 0 r (show 5800 ∉ [5900] by first | exact nlm_ni rfl | decide)]; exact hVX11), fun y hy => ⟨(by rw [hGXe 57 0 y (show 5700 ∉ [5900] by first | exact nlm_ni rfl | decide), hX11, u3_k _ _ _ _ (by first | exact Nat.ne_of_beq_eq_false rfl | decide), hX10, u3_j _ _ _ _ hy, hGXd 57 0 y (show 5700 ∉ [6000] by first | exact nlm_ni rfl | decide), hGXb 57 0 y (show 5700 ∉ [6000] by first | exact nlm_ni rfl | decide), hGXa 57 0 y (show 5700 ∉ [6000] by first | exact nlm_ni rfl | decide)]), (by rw [hGXe 58 0 y (show 5800 ∉ [5900] by first | exact nlm_ni rfl | decide), hX11, u3_j _ _ _ _ hy, hX10, u3_k _ _ _ _ (by first | exact Nat.ne_of_beq_eq_false rfl | decide), hGXd 58 0 y (show 5800 ∉ [6000] by first | exact nlm_ni rfl | decide), hGXb 58 0 y (show 5800 ∉ [6000] by first | exact nlm_ni rfl | decide), hGXa 58 0 y (show 5800 ∉ [6000] by first | exact nlm_ni rfl | decide)])⟩, fun j a b => hi12 j a (by omega), fun p hp9 => hio p hp9⟩
                              · refine lv_aload_n hx hb dX9_newRow_186 rfl (lv_at hl 0 rfl) ?_
                                refine x_geto hx hb hf9 hw (by first | exact Int.le_refl 0 | omega) (by first | exact zlt hc40 | omega) sl_40_18 lk57 dX9_newRow_187 ?_
                                refine lv_bipush (v := jI 12) hx hb dX9_newRow_190 (by decide) ?_
                                refine lv_iload_n hx hb dX9_newRow_192 rfl (lv_at hl 3 rfl) ?_
                                refine x_imul hx hb dX9_newRow_193 ?_
                                refine lv_iload hx hb dX9_newRow_194 (lv_at hl 4 rfl) ?_
                                refine x_iadd hx hb dX9_newRow_196 ?_
                                refine lv_lconst (v := jL 0) hx hb dX9_newRow_197 (by decide) ?_
                                refine x_last hx hb hK.1 hw hS (by first | exact Int.le_refl 0 | omega) (by first | exact zlt hc59 | omega) ar_59 (len_E ar_59 (by first | exact Nat.ne_of_beq_eq_false rfl | decide)) (by omega) (by omega) (by omega) dX9_newRow_198 (fun H locs hw hS => ?_)
                                obtain ⟨X20, hX20⟩ : ∃ Xq, Xq = u3 Xe 59 0 ((12 * r) + k) 0 := ⟨_, rfl⟩
                                rw [← hX20] at hw
                                have hRX20 : Rng X20 := by rw [hX20]; exact rng_set hRXe (show (-9223372036854775808) ≤ 0 ∧ 0 ≤ 9223372036854775807 by omega)
                                have hVX20 : X20 59 0 ((12 * r) + k) = 0 := by rw [hX20]; exact u3_s _ _ _ _ _
                                have hFX20 : Frm [6000, 5700, 5800, 5900] X X20 := by rw [hX20]; exact Frm.set hFXe (show 5900 ∈ [6000, 5700, 5800, 5900] by first | exact nlm_in rfl | decide)
                                refine lv_iinc (v := jI (k + 1)) (lv' := [(4, .int (jI (k + 1))), (0, .ref (ad 40 0)), (1, .int (jI lane)), (2, .int (jI n)), (3, .int (jI r))]) hx hb dX9_newRow_199 hl (k := 4) rfl (jI_add _ _) (by decide) rfl (fun ls hl => ?_)
                                refine lv_goto (tgt := 179) hx hb dX9_newRow_202 (by decide) ?_
                                have q21 : Frm [5900] X11 Xe := Frm.tr Frm.rf (Frm.mono hGXe (by first | exact nls_of rfl | decide))
                                have q22 : Frm [5900] X11 X20 := by rw [hX20]; exact Frm.set q21 (show 5900 ∈ [5900] by first | exact nlm_in rfl | decide)
                                exact ih179 (k + 1) X20 _ _ _ (by omega) hRX20 q22 (by omega) (fun j a b => if hj : j = k then (by rw [hj]; exact hVX20) else (by rw [hX20, u3_j _ _ _ _ (by omega)]; exact hi12 j a (by omega))) (fun p hp9 => (by rw [hX20, u3_j _ _ _ _ (by omega)]; exact hio p hp9)) hw hS (lv_sub hl [1, 2, 3, 4, 0] rfl)
                          refine lp179 (12 - 0 : Int).toNat.succ 0 X11 _ _ _ ?g9p261 hRX11 Frm.rf ?g9p262 ?g9p263 ?g9p264 hw hS (lv_sub hl [1, 2, 3, 4, 0] rfl)
                          case g9p261 => omega
                          case g9p262 => omega
                          case g9p263 => exact (fun j a b => by omega)
                          case g9p264 => exact (fun p _ => (by rw [hX11, u3_k _ _ _ _ (by first | exact Nat.ne_of_beq_eq_false rfl | decide), hX10, u3_k _ _ _ _ (by first | exact Nat.ne_of_beq_eq_false rfl | decide), hGXd 59 0 p (show 5900 ∉ [6000] by first | exact nlm_ni rfl | decide), hGXb 59 0 p (show 5900 ∉ [6000] by first | exact nlm_ni rfl | decide), hGXa 59 0 p (show 5900 ∉ [6000] by first | exact nlm_ni rfl | decide)]))
                        · refine lv_iinc (v := jI (r + 1)) (lv' := [(3, .int (jI (r + 1))), (0, .ref (ad 40 0)), (1, .int (jI lane)), (2, .int (jI n))]) hx hb dX9_newRow_156 hl (k := 3) rfl (jI_add _ _) (by decide) rfl (fun ls hl => ?_)
                          refine lv_goto (tgt := 147) hx hb dX9_newRow_159 (by decide) ?_
                          exact ih147 (r + 1) _ _ _ (by omega) (by have := hU.fin (r := r + 1) (by omega) (fun j a b => if hj : j = r then (by rw [hj]; omega) else hu j a (by omega)); omega) (fun j a b => if hj : j = r then (by rw [hj]; omega) else hu j a (by omega)) hw hS (lv_sub hl [1, 2, 3, 0] rfl)
                    exact lp147 (230 - 0 : Int).toNat.succ 0 _ _ _ (by omega) (by omega) (fun j a b => by omega) hw hS (lv_sub hl [1, 2, 3, 0] rfl)
                  · refine lv_aload_n hx hb dX9_newRow_118 rfl (lv_at hl 0 rfl) ?_
                    refine x_geto hx hb hf9 hw (by first | exact Int.le_refl 0 | omega) (by first | exact zlt hc40 | omega) sl_40_25 lk72 dX9_newRow_119 ?_
                    refine lv_iload_n hx hb dX9_newRow_122 rfl (lv_at hl 3 rfl) ?_
                    refine x_iald hx hb hK.1 hw (by first | exact Int.le_refl 0 | omega) (by first | exact zlt hc66 | omega) ar_66 (len_E ar_66 (by first | exact Nat.ne_of_beq_eq_false rfl | decide)) (by omega) (by omega) (by omega) dX9_newRow_123 ?_
                    have e23 : ∀ p9 q9 : Int, Xd 66 p9 q9 = X 66 p9 q9 := fun p9 q9 => by rw [hGXd 66 p9 q9 (show 6600 ∉ [6000] by first | exact nlm_ni rfl | decide), hGXb 66 p9 q9 (show 6600 ∉ [6000] by first | exact nlm_ni rfl | decide), hGXa 66 p9 q9 (show 6600 ∉ [6000] by first | exact nlm_ni rfl | decide)]
                    rw [e23 0 k]
                    have f24 : (-1) ≤ X 66 0 k ∧ X 66 0 k ≤ 399 := hR 66 0 k
                    refine x_if_lt (tgt := 139) hx hb (by omega) dX9_newRow_124 (by decide) (fun c25 => ?_) (fun c25 => ?_)
                    · refine lv_iinc (v := jI (k + 1)) (lv' := [(3, .int (jI (k + 1))), (0, .ref (ad 40 0)), (1, .int (jI lane)), (2, .int (jI n))]) hx hb dX9_newRow_139 hl (k := 3) rfl (jI_add _ _) (by decide) rfl (fun ls hl => ?_)
                      refine lv_goto (tgt := 110) hx hb dX9_newRow_142 (by decide) ?_
                      have q26 : Frm [6000] Xb Xd := Frm.tr Frm.rf (Frm.mono hGXd (by first | exact nls_of rfl | decide))
                      exact ih110 (k + 1) Xd _ _ _ (by omega) hRXd q26 (by omega) (hU.mono (by omega)) (fun y j a b c d l v => hPd y j a b c d l v) (fun m a b v => if hm9 : m = k then (by rw [hm9] at v; exfalso; omega) else hNd m a (by omega) v) hw hS (lv_sub hl [1, 2, 3, 0] rfl)
                    · refine lv_aload_n hx hb dX9_newRow_127 rfl (lv_at hl 0 rfl) ?_
                      refine x_geto hx hb hf9 hw (by first | exact Int.le_refl 0 | omega) (by first | exact zlt hc40 | omega) sl_40_19 lk60 dX9_newRow_128 ?_
                      refine lv_aload_n hx hb dX9_newRow_131 rfl (lv_at hl 0 rfl) ?_
                      refine x_geto hx hb hf9 hw (by first | exact Int.le_refl 0 | omega) (by first | exact zlt hc40 | omega) sl_40_25 lk72 dX9_newRow_132 ?_
                      refine lv_iload_n hx hb dX9_newRow_135 rfl (lv_at hl 3 rfl) ?_
                      refine x_iald hx hb hK.1 hw (by first | exact Int.le_refl 0 | omega) (by first | exact zlt hc66 | omega) ar_66 (len_E ar_66 (by first | exact Nat.ne_of_beq_eq_false rfl | decide)) (by omega) (by omega) (by omega) dX9_newRow_136 ?_
                      have e27 : ∀ p9 q9 : Int, Xd 66 p9 q9 = X 66 p9 q9 := fun p9 q9 => by rw [hGXd 66 p9 q9 (show 6600 ∉ [6000] by first | exact nlm_ni rfl | decide), hGXb 66 p9 q9 (show 6600 ∉ [6000] by first | exact nlm_ni rfl | decide), hGXa 66 p9 q9 (show 6600 ∉ [6000] by first | exact nlm_ni rfl | decide)]
                      rw [e27 0 k]
                      have f28 : (-1) ≤ X 66 0 k ∧ X 66 0 k ≤ 399 := hR 66 0 k
                      refine lv_iconst (v := jI 1) hx hb dX9_newRow_137 rfl ?_
                      refine x_zast hx hb hK.1 hw hS (by first | exact Int.le_refl 0 | omega) (by first | exact zlt hc60 | omega) ar_60 (len_E ar_60 (by first | exact Nat.ne_of_beq_eq_false rfl | decide)) (by omega) (by omega) (by omega) (by omega) (by omega) dX9_newRow_138 (fun H locs hw hS => ?_)
                      obtain ⟨X29, hX29⟩ : ∃ Xq, Xq = u3 Xd 60 0 (X 66 0 k) 1 := ⟨_, rfl⟩
                      rw [← hX29] at hw
                      have hRX29 : Rng X29 := by rw [hX29]; exact rng_set hRXd (show 0 ≤ 1 ∧ 1 ≤ 1 by omega)
                      have hVX29 : X29 60 0 (X 66 0 k) = 1 := by rw [hX29]; exact u3_s _ _ _ _ _
                      have hFX29 : Frm [6000, 5700, 5800, 5900] X X29 := by rw [hX29]; exact Frm.set hFXd (show 6000 ∈ [6000, 5700, 5800, 5900] by first | exact nlm_in rfl | decide)
                      refine lv_iinc (v := jI (k + 1)) (lv' := [(3, .int (jI (k + 1))), (0, .ref (ad 40 0)), (1, .int (jI lane)), (2, .int (jI n))]) hx hb dX9_newRow_139 hl (k := 3) rfl (jI_add _ _) (by decide) rfl (fun ls hl => ?_)
                      refine lv_goto (tgt := 110) hx hb dX9_newRow_142 (by decide) ?_
                      have q30 : Frm [6000] Xb Xd := Frm.tr Frm.rf (Frm.mono hGXd (by first | exact nls_of rfl | decide))
                      have q31 : Frm [6000] Xb X29 := by rw [hX29]; exact Frm.set q30 (show 6000 ∈ [6000] by first | exact nlm_in rfl | decide)
                      exact ih110 (k + 1) X29 _ _ _ (by omega) hRX29 q31 (by omega) (by rw [hX29]; exact (hU.set).mono (by omega)) (fun y j a b c d l v => (by rw [hX29]; exact us1 (hPd y j a b c d l v))) (fun m a b v => if hm9 : m = k then (by rw [hm9, hX29]; exact u3_s _ _ _ _ _) else (by rw [hX29]; exact us1 (hNd m a (by omega) v))) hw hS (lv_sub hl [1, 2, 3, 0] rfl)
              exact lp110 (80 - 0 : Int).toNat.succ 0 Xb _ _ _ (by omega) hRXb Frm.rf (by omega) (hU.mono (by omega)) (fun y j a b c d l v => hPb y j a (by omega) c d l v) (fun m a b => by omega) hw hS (lv_sub hl [1, 2, 3, 0] rfl)
            · refine lv_iconst (v := jI 0) hx hb dX9_newRow_32 rfl ?_
              refine lv_istore (lv' := [(4, .int (jI 0)), (0, .ref (ad 40 0)), (1, .int (jI lane)), (2, .int (jI n)), (3, .int (jI x))]) hx hb dX9_newRow_33 hl (by decide) rfl (fun ls hl => ?_)
              have lp35 : ∀ (nn : Nat) (k : Int) (Xc : Nat → Int → Int → Int) (H : Heap) (locs : List Loc) (ls : Array Slot), (5 - k) < (nn : Int) → (Rng Xc) → (Frm [6000] Xb Xc) → (0 ≤ k ∧ k ≤ 5) → (Ucov Xc (5 * x + k)) → (∀ y j, 0 ≤ y → y < x → 0 ≤ j → j < X 44 0 (X 55 0 y) → 3 ≤ X 46 0 (5 * X 55 0 y + j) → 0 ≤ X 56 0 (5 * y + j) → Xc 60 0 (X 56 0 (5 * y + j)) = 1) → (∀ j, 0 ≤ j → j < k → 3 ≤ X 46 0 (5 * X 55 0 x + j) → 0 ≤ X 56 0 (5 * x + j) → Xc 60 0 (X 56 0 (5 * x + j)) = 1) → wd D tc base (ad, cnt, Xc, Y, ln) H → va_S (frA base) s.heap H locs → lv_has ls 5 [(0, .ref (ad 40 0)), (1, .int (jI lane)), (2, .int (jI n)), (3, .int (jI x)), (4, .int (jI k))] → W p l e ({ frames := 1, cells := 0, slots := 0, locals := 22 } : Room) s m av9 below meth c H locs 0 0 Q9 (F0 m 35 ls []) := by
                intro nn
                induction nn with
                | zero => intro k Xc H locs ls hm hRXc hGXc hk hU hPc hQc hw hS hl; exfalso; omega
                | succ nn ih35 =>
                  intro k Xc H locs ls hm hRXc hGXc hk hU hPc hQc hw hS hl
                  have hFXc : Frm [6000, 5700, 5800, 5900] X Xc := Frm.tr hFXb (Frm.mono hGXc (by first | exact nls_of rfl | decide))
                  refine lv_iload hx hb dX9_newRow_35 (lv_at hl 4 rfl) ?_
                  refine lv_aload_n hx hb dX9_newRow_37 rfl (lv_at hl 0 rfl) ?_
                  refine x_geto hx hb hf9 hw (by first | exact Int.le_refl 0 | omega) (by first | exact zlt hc40 | omega) sl_40_3 lk13 dX9_newRow_38 ?_
                  refine lv_aload_n hx hb dX9_newRow_41 rfl (lv_at hl 0 rfl) ?_
                  refine x_geto hx hb hf9 hw (by first | exact Int.le_refl 0 | omega) (by first | exact zlt hc40 | omega) sl_40_14 lk45 dX9_newRow_42 ?_
                  refine lv_iload_n hx hb dX9_newRow_45 rfl (lv_at hl 3 rfl) ?_
                  refine x_iald hx hb hK.1 hw (by first | exact Int.le_refl 0 | omega) (by first | exact zlt hc55 | omega) ar_55 (len_E ar_55 (by first | exact Nat.ne_of_beq_eq_false rfl | decide)) (by omega) (by omega) (by omega) dX9_newRow_46 ?_
                  have e32 : ∀ p9 q9 : Int, Xc 55 p9 q9 = X 55 p9 q9 := fun p9 q9 => by rw [hGXc 55 p9 q9 (show 5500 ∉ [6000] by first | exact nlm_ni rfl | decide), hGXb 55 p9 q9 (show 5500 ∉ [6000] by first | exact nlm_ni rfl | decide), hGXa 55 p9 q9 (show 5500 ∉ [6000] by first | exact nlm_ni rfl | decide)]
                  rw [e32 0 x]
                  have f33 : 0 ≤ X 55 0 x ∧ X 55 0 x ≤ 7 := hR 55 0 x
                  refine x_iald hx hb hK.1 hw (by first | exact Int.le_refl 0 | omega) (by first | exact zlt hc44 | omega) ar_44 (len_E ar_44 (by first | exact Nat.ne_of_beq_eq_false rfl | decide)) (by omega) (by omega) (by omega) dX9_newRow_47 ?_
                  have e34 : ∀ p9 q9 : Int, Xc 44 p9 q9 = X 44 p9 q9 := fun p9 q9 => by rw [hGXc 44 p9 q9 (show 4400 ∉ [6000] by first | exact nlm_ni rfl | decide), hGXb 44 p9 q9 (show 4400 ∉ [6000] by first | exact nlm_ni rfl | decide), hGXa 44 p9 q9 (show 4400 ∉ [6000] by first | exact nlm_ni rfl | decide)]
                  rw [e34 0 (X 55 0 x)]
                  have f35 : 0 ≤ X 44 0 (X 55 0 x) ∧ X 44 0 (X 55 0 x) ≤ 5 := hR 44 0 (X 55 0 x)
                  refine x_icmp_ge (tgt := 102) hx hb (by omega) (by omega) dX9_newRow_48 (by decide) (fun c36 => ?_) (fun c36 => ?_)
                  · refine lv_iinc (v := jI (x + 1)) (lv' := [(3, .int (jI (x + 1))), (0, .ref (ad 40 0)), (1, .int (jI lane)), (2, .int (jI n)), (4, .int (jI k))]) hx hb dX9_newRow_102 hl (k := 3) rfl (jI_add _ _) (by decide) rfl (fun ls hl => ?_)
                    refine lv_goto (tgt := 24) hx hb dX9_newRow_105 (by decide) ?_
                    have q37 : Frm [6000] Xa Xb := Frm.tr Frm.rf (Frm.mono hGXb (by first | exact nls_of rfl | decide))
                    have q38 : Frm [6000] Xa Xc := Frm.tr q37 (Frm.mono hGXc (by first | exact nls_of rfl | decide))
                    exact ih24 (x + 1) Xc _ _ _ (by omega) hRXc q38 (by omega) (hU.mono (by omega)) (fun y j a b c d l v => if hy : y = x then (by rw [hy] at d l v ⊢; exact hQc j c (by omega) l v) else hPc y j a (by omega) c d l v) hw hS (lv_sub hl [1, 2, 3, 0] rfl)
                  · refine lv_aload_n hx hb dX9_newRow_51 rfl (lv_at hl 0 rfl) ?_
                    refine lv_iload_n hx hb dX9_newRow_52 rfl (lv_at hl 3 rfl) ?_
                    refine lv_iload hx hb dX9_newRow_53 (lv_at hl 4 rfl) ?_
                    refine gos_i (run_V (As := [.int (jI x), .int (jI k)]) (rest := []) hx hb hml hown hts (c_X9_lane l D tc base ad cnt Xc Y ln hRXc hFx x k (by omega) (by omega)) (cwV 2 hts gX9_newRow_X9_lane rfl rfl rfl (by first | exact hd_X9_lane | decide +kernel) ⟨Nat.le_of_ble_eq_true rfl, Nat.le_of_ble_eq_true rfl⟩) hK hw (by first | exact Int.le_refl 0 | omega) (by first | exact zlt hc40 | omega) sl_40_0 rfl rfl hl.1 rfl (Nat.le_of_ble_eq_true rfl) dX9_newRow_55 ⟨Nat.le_of_ble_eq_true rfl, Nat.le_of_ble_eq_true rfl⟩) hS (fun z39 u40 H locs p41 hw hS => ?_)
                    obtain ⟨eu40, p41⟩ := p41
                    subst eu40
                    have e42 : ∀ j : Int, Xc 55 0 j = X 55 0 j := fun j => by rw [hGXc 55 0 j (show 5500 ∉ [6000] by first | exact nlm_ni rfl | decide), hGXb 55 0 j (show 5500 ∉ [6000] by first | exact nlm_ni rfl | decide), hGXa 55 0 j (show 5500 ∉ [6000] by first | exact nlm_ni rfl | decide)]
                    have e43 : ∀ j : Int, Xc 46 0 j = X 46 0 j := fun j => by rw [hGXc 46 0 j (show 4600 ∉ [6000] by first | exact nlm_ni rfl | decide), hGXb 46 0 j (show 4600 ∉ [6000] by first | exact nlm_ni rfl | decide), hGXa 46 0 j (show 4600 ∉ [6000] by first | exact nlm_ni rfl | decide)]
                    simp only [e42, e43] at p41
                    refine lv_iconst (v := jI 3) hx hb dX9_newRow_58 rfl ?_
                    refine x_icmp_lt (tgt := 96) hx hb (by omega) (by omega) dX9_newRow_59 (by decide) (fun c44 => ?_) (fun c44 => ?_)
                    · refine lv_iinc (v := jI (k + 1)) (lv' := [(4, .int (jI (k + 1))), (0, .ref (ad 40 0)), (1, .int (jI lane)), (2, .int (jI n)), (3, .int (jI x))]) hx hb dX9_newRow_96 hl (k := 4) rfl (jI_add _ _) (by decide) rfl (fun ls hl => ?_)
                      refine lv_goto (tgt := 35) hx hb dX9_newRow_99 (by decide) ?_
                      have q45 : Frm [6000] Xb Xc := Frm.tr Frm.rf (Frm.mono hGXc (by first | exact nls_of rfl | decide))
                      exact ih35 (k + 1) Xc _ _ _ (by omega) hRXc q45 (by omega) (hU.mono (by omega)) (fun y j a b c d l v => hPc y j a b c d l v) (fun j a b l v => if hj : j = k then (by rw [hj] at l v; exfalso; omega) else hQc j a (by omega) l v) hw hS (lv_sub hl [1, 2, 3, 4, 0] rfl)
                    · refine lv_aload_n hx hb dX9_newRow_62 rfl (lv_at hl 0 rfl) ?_
                      refine x_geto hx hb hf9 hw (by first | exact Int.le_refl 0 | omega) (by first | exact zlt hc40 | omega) sl_40_15 lk48 dX9_newRow_63 ?_
                      refine lv_iconst (v := jI 5) hx hb dX9_newRow_66 rfl ?_
                      refine lv_iload_n hx hb dX9_newRow_67 rfl (lv_at hl 3 rfl) ?_
                      refine x_imul hx hb dX9_newRow_68 ?_
                      refine lv_iload hx hb dX9_newRow_69 (lv_at hl 4 rfl) ?_
                      refine x_iadd hx hb dX9_newRow_71 ?_
                      obtain ⟨hy1, hy2, hy3⟩ := hMI.1 x k (by omega) (by omega) (by omega) (by omega)
                      refine x_lald hx hb hK.1 hw (by first | exact Int.le_refl 0 | omega) (by first | exact zlt hc56 | omega) ar_56 (len_E ar_56 (by first | exact Nat.ne_of_beq_eq_false rfl | decide)) (by omega) (by omega) (by omega) dX9_newRow_72 ?_
                      have e46 : ∀ p9 q9 : Int, Xc 56 p9 q9 = X 56 p9 q9 := fun p9 q9 => by rw [hGXc 56 p9 q9 (show 5600 ∉ [6000] by first | exact nlm_ni rfl | decide), hGXb 56 p9 q9 (show 5600 ∉ [6000] by first | exact nlm_ni rfl | decide), hGXa 56 p9 q9 (show 5600 ∉ [6000] by first | exact nlm_ni rfl | decide)]
                      rw [e46 0 ((5 * x) + k)]
                      have f47 : (-9223372036854775808) ≤ X 56 0 ((5 * x) + k) ∧ X 56 0 ((5 * x) + k) ≤ 9223372036854775807 := hR 56 0 ((5 * x) + k)
                      refine lv_lconst (v := jL 0) hx hb dX9_newRow_73 (by decide) ?_
                      refine x_lcmp hx hb (by omega) (by omega) dX9_newRow_74 ?_
                      obtain ⟨z48, ez48⟩ : ∃ y : Int, y = cmpZ (X 56 0 ((5 * x) + k)) 0 := ⟨_, rfl⟩
                      rw [← ez48]
                      have gz48 : (z48 < 0 ↔ ((X 56 0 ((5 * x) + k)) : Int) < 0) ∧ (z48 = 0 ↔ ((X 56 0 ((5 * x) + k)) : Int) = 0) ∧ -1 ≤ z48 ∧ z48 ≤ 1 := by rw [ez48]; exact ⟨cmpZ_lt, cmpZ_eq, (cmpZ_r _ _).1, (cmpZ_r _ _).2⟩
                      clear ez48
                      refine x_if_lt (tgt := 96) hx hb (by omega) dX9_newRow_75 (by decide) (fun c49 => ?_) (fun c49 => ?_)
                      · replace c49 := cz_ltT gz48 c49
                        clear gz48
                        refine lv_iinc (v := jI (k + 1)) (lv' := [(4, .int (jI (k + 1))), (0, .ref (ad 40 0)), (1, .int (jI lane)), (2, .int (jI n)), (3, .int (jI x))]) hx hb dX9_newRow_96 hl (k := 4) rfl (jI_add _ _) (by decide) rfl (fun ls hl => ?_)
                        refine lv_goto (tgt := 35) hx hb dX9_newRow_99 (by decide) ?_
                        have q50 : Frm [6000] Xb Xc := Frm.tr Frm.rf (Frm.mono hGXc (by first | exact nls_of rfl | decide))
                        exact ih35 (k + 1) Xc _ _ _ (by omega) hRXc q50 (by omega) (hU.mono (by omega)) (fun y j a b c d l v => hPc y j a b c d l v) (fun j a b l v => if hj : j = k then (by rw [hj] at l v; exfalso; omega) else hQc j a (by omega) l v) hw hS (lv_sub hl [1, 2, 3, 4, 0] rfl)
                      · replace c49 := cz_ltF gz48 c49
                        clear gz48
                        refine lv_aload_n hx hb dX9_newRow_78 rfl (lv_at hl 0 rfl) ?_
                        refine x_geto hx hb hf9 hw (by first | exact Int.le_refl 0 | omega) (by first | exact zlt hc40 | omega) sl_40_19 lk60 dX9_newRow_79 ?_
                        refine lv_aload_n hx hb dX9_newRow_82 rfl (lv_at hl 0 rfl) ?_
                        refine x_geto hx hb hf9 hw (by first | exact Int.le_refl 0 | omega) (by first | exact zlt hc40 | omega) sl_40_15 lk48 dX9_newRow_83 ?_
                        refine lv_iconst (v := jI 5) hx hb dX9_newRow_86 rfl ?_
                        refine lv_iload_n hx hb dX9_newRow_87 rfl (lv_at hl 3 rfl) ?_
                        refine x_imul hx hb dX9_newRow_88 ?_
                        refine lv_iload hx hb dX9_newRow_89 (lv_at hl 4 rfl) ?_
                        refine x_iadd hx hb dX9_newRow_91 ?_
                        skip
                        refine x_lald hx hb hK.1 hw (by first | exact Int.le_refl 0 | omega) (by first | exact zlt hc56 | omega) ar_56 (len_E ar_56 (by first | exact Nat.ne_of_beq_eq_false rfl | decide)) (by omega) (by omega) (by omega) dX9_newRow_92 ?_
                        have e51 : ∀ p9 q9 : Int, Xc 56 p9 q9 = X 56 p9 q9 := fun p9 q9 => by rw [hGXc 56 p9 q9 (show 5600 ∉ [6000] by first | exact nlm_ni rfl | decide), hGXb 56 p9 q9 (show 5600 ∉ [6000] by first | exact nlm_ni rfl | decide), hGXa 56 p9 q9 (show 5600 ∉ [6000] by first | exact nlm_ni rfl | decide)]
                        rw [e51 0 ((5 * x) + k)]
                        have f52 : (-9223372036854775808) ≤ X 56 0 ((5 * x) + k) ∧ X 56 0 ((5 * x) + k) ≤ 9223372036854775807 := hR 56 0 ((5 * x) + k)
                        refine x_l2i hx hb dX9_newRow_93 ?_
                        refine lv_iconst (v := jI 1) hx hb dX9_newRow_94 rfl ?_
                        refine x_zast hx hb hK.1 hw hS (by first | exact Int.le_refl 0 | omega) (by first | exact zlt hc60 | omega) ar_60 (len_E ar_60 (by first | exact Nat.ne_of_beq_eq_false rfl | decide)) (by omega) (by omega) (by omega) (by omega) (by omega) dX9_newRow_95 (fun H locs hw hS => ?_)
                        obtain ⟨X53, hX53⟩ : ∃ Xq, Xq = u3 Xc 60 0 (X 56 0 ((5 * x) + k)) 1 := ⟨_, rfl⟩
                        rw [← hX53] at hw
                        have hRX53 : Rng X53 := by rw [hX53]; exact rng_set hRXc (show 0 ≤ 1 ∧ 1 ≤ 1 by omega)
                        have hVX53 : X53 60 0 (X 56 0 ((5 * x) + k)) = 1 := by rw [hX53]; exact u3_s _ _ _ _ _
                        have hFX53 : Frm [6000, 5700, 5800, 5900] X X53 := by rw [hX53]; exact Frm.set hFXc (show 6000 ∈ [6000, 5700, 5800, 5900] by first | exact nlm_in rfl | decide)
                        refine lv_iinc (v := jI (k + 1)) (lv' := [(4, .int (jI (k + 1))), (0, .ref (ad 40 0)), (1, .int (jI lane)), (2, .int (jI n)), (3, .int (jI x))]) hx hb dX9_newRow_96 hl (k := 4) rfl (jI_add _ _) (by decide) rfl (fun ls hl => ?_)
                        refine lv_goto (tgt := 35) hx hb dX9_newRow_99 (by decide) ?_
                        have q54 : Frm [6000] Xb Xc := Frm.tr Frm.rf (Frm.mono hGXc (by first | exact nls_of rfl | decide))
                        have q55 : Frm [6000] Xb X53 := by rw [hX53]; exact Frm.set q54 (show 6000 ∈ [6000] by first | exact nlm_in rfl | decide)
                        exact ih35 (k + 1) X53 _ _ _ (by omega) hRX53 q55 (by omega) (by rw [hX53]; exact (hU.set).mono (by omega)) (fun y j a b c d l v => (by rw [hX53]; exact us1 (hPc y j a b c d l v))) (fun j a b l v => if hj : j = k then (by rw [hj, hX53]; exact u3_s _ _ _ _ _) else (by rw [hX53]; exact us1 (hQc j a (by omega) l v))) hw hS (lv_sub hl [1, 2, 3, 4, 0] rfl)
              exact lp35 (5 - 0 : Int).toNat.succ 0 Xb _ _ _ (by omega) hRXb Frm.rf (by omega) (hU.mono (by omega)) (hPb) (fun j a b => by omega) hw hS (lv_sub hl [1, 2, 3, 4, 0] rfl)
        exact lp24 (30 - 0 : Int).toNat.succ 0 Xa _ _ _ (by omega) hRXa Frm.rf (by omega) (⟨[], by simp, fun j a b e => absurd (hz j a (by omega)) (by omega)⟩) (fun y j a b => by omega) hw hS (lv_sub hl [1, 2, 3, 0] rfl)
      · refine lv_aload_n hx hb dX9_newRow_9 rfl (lv_at hl 0 rfl) ?_
        refine x_geto hx hb hf9 hw (by first | exact Int.le_refl 0 | omega) (by first | exact zlt hc40 | omega) sl_40_19 lk60 dX9_newRow_10 ?_
        refine lv_iload_n hx hb dX9_newRow_13 rfl (lv_at hl 3 rfl) ?_
        refine lv_iconst (v := jI 0) hx hb dX9_newRow_14 rfl ?_
        refine x_zast hx hb hK.1 hw hS (by first | exact Int.le_refl 0 | omega) (by first | exact zlt hc60 | omega) ar_60 (len_E ar_60 (by first | exact Nat.ne_of_beq_eq_false rfl | decide)) (by omega) (by omega) (by omega) (by omega) (by omega) dX9_newRow_15 (fun H locs hw hS => ?_)
        obtain ⟨X56, hX56⟩ : ∃ Xq, Xq = u3 Xa 60 0 k 0 := ⟨_, rfl⟩
        rw [← hX56] at hw
        have hRX56 : Rng X56 := by rw [hX56]; exact rng_set hRXa (show 0 ≤ 0 ∧ 0 ≤ 1 by omega)
        have hVX56 : X56 60 0 k = 0 := by rw [hX56]; exact u3_s _ _ _ _ _
        have hFX56 : Frm [6000, 5700, 5800, 5900] X X56 := by rw [hX56]; exact Frm.set hFXa (show 6000 ∈ [6000, 5700, 5800, 5900] by first | exact nlm_in rfl | decide)
        refine lv_iinc (v := jI (k + 1)) (lv' := [(3, .int (jI (k + 1))), (0, .ref (ad 40 0)), (1, .int (jI lane)), (2, .int (jI n))]) hx hb dX9_newRow_16 hl (k := 3) rfl (jI_add _ _) (by decide) rfl (fun ls hl => ?_)
        refine lv_goto (tgt := 2) hx hb dX9_newRow_19 (by decide) ?_
        have q57 : Frm [6000] X Xa := Frm.tr Frm.rf (Frm.mono hGXa (by first | exact nls_of rfl | decide))
        have q58 : Frm [6000] X X56 := by rw [hX56]; exact Frm.set q57 (show 6000 ∈ [6000] by first | exact nlm_in rfl | decide)
        exact ih2 (k + 1) X56 _ _ _ (by omega) hRX56 q58 (by omega) (fun j a b => if hj : j = k then (by rw [hX56, hj]; exact u3_s _ _ _ _ _) else (by rw [hX56, u3_j _ _ _ _ hj]; exact hz j a (by omega))) hw hS (lv_sub hl [1, 2, 3, 0] rfl)
  exact lp2 (400 - 0 : Int).toNat.succ 0 X _ _ _ (by omega) hR Frm.rf (by omega) (fun j a b => by omega) hw hS (lv_sub hl [1, 2, 3, 0] rfl)

set_option maxHeartbeats 4000000 in
set_option maxRecDepth 100000 in
theorem c_X9_row (l : Launch) (D : va_G) (tc : Nat → ClassId) (base : Nat) (ad : Nat → Int → Nat) (cnt : Nat → Int) (X : Nat → Int → Int → Int) (Y : Nat → Int → Int → Option Int) (ln : Int → Int) (hR : Rng X) (hFx : Fx cnt) (hMI : MInv X) (x k n : Int) (hx : -2147483648 ≤ x ∧ x ≤ 2147483647) (hk : -2147483648 ≤ k ∧ k ≤ 2147483647) (hn : -2147483648 ≤ n ∧ n ≤ 2147483647) : KI l D tc base yX9_row wsX9_row ({ frames := 2, cells := 0, slots := 0, locals := 46 } : Room) [.ref (ad 40 0), .int (jI x), .int (jI k), .int (jI n)] (ad, cnt, X, Y, ln) 0 0 (fun z u => ∃ X1 : Nat → Int → Int → Int, u = (ad, cnt, X1, Y, ln) ∧ Rng X1 ∧ Frm [4001, 6400, 6500, 6700, 6800, 6600, 4023, 5600, 6000, 5700, 5800, 5900] X X1 ∧ MInv X1 ∧ (-2147483648 ≤ z ∧ z ≤ 2147483647) ∧ ((¬ (0 ≤ x ∧ x < X 40 0 13 ∧ 0 ≤ k ∧ k < X 44 0 (X 55 0 x)) ∧ z = -1) ∨ ((0 ≤ x ∧ x < X 40 0 13 ∧ 0 ≤ k ∧ k < X 44 0 (X 55 0 x)) ∧ 12 < n ∧ z = -2) ∨ ((0 ≤ x ∧ x < X 40 0 13 ∧ 0 ≤ k ∧ k < X 44 0 (X 55 0 x)) ∧ n ≤ 12 ∧ X 46 0 (5 * X 55 0 x + k) < 3 ∧ z = -14) ∨ ((0 ≤ x ∧ x < X 40 0 13 ∧ 0 ≤ k ∧ k < X 44 0 (X 55 0 x)) ∧ n ≤ 12 ∧ 3 ≤ X 46 0 (5 * X 55 0 x + k) ∧ n < -1 ∧ z = -13) ∨ ((0 ≤ x ∧ x < X 40 0 13 ∧ 0 ≤ k ∧ k < X 44 0 (X 55 0 x)) ∧ n ≤ 12 ∧ 3 ≤ X 46 0 (5 * X 55 0 x + k) ∧ -1 ≤ n ∧ (0 < X 40 0 20 ∧ X 40 0 22 = 80) ∧ z = -4) ∨ ((0 ≤ x ∧ x < X 40 0 13 ∧ 0 ≤ k ∧ k < X 44 0 (X 55 0 x)) ∧ n ≤ 12 ∧ 3 ≤ X 46 0 (5 * X 55 0 x + k) ∧ -1 ≤ n ∧ (X 40 0 20 = 0 ∨ X 40 0 22 ≤ 79) ∧ z = 1)) ∧ (z < 0 → Frm [4001] X X1) ∧ (z = 1 → ∃ r, (eNoteM X X1 x k (if 3 ≤ X 46 0 (5 * X 55 0 x + k) then X 56 0 (5 * x + k) else -1) (-1) (X 56 0 (5 * x + k)) ∧ X1 56 0 (5 * x + k) = r ∧ ∀ p, p ≠ 5 * x + k → X1 56 0 p = X 56 0 p) ∧ ((n < 0 ∧ r = -1 ∧ X1 57 = X 57 ∧ X1 58 = X 58 ∧ X1 59 = X 59) ∨ (0 ≤ n ∧ 0 ≤ r ∧ r ≤ 399 ∧ nwM X X1 (X 46 0 (5 * X 55 0 x + k)) n r)))) := by
  refine K_of (cc := cX9_row) (maxL := 4) (ret := (some .int)) (by decide) rfl (Nat.le_of_ble_eq_true rfl) ?_
  intro p e s m below meth c ls hx hb hr hml hown hts hlocks hl hK hw hS
  have hown : s.vm.findClass RX9 = some m.cls := hown
  obtain ⟨av9, hav9⟩ : ∃ a9 : Array Value, a9 = ([.ref (ad 40 0), .int (jI x), .int (jI k), .int (jI n)] : List Value).toArray := ⟨_, rfl⟩
  rw [← hav9] at hts ⊢
  obtain ⟨Q9, hQ9⟩ : ∃ q9Q : State → Prop, q9Q = MQ below (QI D tc base (fun z u => ∃ X1 : Nat → Int → Int → Int, u = (ad, cnt, X1, Y, ln) ∧ Rng X1 ∧ Frm [4001, 6400, 6500, 6700, 6800, 6600, 4023, 5600, 6000, 5700, 5800, 5900] X X1 ∧ MInv X1 ∧ (-2147483648 ≤ z ∧ z ≤ 2147483647) ∧ ((¬ (0 ≤ x ∧ x < X 40 0 13 ∧ 0 ≤ k ∧ k < X 44 0 (X 55 0 x)) ∧ z = -1) ∨ ((0 ≤ x ∧ x < X 40 0 13 ∧ 0 ≤ k ∧ k < X 44 0 (X 55 0 x)) ∧ 12 < n ∧ z = -2) ∨ ((0 ≤ x ∧ x < X 40 0 13 ∧ 0 ≤ k ∧ k < X 44 0 (X 55 0 x)) ∧ n ≤ 12 ∧ X 46 0 (5 * X 55 0 x + k) < 3 ∧ z = -14) ∨ ((0 ≤ x ∧ x < X 40 0 13 ∧ 0 ≤ k ∧ k < X 44 0 (X 55 0 x)) ∧ n ≤ 12 ∧ 3 ≤ X 46 0 (5 * X 55 0 x + k) ∧ n < -1 ∧ z = -13) ∨ ((0 ≤ x ∧ x < X 40 0 13 ∧ 0 ≤ k ∧ k < X 44 0 (X 55 0 x)) ∧ n ≤ 12 ∧ 3 ≤ X 46 0 (5 * X 55 0 x + k) ∧ -1 ≤ n ∧ (0 < X 40 0 20 ∧ X 40 0 22 = 80) ∧ z = -4) ∨ ((0 ≤ x ∧ x < X 40 0 13 ∧ 0 ≤ k ∧ k < X 44 0 (X 55 0 x)) ∧ n ≤ 12 ∧ 3 ≤ X 46 0 (5 * X 55 0 x + k) ∧ -1 ≤ n ∧ (X 40 0 20 = 0 ∨ X 40 0 22 ≤ 79) ∧ z = 1)) ∧ (z < 0 → Frm [4001] X X1) ∧ (z = 1 → ∃ r, (eNoteM X X1 x k (if 3 ≤ X 46 0 (5 * X 55 0 x + k) then X 56 0 (5 * x + k) else -1) (-1) (X 56 0 (5 * x + k)) ∧ X1 56 0 (5 * x + k) = r ∧ ∀ p, p ≠ 5 * x + k → X1 56 0 p = X 56 0 p) ∧ ((n < 0 ∧ r = -1 ∧ X1 57 = X 57 ∧ X1 58 = X 58 ∧ X1 59 = X 59) ∨ (0 ≤ n ∧ 0 ≤ r ∧ r ≤ 399 ∧ nwM X X1 (X 46 0 (5 * X 55 0 x + k)) n r))))) av9 s 0 0 (frA base) := ⟨_, rfl⟩
  rw [← hQ9]
  have hi9 : ∀ w ∈ wsX90, w ∈ wsX9_row := fun w h => List.mem_cons_of_mem _ (List.mem_append_right _ h)
  have hf9 : fctx s m _ RX9 wsX9_row D tc RX9 TX9 51 9 := ⟨hts, hi9, hown, hK.1, rfl⟩
  have lk145 := hts (.fieldLink RX9 145 (TX9 0).1 (TX9 0).2.1 (TX9 0).2.2.1) (gj_X9_row_0 _ (gp_h))
  have hc40 : cnt 40 = 1 := hFx.at 40 1 (by decide)
  have hl : lv_has ls 4 [(0, .ref (ad 40 0)), (1, .int (jI x)), (2, .int (jI k)), (3, .int (jI n))] := hl
  have fstypes : 0 ≤ X 40 0 2 ∧ X 40 0 2 ≤ 8 := hR 40 0 2
  have fsthings : 0 ≤ X 40 0 13 ∧ X 40 0 13 ≤ 30 := hR 40 0 13
  have fsmarks : 0 ≤ X 40 0 20 ∧ X 40 0 20 ≤ 4 := hR 40 0 20
  have fsnotes : 0 ≤ X 40 0 22 ∧ X 40 0 22 ≤ 80 := hR 40 0 22
  refine lv_aload_n hx hb dX9_row_0 rfl (lv_at hl 0 rfl) ?_
  refine lv_iconst (v := jI 0) hx hb dX9_row_1 rfl ?_
  refine x_puti (jz := 0) hx hb hf9 ⟨tyX9_ok, nmX9⟩ hw hS (by first | exact Int.le_refl 0 | omega) (by first | exact zlt hc40 | omega) sl_40_0 rfl lk145 rfl (tyX9_ok 0 (by decide)) rfl rfl dX9_row_2 (fun H locs hw hS => ?_)
  obtain ⟨X1, hX1⟩ : ∃ Xq, Xq = u3 X 40 0 0 0 := ⟨_, rfl⟩
  rw [← hX1] at hw
  have hRX1 : Rng X1 := by rw [hX1]; exact rng_set hR (show (-2147483648) ≤ 0 ∧ 0 ≤ 2147483647 by omega)
  have hVX1 : X1 40 0 0 = 0 := by rw [hX1]; exact u3_s _ _ _ _ _
  have hFX1 : Frm [4001, 6400, 6500, 6700, 6800, 6600, 4023, 5600, 6000, 5700, 5800, 5900] X X1 := by rw [hX1]; exact Frm.set Frm.rf (show 4001 ∈ [4001, 6400, 6500, 6700, 6800, 6600, 4023, 5600, 6000, 5700, 5800, 5900] by first | exact nlm_in rfl | decide)
  refine lv_aload_n hx hb dX9_row_5 rfl (lv_at hl 0 rfl) ?_
  refine lv_iload_n hx hb dX9_row_6 rfl (lv_at hl 1 rfl) ?_
  refine lv_iload_n hx hb dX9_row_7 rfl (lv_at hl 2 rfl) ?_
  refine gos_i (run_V (As := [.int (jI x), .int (jI k)]) (rest := []) hx hb hml hown hts (c_X9_isField l D tc base ad cnt X1 Y ln hRX1 hFx x k (by omega) (by omega)) (cwV 2 hts gX9_row_X9_isField rfl rfl rfl (by first | exact hd_X9_isField | decide +kernel) ⟨Nat.le_of_ble_eq_true rfl, Nat.le_of_ble_eq_true rfl⟩) hK hw (by first | exact Int.le_refl 0 | omega) (by first | exact zlt hc40 | omega) sl_40_0 rfl rfl hl.1 rfl (Nat.le_of_ble_eq_true rfl) dX9_row_8 ⟨Nat.le_of_ble_eq_true rfl, Nat.le_of_ble_eq_true rfl⟩) hS (fun z2 u3 H locs p4 hw hS => ?_)
  obtain ⟨eu3, p4⟩ := p4
  subst eu3
  have e5 : X1 40 0 13 = X 40 0 13 := by rw [hX1, u3_j _ _ _ _ (by decide)]
  have e6 : ∀ j : Int, X1 55 0 j = X 55 0 j := fun j => by rw [hX1, u3_k _ _ _ _ (by first | exact Nat.ne_of_beq_eq_false rfl | decide)]
  have e7 : ∀ j : Int, X1 44 0 j = X 44 0 j := fun j => by rw [hX1, u3_k _ _ _ _ (by first | exact Nat.ne_of_beq_eq_false rfl | decide)]
  simp only [e5, e6, e7] at p4
  rcases p4 with ⟨ez2, p4⟩ | ⟨ez2, p4⟩
  · subst ez2
    refine x_if_neT (tgt := 16) hx hb (by omega) (by decide) dX9_row_11 (by decide) ?_
    refine lv_iload_n hx hb dX9_row_16 rfl (lv_at hl 3 rfl) ?_
    refine lv_bipush (v := jI 12) hx hb dX9_row_17 (by decide) ?_
    refine x_icmp_le (tgt := 25) hx hb (by omega) (by omega) dX9_row_19 (by decide) (fun c8 => ?_) (fun c8 => ?_)
    · refine lv_aload_n hx hb dX9_row_25 rfl (lv_at hl 0 rfl) ?_
      refine lv_iload_n hx hb dX9_row_26 rfl (lv_at hl 1 rfl) ?_
      refine lv_iload_n hx hb dX9_row_27 rfl (lv_at hl 2 rfl) ?_
      refine gos_i (run_V (As := [.int (jI x), .int (jI k)]) (rest := []) hx hb hml hown hts (c_X9_lane l D tc base ad cnt X1 Y ln hRX1 hFx x k (by omega) (by omega)) (cwV 2 hts gX9_row_X9_lane rfl rfl rfl (by first | exact hd_X9_lane | decide +kernel) ⟨Nat.le_of_ble_eq_true rfl, Nat.le_of_ble_eq_true rfl⟩) hK hw (by first | exact Int.le_refl 0 | omega) (by first | exact zlt hc40 | omega) sl_40_0 rfl rfl hl.1 rfl (Nat.le_of_ble_eq_true rfl) dX9_row_28 ⟨Nat.le_of_ble_eq_true rfl, Nat.le_of_ble_eq_true rfl⟩) hS (fun z9 u10 H locs p11 hw hS => ?_)
      obtain ⟨eu10, p11⟩ := p11
      subst eu10
      have e12 : ∀ j : Int, X1 55 0 j = X 55 0 j := fun j => by rw [hX1, u3_k _ _ _ _ (by first | exact Nat.ne_of_beq_eq_false rfl | decide)]
      have e13 : ∀ j : Int, X1 46 0 j = X 46 0 j := fun j => by rw [hX1, u3_k _ _ _ _ (by first | exact Nat.ne_of_beq_eq_false rfl | decide)]
      simp only [e12, e13] at p11
      refine lv_iconst (v := jI 3) hx hb dX9_row_31 rfl ?_
      refine x_icmp_ge (tgt := 38) hx hb (by omega) (by omega) dX9_row_32 (by decide) (fun c14 => ?_) (fun c14 => ?_)
      · refine lv_iload_n hx hb dX9_row_38 rfl (lv_at hl 3 rfl) ?_
        refine lv_iconst (v := jI (-1)) hx hb dX9_row_39 rfl ?_
        refine x_icmp_ge (tgt := 46) hx hb (by omega) (by omega) dX9_row_40 (by decide) (fun c15 => ?_) (fun c15 => ?_)
        · refine lv_aload_n hx hb dX9_row_46 rfl (lv_at hl 0 rfl) ?_
          refine gos_i (run_V (As := []) (rest := []) hx hb hml hown hts (c_X9_isFull l D tc base ad cnt X1 Y ln hRX1 hFx) (cwV 0 hts gX9_row_X9_isFull rfl rfl rfl (by first | exact hd_X9_isFull | decide +kernel) ⟨Nat.le_of_ble_eq_true rfl, Nat.le_of_ble_eq_true rfl⟩) hK hw (by first | exact Int.le_refl 0 | omega) (by first | exact zlt hc40 | omega) sl_40_0 rfl rfl hl.1 rfl (Nat.le_of_ble_eq_true rfl) dX9_row_47 ⟨Nat.le_of_ble_eq_true rfl, Nat.le_of_ble_eq_true rfl⟩) hS (fun z16 u17 H locs p18 hw hS => ?_)
          obtain ⟨eu17, p18⟩ := p18
          subst eu17
          have e19 : X1 40 0 20 = X 40 0 20 := by rw [hX1, u3_j _ _ _ _ (by decide)]
          have e20 : X1 40 0 22 = X 40 0 22 := by rw [hX1, u3_j _ _ _ _ (by decide)]
          simp only [e19, e20] at p18
          rcases p18 with ⟨ez16, p18⟩ | ⟨ez16, p18⟩
          · subst ez16
            refine x_if_eqF (tgt := 56) hx hb (by omega) (by decide) dX9_row_50 (by decide) ?_
            refine lv_bipush (v := jI (-4)) hx hb dX9_row_53 (by decide) ?_
            rw [hQ9]
            refine ret_i (mc := 0) (ms := 0) hx hb hr hlocks hw hS (by first | exact Nat.le_of_ble_eq_true rfl | omega) (by first | exact Nat.le_of_ble_eq_true rfl | omega) dX9_row_55 ?_
            have q22 : Frm [4001] X X1 := by rw [hX1]; exact Frm.set Frm.rf (show 4001 ∈ [4001] by first | exact nlm_in rfl | decide)
            have hMq21 : MInv X1 := minv_frm hMI q22 (by decide)
            have q23 : Frm [4001] X X1 := by rw [hX1]; exact Frm.set Frm.rf (show 4001 ∈ [4001] by first | exact nlm_in rfl | decide)
            exact ⟨X1, rfl, hRX1, hFX1, hMq21, by omega, (by (try delta Hid at *); exact Or.inr (Or.inr (Or.inr (Or.inr (Or.inl ⟨(by omega), by omega, by omega, by omega, (by omega), by omega⟩))))), fun _ => q23, fun q => (by exfalso; omega)⟩
          · subst ez16
            refine x_if_eqT (tgt := 56) hx hb (by omega) (by decide) dX9_row_50 (by decide) ?_
            refine lv_aload_n hx hb dX9_row_56 rfl (lv_at hl 0 rfl) ?_
            refine lv_iload_n hx hb dX9_row_57 rfl (lv_at hl 1 rfl) ?_
            refine lv_iload_n hx hb dX9_row_58 rfl (lv_at hl 2 rfl) ?_
            refine lv_iload_n hx hb dX9_row_59 rfl (lv_at hl 3 rfl) ?_
            refine x_if_ge (tgt := 69) hx hb (by omega) dX9_row_60 (by decide) (fun c24 => ?_) (fun c24 => ?_)
            · refine lv_aload_n hx hb dX9_row_69 rfl (lv_at hl 0 rfl) ?_
              refine lv_aload_n hx hb dX9_row_70 rfl (lv_at hl 0 rfl) ?_
              refine lv_iload_n hx hb dX9_row_71 rfl (lv_at hl 1 rfl) ?_
              refine lv_iload_n hx hb dX9_row_72 rfl (lv_at hl 2 rfl) ?_
              refine gos_i (run_V (As := [.int (jI x), .int (jI k)]) (rest := [.ref (ad 40 0), .int (jI k), .int (jI x), .ref (ad 40 0)]) hx hb hml hown hts (c_X9_lane l D tc base ad cnt X1 Y ln hRX1 hFx x k (by omega) (by omega)) (cwV 2 hts gX9_row_X9_lane rfl rfl rfl (by first | exact hd_X9_lane | decide +kernel) ⟨Nat.le_of_ble_eq_true rfl, Nat.le_of_ble_eq_true rfl⟩) hK hw (by first | exact Int.le_refl 0 | omega) (by first | exact zlt hc40 | omega) sl_40_0 rfl rfl hl.1 rfl (Nat.le_of_ble_eq_true rfl) dX9_row_73 ⟨Nat.le_of_ble_eq_true rfl, Nat.le_of_ble_eq_true rfl⟩) hS (fun z25 u26 H locs p27 hw hS => ?_)
              obtain ⟨eu26, p27⟩ := p27
              subst eu26
              have e28 : ∀ j : Int, X1 55 0 j = X 55 0 j := fun j => by rw [hX1, u3_k _ _ _ _ (by first | exact Nat.ne_of_beq_eq_false rfl | decide)]
              have e29 : ∀ j : Int, X1 46 0 j = X 46 0 j := fun j => by rw [hX1, u3_k _ _ _ _ (by first | exact Nat.ne_of_beq_eq_false rfl | decide)]
              simp only [e28, e29] at p27
              refine lv_iload_n hx hb dX9_row_76 rfl (lv_at hl 3 rfl) ?_
              have q31 : Frm [4001] X X1 := by rw [hX1]; exact Frm.set Frm.rf (show 4001 ∈ [4001] by first | exact nlm_in rfl | decide)
              have hMq30 : MInv X1 := minv_frm hMI q31 (by decide)
              refine gos_i (run_V (As := [.int (jI z25), .int (jI n)]) (rest := [.int (jI k), .int (jI x), .ref (ad 40 0)]) hx hb hml hown hts (c_X9_newRow l D tc base ad cnt X1 Y ln hRX1 hFx hMq30 z25 n (by omega) (by omega)) (cwV 2 hts gX9_row_X9_newRow rfl rfl rfl (by first | exact hd_X9_newRow | decide +kernel) ⟨Nat.le_of_ble_eq_true rfl, Nat.le_of_ble_eq_true rfl⟩) hK hw (by first | exact Int.le_refl 0 | omega) (by first | exact zlt hc40 | omega) sl_40_0 rfl rfl hl.1 rfl (Nat.le_of_ble_eq_true rfl) dX9_row_77 ⟨Nat.le_of_ble_eq_true rfl, Nat.le_of_ble_eq_true rfl⟩) hS (fun z32 u33 H locs p34 hw hS => ?_)
              obtain ⟨X35, eu33, hRX35, hG36, hMIX35, p34, hnwX35⟩ := p34
              subst eu33
              have hFX35 : Frm [4001, 6400, 6500, 6700, 6800, 6600, 4023, 5600, 6000, 5700, 5800, 5900] X X35 := Frm.tr hFX1 (Frm.mono hG36 (by first | exact nls_of rfl | decide))
              refine x_i2l hx hb (by omega) dX9_row_80 ?_
              have e37 : ∀ j : Int, X35 55 0 j = X 55 0 j := fun j => by rw [hG36 55 0 j (show 5500 ∉ [6000, 5700, 5800, 5900] by first | exact nlm_ni rfl | decide), hX1, u3_k _ _ _ _ (by first | exact Nat.ne_of_beq_eq_false rfl | decide)]
              have e38 : ∀ j : Int, X35 44 0 j = X 44 0 j := fun j => by rw [hG36 44 0 j (show 4400 ∉ [6000, 5700, 5800, 5900] by first | exact nlm_ni rfl | decide), hX1, u3_k _ _ _ _ (by first | exact Nat.ne_of_beq_eq_false rfl | decide)]
              have e39 : ∀ j : Int, X35 46 0 j = X 46 0 j := fun j => by rw [hG36 46 0 j (show 4600 ∉ [6000, 5700, 5800, 5900] by first | exact nlm_ni rfl | decide), hX1, u3_k _ _ _ _ (by first | exact Nat.ne_of_beq_eq_false rfl | decide)]
              have e40 : X35 40 0 13 = X 40 0 13 := by rw [hG36 40 0 13 (show 4014 ∉ [6000, 5700, 5800, 5900] by first | exact nlm_ni rfl | decide), hX1, u3_j _ _ _ _ (by decide)]
              have e41 : X35 40 0 20 = X 40 0 20 := by rw [hG36 40 0 20 (show 4021 ∉ [6000, 5700, 5800, 5900] by first | exact nlm_ni rfl | decide), hX1, u3_j _ _ _ _ (by decide)]
              have e42 : X35 40 0 22 = X 40 0 22 := by rw [hG36 40 0 22 (show 4023 ∉ [6000, 5700, 5800, 5900] by first | exact nlm_ni rfl | decide), hX1, u3_j _ _ _ _ (by decide)]
              refine gos_v (run_V (As := [.int (jI x), .int (jI k), .long (jL z32)]) (rest := []) hx hb hml hown hts (c_X9_becomes l D tc base ad cnt X35 Y ln hRX35 hFx hMIX35 x k z32 (by omega) (by omega) (by omega) (by simp only [e37, e38, e39, e40, e41, e42]; omega) (by simp only [e37, e38, e39, e40, e41, e42]; omega) (by unfold tyv; simp only [e37, e38, e39, e40, e41, e42]; exact ⟨fun _ => by omega, fun _ => by omega, fun _ => by omega⟩) (by simp only [e37, e38, e39, e40, e41, e42]; (try simp only [Hid] at *); omega)) (cwV 3 hts gX9_row_X9_becomes rfl rfl rfl (by first | exact hd_X9_becomes | decide +kernel) ⟨Nat.le_of_ble_eq_true rfl, Nat.le_of_ble_eq_true rfl⟩) hK hw (by first | exact Int.le_refl 0 | omega) (by first | exact zlt hc40 | omega) sl_40_0 rfl rfl hl.1 rfl (Nat.le_of_ble_eq_true rfl) dX9_row_81 ⟨Nat.le_of_ble_eq_true rfl, Nat.le_of_ble_eq_true rfl⟩) hS (fun u44 H locs p45 hw hS => ?_)
              obtain ⟨X46, eu44, hRX46, hG47, hMIX46, p45, hbnX46, hbvX46, hboX46⟩ := p45
              subst eu44
              have hFX46 : Frm [4001, 6400, 6500, 6700, 6800, 6600, 4023, 5600, 6000, 5700, 5800, 5900] X X46 := Frm.tr hFX35 (Frm.mono hG47 (by first | exact nls_of rfl | decide))
              refine lv_iconst (v := jI 1) hx hb dX9_row_84 rfl ?_
              rw [hQ9]
              refine ret_i (mc := 0) (ms := 0) hx hb hr hlocks hw hS (by first | exact Nat.le_of_ble_eq_true rfl | omega) (by first | exact Nat.le_of_ble_eq_true rfl | omega) dX9_row_85 ?_
              have q48 : Frm [4001, 5700, 5800, 5900, 6000] X X1 := by rw [hX1]; exact Frm.set Frm.rf (show 4001 ∈ [4001, 5700, 5800, 5900, 6000] by first | exact nlm_in rfl | decide)
              have q49 : Frm [4001, 5700, 5800, 5900, 6000] X X35 := Frm.tr q48 (Frm.mono hG36 (by first | exact nls_of rfl | decide))
              have e50 : ∀ j : Int, X35 46 0 j = X 46 0 j := fun j => by rw [hG36 46 0 j (show 4600 ∉ [6000, 5700, 5800, 5900] by first | exact nlm_ni rfl | decide), hX1, u3_k _ _ _ _ (by first | exact Nat.ne_of_beq_eq_false rfl | decide)]
              have e51 : ∀ j : Int, X35 55 0 j = X 55 0 j := fun j => by rw [hG36 55 0 j (show 5500 ∉ [6000, 5700, 5800, 5900] by first | exact nlm_ni rfl | decide), hX1, u3_k _ _ _ _ (by first | exact Nat.ne_of_beq_eq_false rfl | decide)]
              have e52 : ∀ j : Int, X35 56 0 j = X 56 0 j := fun j => by rw [hG36 56 0 j (show 5600 ∉ [6000, 5700, 5800, 5900] by first | exact nlm_ni rfl | decide), hX1, u3_k _ _ _ _ (by first | exact Nat.ne_of_beq_eq_false rfl | decide)]
              have q53 : Frm [4001] X X1 := by rw [hX1]; exact Frm.set Frm.rf (show 4001 ∈ [4001] by first | exact nlm_in rfl | decide)
              refine ⟨X46, rfl, hRX46, hFX46, hMIX46, ?g9p265, ?g9p266, ?g9p267, ?g9p268⟩
              case g9p265 => omega
              case g9p266 => (try delta Hid at *); exact Or.inr (Or.inr (Or.inr (Or.inr (Or.inr (⟨(by omega), by omega, by omega, by omega, (by omega), by omega⟩)))))
              case g9p267 => exact fun q => (by exfalso; omega)
              case g9p268 => exact fun _ => (by simp only [e50, e51, e52] at hbnX46 hboX46; exact ⟨z32, ⟨eNoteM.from (M := [4001, 5700, 5800, 5900, 6000]) hbnX46 q49 (by decide), hbvX46, hboX46⟩, Or.inr ⟨by omega, by omega, by omega, nwM.to (nwM.from (L := [4001]) (by first | exact hnwX35 | (rw [show (X 46 0 (5 * X 55 0 x + k) : Int) = z25 by omega]; exact hnwX35) | (have h9 := hnwX35; rw [show (z25 : Int) = X 46 0 (5 * X 55 0 x + k) by omega] at h9; exact h9)) q53 (by decide)) (Frm.arr hG47 57 (by decide +kernel) (by decide)) (Frm.arr hG47 58 (by decide +kernel) (by decide)) (Frm.arr hG47 59 (by decide +kernel) (by decide))⟩⟩)
            · refine lv_ldc2 (v := jL (-1)) hx hb hown (hts (.constantLong RX9 168 (-1)) (by first | exact gj_X9_row_0 _ (gp_1 gp_h) | decide +kernel)) dX9_row_63 ?_
              refine lv_goto (tgt := 81) hx hb dX9_row_66 (by decide) ?_
              have q55 : Frm [4001] X X1 := by rw [hX1]; exact Frm.set Frm.rf (show 4001 ∈ [4001] by first | exact nlm_in rfl | decide)
              have hMq54 : MInv X1 := minv_frm hMI q55 (by decide)
              have e56 : ∀ j : Int, X1 55 0 j = X 55 0 j := fun j => by rw [hX1, u3_k _ _ _ _ (by first | exact Nat.ne_of_beq_eq_false rfl | decide)]
              have e57 : ∀ j : Int, X1 44 0 j = X 44 0 j := fun j => by rw [hX1, u3_k _ _ _ _ (by first | exact Nat.ne_of_beq_eq_false rfl | decide)]
              have e58 : ∀ j : Int, X1 46 0 j = X 46 0 j := fun j => by rw [hX1, u3_k _ _ _ _ (by first | exact Nat.ne_of_beq_eq_false rfl | decide)]
              have e59 : X1 40 0 13 = X 40 0 13 := by rw [hX1, u3_j _ _ _ _ (by decide)]
              have e60 : X1 40 0 20 = X 40 0 20 := by rw [hX1, u3_j _ _ _ _ (by decide)]
              have e61 : X1 40 0 22 = X 40 0 22 := by rw [hX1, u3_j _ _ _ _ (by decide)]
              refine gos_v (run_V (As := [.int (jI x), .int (jI k), .long (jL (-1))]) (rest := []) hx hb hml hown hts (c_X9_becomes l D tc base ad cnt X1 Y ln hRX1 hFx hMq54 x k (-1) (by omega) (by omega) (by omega) (by simp only [e56, e57, e58, e59, e60, e61]; omega) (by simp only [e56, e57, e58, e59, e60, e61]; omega) (by unfold tyv; simp only [e56, e57, e58, e59, e60, e61]; exact ⟨fun _ => by omega, fun _ => by omega, fun _ => by omega⟩) (by simp only [e56, e57, e58, e59, e60, e61]; (try simp only [Hid] at *); omega)) (cwV 3 hts gX9_row_X9_becomes rfl rfl rfl (by first | exact hd_X9_becomes | decide +kernel) ⟨Nat.le_of_ble_eq_true rfl, Nat.le_of_ble_eq_true rfl⟩) hK hw (by first | exact Int.le_refl 0 | omega) (by first | exact zlt hc40 | omega) sl_40_0 rfl rfl hl.1 rfl (Nat.le_of_ble_eq_true rfl) dX9_row_81 ⟨Nat.le_of_ble_eq_true rfl, Nat.le_of_ble_eq_true rfl⟩) hS (fun u63 H locs p64 hw hS => ?_)
              obtain ⟨X65, eu63, hRX65, hG66, hMIX65, p64, hbnX65, hbvX65, hboX65⟩ := p64
              subst eu63
              have hFX65 : Frm [4001, 6400, 6500, 6700, 6800, 6600, 4023, 5600, 6000, 5700, 5800, 5900] X X65 := Frm.tr hFX1 (Frm.mono hG66 (by first | exact nls_of rfl | decide))
              refine lv_iconst (v := jI 1) hx hb dX9_row_84 rfl ?_
              rw [hQ9]
              refine ret_i (mc := 0) (ms := 0) hx hb hr hlocks hw hS (by first | exact Nat.le_of_ble_eq_true rfl | omega) (by first | exact Nat.le_of_ble_eq_true rfl | omega) dX9_row_85 ?_
              have q67 : Frm [4001] X X1 := by rw [hX1]; exact Frm.set Frm.rf (show 4001 ∈ [4001] by first | exact nlm_in rfl | decide)
              have e68 : ∀ j : Int, X1 46 0 j = X 46 0 j := fun j => by rw [hX1, u3_k _ _ _ _ (by first | exact Nat.ne_of_beq_eq_false rfl | decide)]
              have e69 : ∀ j : Int, X1 55 0 j = X 55 0 j := fun j => by rw [hX1, u3_k _ _ _ _ (by first | exact Nat.ne_of_beq_eq_false rfl | decide)]
              have e70 : ∀ j : Int, X1 56 0 j = X 56 0 j := fun j => by rw [hX1, u3_k _ _ _ _ (by first | exact Nat.ne_of_beq_eq_false rfl | decide)]
              have q71 : Frm [4001, 4023, 5600, 6400, 6500, 6600, 6700, 6800] X X1 := by rw [hX1]; exact Frm.set Frm.rf (show 4001 ∈ [4001, 4023, 5600, 6400, 6500, 6600, 6700, 6800] by first | exact nlm_in rfl | decide)
              have q72 : Frm [4001, 4023, 5600, 6400, 6500, 6600, 6700, 6800] X X65 := Frm.tr q71 (Frm.mono hG66 (by first | exact nls_of rfl | decide))
              refine ⟨X65, rfl, hRX65, hFX65, hMIX65, ?g9p269, ?g9p270, ?g9p271, ?g9p272⟩
              case g9p269 => omega
              case g9p270 => (try delta Hid at *); exact Or.inr (Or.inr (Or.inr (Or.inr (Or.inr (⟨(by omega), by omega, by omega, by omega, (by omega), by omega⟩)))))
              case g9p271 => exact fun q => (by exfalso; omega)
              case g9p272 => exact fun _ => (by simp only [e68, e69, e70] at hbnX65 hboX65; exact ⟨-1, ⟨eNoteM.from (M := [4001]) hbnX65 q67 (by decide), hbvX65, hboX65⟩, Or.inl ⟨by omega, rfl, Frm.arr q72 57 (by decide +kernel) (by decide), Frm.arr q72 58 (by decide +kernel) (by decide), Frm.arr q72 59 (by decide +kernel) (by decide)⟩⟩)
        · refine lv_bipush (v := jI (-13)) hx hb dX9_row_43 (by decide) ?_
          rw [hQ9]
          refine ret_i (mc := 0) (ms := 0) hx hb hr hlocks hw hS (by first | exact Nat.le_of_ble_eq_true rfl | omega) (by first | exact Nat.le_of_ble_eq_true rfl | omega) dX9_row_45 ?_
          have q74 : Frm [4001] X X1 := by rw [hX1]; exact Frm.set Frm.rf (show 4001 ∈ [4001] by first | exact nlm_in rfl | decide)
          have hMq73 : MInv X1 := minv_frm hMI q74 (by decide)
          have q75 : Frm [4001] X X1 := by rw [hX1]; exact Frm.set Frm.rf (show 4001 ∈ [4001] by first | exact nlm_in rfl | decide)
          exact ⟨X1, rfl, hRX1, hFX1, hMq73, by omega, (by (try delta Hid at *); exact Or.inr (Or.inr (Or.inr (Or.inl ⟨(by omega), by omega, by omega, by omega, by omega⟩)))), fun _ => q75, fun q => (by exfalso; omega)⟩
      · refine lv_bipush (v := jI (-14)) hx hb dX9_row_35 (by decide) ?_
        rw [hQ9]
        refine ret_i (mc := 0) (ms := 0) hx hb hr hlocks hw hS (by first | exact Nat.le_of_ble_eq_true rfl | omega) (by first | exact Nat.le_of_ble_eq_true rfl | omega) dX9_row_37 ?_
        have q77 : Frm [4001] X X1 := by rw [hX1]; exact Frm.set Frm.rf (show 4001 ∈ [4001] by first | exact nlm_in rfl | decide)
        have hMq76 : MInv X1 := minv_frm hMI q77 (by decide)
        have q78 : Frm [4001] X X1 := by rw [hX1]; exact Frm.set Frm.rf (show 4001 ∈ [4001] by first | exact nlm_in rfl | decide)
        exact ⟨X1, rfl, hRX1, hFX1, hMq76, by omega, (by (try delta Hid at *); exact Or.inr (Or.inr (Or.inl ⟨(by omega), by omega, by omega, by omega⟩))), fun _ => q78, fun q => (by exfalso; omega)⟩
    · refine lv_bipush (v := jI (-2)) hx hb dX9_row_22 (by decide) ?_
      rw [hQ9]
      refine ret_i (mc := 0) (ms := 0) hx hb hr hlocks hw hS (by first | exact Nat.le_of_ble_eq_true rfl | omega) (by first | exact Nat.le_of_ble_eq_true rfl | omega) dX9_row_24 ?_
      have q80 : Frm [4001] X X1 := by rw [hX1]; exact Frm.set Frm.rf (show 4001 ∈ [4001] by first | exact nlm_in rfl | decide)
      have hMq79 : MInv X1 := minv_frm hMI q80 (by decide)
      have q81 : Frm [4001] X X1 := by rw [hX1]; exact Frm.set Frm.rf (show 4001 ∈ [4001] by first | exact nlm_in rfl | decide)
      exact ⟨X1, rfl, hRX1, hFX1, hMq79, by omega, (by (try delta Hid at *); exact Or.inr (Or.inl ⟨(by omega), by omega, by omega⟩)), fun _ => q81, fun q => (by exfalso; omega)⟩
  · subst ez2
    refine x_if_neF (tgt := 16) hx hb (by omega) (by decide) dX9_row_11 (by decide) ?_
    refine lv_iconst (v := jI (-1)) hx hb dX9_row_14 rfl ?_
    rw [hQ9]
    refine ret_i (mc := 0) (ms := 0) hx hb hr hlocks hw hS (by first | exact Nat.le_of_ble_eq_true rfl | omega) (by first | exact Nat.le_of_ble_eq_true rfl | omega) dX9_row_15 ?_
    have q83 : Frm [4001] X X1 := by rw [hX1]; exact Frm.set Frm.rf (show 4001 ∈ [4001] by first | exact nlm_in rfl | decide)
    have hMq82 : MInv X1 := minv_frm hMI q83 (by decide)
    have q84 : Frm [4001] X X1 := by rw [hX1]; exact Frm.set Frm.rf (show 4001 ∈ [4001] by first | exact nlm_in rfl | decide)
    exact ⟨X1, rfl, hRX1, hFX1, hMq82, by omega, (by (try delta Hid at *); exact Or.inl ⟨(fun q => by omega), by omega⟩), fun _ => q84, fun q => (by exfalso; omega)⟩

