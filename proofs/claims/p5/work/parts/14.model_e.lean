set_option maxHeartbeats 4000000 in
set_option maxRecDepth 100000 in
theorem c_X9_recordOf (l : Launch) (D : va_G) (tc : Nat → ClassId) (base : Nat) (ad : Nat → Int → Nat) (cnt : Nat → Int) (X : Nat → Int → Int → Int) (Y : Nat → Int → Int → Option Int) (ln : Int → Int) (hR : Rng X) (hFx : Fx cnt) (hMI : MInv X) (x : Int) (hx0 : 0 ≤ x ∧ x ≤ 29) (hxt : x < X 40 0 13) (hO : ordOK X) : KI l D tc base yX9_recordOf wsX9_recordOf ({ frames := 0, cells := 0, slots := 0, locals := 0 } : Room) [.ref (ad 40 0), .int (jI 4), .int (jI x)] (ad, cnt, X, Y, ln) 0 0 (fun z u => ∃ X1 : Nat → Int → Int → Int, u = (ad, cnt, X1, Y, ln) ∧ Rng X1 ∧ Frm [8000, 7000] X X1 ∧ MInv X1 ∧ (0 ≤ z ∧ z < X1 70 0 4 ∧ X1 70 0 4 ≤ 30) ∧ S4 X X1 ∧ ordOK X1 ∧ X 70 0 4 ≤ X1 70 0 4) := by
  refine K_of (cc := cX9_recordOf) (maxL := 4) (ret := (some .int)) (by decide) rfl (Nat.le_of_ble_eq_true rfl) ?_
  intro p e s m below meth c ls hx hb hr hml hown hts hlocks hl hK hw hS
  have hown : s.vm.findClass RX9 = some m.cls := hown
  have hi9 : ∀ w ∈ wsX90, w ∈ wsX9_recordOf := fun w h => List.mem_cons_of_mem _ (List.mem_append_right _ h)
  have hf9 : fctx s m _ RX9 wsX9_recordOf D tc RX9 TX9 51 9 := ⟨hts, hi9, hown, hK.1, rfl⟩
  have lk81 := hts (.fieldLink RX9 81 "StateRecordsModel" "sMany" "[I") (by decide +kernel)
  have lk111 := hts (.fieldLink RX9 111 "StateRecordsModel" "order" "[I") (by decide +kernel)
  have hc40 : cnt 40 = 1 := hFx.at 40 1 (by decide)
  have hc70 : cnt 70 = 1 := hFx.at 70 1 (by decide)
  have hc80 : cnt 80 = 1 := hFx.at 80 1 (by decide)
  have hl : lv_has ls 4 [(0, .ref (ad 40 0)), (1, .int (jI 4)), (2, .int (jI x))] := hl
  have fstypes : 0 ≤ X 40 0 2 ∧ X 40 0 2 ≤ 8 := hR 40 0 2
  have fsthings : 0 ≤ X 40 0 13 ∧ X 40 0 13 ≤ 30 := hR 40 0 13
  have fsmarks : 0 ≤ X 40 0 20 ∧ X 40 0 20 ≤ 4 := hR 40 0 20
  have fsnotes : 0 ≤ X 40 0 22 ∧ X 40 0 22 ≤ 80 := hR 40 0 22
  refine lv_iconst (v := jI 0) hx hb dX9_recordOf_0 rfl ?_
  refine lv_istore_n (lv' := [(3, .int (jI 0)), (0, .ref (ad 40 0)), (1, .int (jI 4)), (2, .int (jI x))]) hx hb dX9_recordOf_1 rfl hl (by decide) rfl (fun ls hl => ?_)
  have lp2 : ∀ (nn : Nat) (r : Int) (H : Heap) (locs : List Loc) (ls : Array Slot), (30 - r) < (nn : Int) → (0 ≤ r ∧ r ≤ 30) → (∀ j, 0 ≤ j → j < r → X 80 0 j ≠ x) → wd D tc base (ad, cnt, X, Y, ln) H → va_S (frA base) s.heap H locs → lv_has ls 4 [(0, .ref (ad 40 0)), (1, .int (jI 4)), (2, .int (jI x)), (3, .int (jI r))] → W p l e ({ frames := 0, cells := 0, slots := 0, locals := 0 } : Room) s m ([.ref (ad 40 0), .int (jI 4), .int (jI x)] : List Value).toArray below meth c H locs 0 0 (MQ below (QI D tc base (fun z u => ∃ X1 : Nat → Int → Int → Int, u = (ad, cnt, X1, Y, ln) ∧ Rng X1 ∧ Frm [8000, 7000] X X1 ∧ MInv X1 ∧ (0 ≤ z ∧ z < X1 70 0 4 ∧ X1 70 0 4 ≤ 30) ∧ S4 X X1 ∧ ordOK X1 ∧ X 70 0 4 ≤ X1 70 0 4)) ([.ref (ad 40 0), .int (jI 4), .int (jI x)] : List Value).toArray s 0 0 (frA base)) (F0 m 2 ls []) := by
    intro nn
    induction nn with
    | zero => intro r H locs ls hm hr0 hne hw hS hl; exfalso; omega
    | succ nn ih2 =>
      intro r H locs ls hm hr0 hne hw hS hl
      refine lv_iload_n hx hb dX9_recordOf_2 rfl (lv_at hl 3 rfl) ?_
      refine lv_aload_n hx hb dX9_recordOf_3 rfl (lv_at hl 0 rfl) ?_
      refine x_geto hx hb hf9 hw (by omega) (by omega) sl_40_29 lk81 dX9_recordOf_4 ?_
      refine lv_iload_n hx hb dX9_recordOf_7 rfl (lv_at hl 1 rfl) ?_
      refine x_iald hx hb hK.1 hw (by omega) (by omega) ar_70 (len_E ar_70 (by decide)) (by omega) (by omega) (by omega) dX9_recordOf_8 ?_
      have f1 : 0 ≤ X 70 0 4 ∧ X 70 0 4 ≤ 30 := hR 70 0 4
      refine x_icmp_ge (tgt := 30) hx hb (by omega) (by omega) dX9_recordOf_9 (by decide) (fun c2 => ?_) (fun c2 => ?_)
      · have hO30 := hO.room hR (by omega) hxt (fun j a b => hne j a (by omega))
        refine lv_aload_n hx hb dX9_recordOf_30 rfl (lv_at hl 0 rfl) ?_
        refine x_geto hx hb hf9 hw (by omega) (by omega) sl_40_39 lk111 dX9_recordOf_31 ?_
        refine lv_aload_n hx hb dX9_recordOf_34 rfl (lv_at hl 0 rfl) ?_
        refine x_geto hx hb hf9 hw (by omega) (by omega) sl_40_29 lk81 dX9_recordOf_35 ?_
        refine lv_iload_n hx hb dX9_recordOf_38 rfl (lv_at hl 1 rfl) ?_
        refine x_iald hx hb hK.1 hw (by omega) (by omega) ar_70 (len_E ar_70 (by decide)) (by omega) (by omega) (by omega) dX9_recordOf_39 ?_
        have f3 : 0 ≤ X 70 0 4 ∧ X 70 0 4 ≤ 30 := hR 70 0 4
        refine lv_iload_n hx hb dX9_recordOf_40 rfl (lv_at hl 2 rfl) ?_
        refine x_iast hx hb hK.1 hw hS (by omega) (by omega) ar_80 (len_E ar_80 (by decide)) (by omega) (by omega) (by omega) dX9_recordOf_41 (fun H locs hw hS => ?_)
        obtain ⟨X4, hX4⟩ : ∃ Xq, Xq = u3 X 80 0 (X 70 0 4) x := ⟨_, rfl⟩
        rw [← hX4] at hw
        have hRX4 : Rng X4 := by rw [hX4]; exact rng_set hR (show 0 ≤ x ∧ x ≤ 29 by omega)
        have hVX4 : X4 80 0 (X 70 0 4) = x := by rw [hX4]; exact u3_s _ _ _ _ _
        have hFX4 : Frm [8000, 7000] X X4 := by rw [hX4]; exact Frm.set Frm.rf (show 8000 ∈ [8000, 7000] by decide)
        refine lv_aload_n hx hb dX9_recordOf_42 rfl (lv_at hl 0 rfl) ?_
        refine x_geto hx hb hf9 hw (by omega) (by omega) sl_40_29 lk81 dX9_recordOf_43 ?_
        refine lv_iload_n hx hb dX9_recordOf_46 rfl (lv_at hl 1 rfl) ?_
        refine lv_dup2_11 hx hb dX9_recordOf_47 rfl rfl ?_
        refine x_iald hx hb hK.1 hw (by omega) (by omega) ar_70 (len_E ar_70 (by decide)) (by omega) (by omega) (by omega) dX9_recordOf_48 ?_
        have e5 : ∀ p9 q9 : Int, X4 70 p9 q9 = X 70 p9 q9 := fun p9 q9 => by rw [hX4, u3_k _ _ _ _ (by decide)]
        rw [e5 0 4]
        have f6 : 0 ≤ X 70 0 4 ∧ X 70 0 4 ≤ 30 := hR 70 0 4
        refine lv_iconst (v := jI 1) hx hb dX9_recordOf_49 rfl ?_
        refine x_iadd hx hb dX9_recordOf_50 ?_
        refine x_iast hx hb hK.1 hw hS (by omega) (by omega) ar_70 (len_E ar_70 (by decide)) (by omega) (by omega) (by omega) dX9_recordOf_51 (fun H locs hw hS => ?_)
        obtain ⟨X7, hX7⟩ : ∃ Xq, Xq = u3 X4 70 0 4 ((X 70 0 4) + 1) := ⟨_, rfl⟩
        rw [← hX7] at hw
        have hRX7 : Rng X7 := by rw [hX7]; exact rng_set hRX4 (show 0 ≤ ((X 70 0 4) + 1) ∧ ((X 70 0 4) + 1) ≤ 30 by omega)
        have hVX7 : X7 70 0 4 = ((X 70 0 4) + 1) := by rw [hX7]; exact u3_s _ _ _ _ _
        have hFX7 : Frm [8000, 7000] X X7 := by rw [hX7]; exact Frm.set hFX4 (show 7000 ∈ [8000, 7000] by decide)
        refine lv_aload_n hx hb dX9_recordOf_52 rfl (lv_at hl 0 rfl) ?_
        refine x_geto hx hb hf9 hw (by omega) (by omega) sl_40_29 lk81 dX9_recordOf_53 ?_
        refine lv_iload_n hx hb dX9_recordOf_56 rfl (lv_at hl 1 rfl) ?_
        refine x_iald hx hb hK.1 hw (by omega) (by omega) ar_70 (len_E ar_70 (by decide)) (by omega) (by omega) (by omega) dX9_recordOf_57 ?_
        rw [hVX7]
        refine lv_iconst (v := jI 1) hx hb dX9_recordOf_58 rfl ?_
        refine x_isub hx hb dX9_recordOf_59 ?_
        refine ret_i (mc := 0) (ms := 0) hx hb hr hlocks hw hS (by omega) (by omega) dX9_recordOf_60 ?_
        have q8 : S4 X X4 := by rw [hX4]; exact S4.set S4.rf ⟨by omega, by omega, by omega, by omega, by omega⟩
        have q9 : S4 X X7 := by rw [hX7]; exact S4.set q8 ⟨by omega, by omega, by omega, by omega, by omega⟩
        have q10 : S4 X X4 := by rw [hX4]; exact S4.set S4.rf ⟨by omega, by omega, by omega, by omega, by omega⟩
        have q11 : S4 X X7 := by rw [hX7]; exact S4.set q10 ⟨by omega, by omega, by omega, by omega, by omega⟩
        exact ⟨X7, rfl, hRX7, hFX7, minv_s4 hMI hRX7 hFX7 q9 (by decide), by omega, q11, ordOK.push hO hxt (fun j a b => hne j a (by omega)) hX4 hX7, (by rw [hX7, u3_s]; omega)⟩
      · refine lv_aload_n hx hb dX9_recordOf_12 rfl (lv_at hl 0 rfl) ?_
        refine x_geto hx hb hf9 hw (by omega) (by omega) sl_40_39 lk111 dX9_recordOf_13 ?_
        refine lv_iload_n hx hb dX9_recordOf_16 rfl (lv_at hl 3 rfl) ?_
        refine x_iald hx hb hK.1 hw (by omega) (by omega) ar_80 (len_E ar_80 (by decide)) (by omega) (by omega) (by omega) dX9_recordOf_17 ?_
        have f12 : 0 ≤ X 80 0 r ∧ X 80 0 r ≤ 29 := hR 80 0 r
        refine lv_iload_n hx hb dX9_recordOf_18 rfl (lv_at hl 2 rfl) ?_
        refine x_icmp_ne (tgt := 24) hx hb (by omega) (by omega) dX9_recordOf_19 (by decide) (fun c13 => ?_) (fun c13 => ?_)
        · refine lv_iinc (v := jI (r + 1)) (lv' := [(3, .int (jI (r + 1))), (0, .ref (ad 40 0)), (1, .int (jI 4)), (2, .int (jI x))]) hx hb dX9_recordOf_24 hl (k := 3) rfl (jI_add _ _) (by decide) rfl (fun ls hl => ?_)
          refine lv_goto (tgt := 2) hx hb dX9_recordOf_27 (by decide) ?_
          exact ih2 (r + 1) _ _ _ (by omega) (by omega) (fun j a b => if hj : j = r then (by rw [hj]; omega) else hne j a (by omega)) hw hS (lv_sub hl [1, 2, 3, 0] rfl)
        · refine lv_iload_n hx hb dX9_recordOf_22 rfl (lv_at hl 3 rfl) ?_
          refine ret_i (mc := 0) (ms := 0) hx hb hr hlocks hw hS (by omega) (by omega) dX9_recordOf_23 ?_
          exact ⟨X, rfl, hR, Frm.rf, hMI, by omega, S4.rf, hO, Int.le_refl _⟩
  exact lp2 (30 - 0 : Int).toNat.succ 0 _ _ _ (by omega) (by omega) (fun j a b => by omega) hw hS (lv_sub hl [1, 2, 3, 0] rfl)

set_option maxHeartbeats 4000000 in
set_option maxRecDepth 100000 in
theorem c_X9_rowOf (l : Launch) (D : va_G) (tc : Nat → ClassId) (base : Nat) (ad : Nat → Int → Nat) (cnt : Nat → Int) (X : Nat → Int → Int → Int) (Y : Nat → Int → Int → Option Int) (ln : Int → Int) (hR : Rng X) (hFx : Fx cnt) (hMI : MInv X) (row : Int) (hrow : 0 ≤ row ∧ row ≤ 399) (hsr : X 76 0 4 ≤ 149) : KI l D tc base yX9_rowOf wsX9_rowOf ({ frames := 0, cells := 0, slots := 0, locals := 0 } : Room) [.ref (ad 40 0), .int (jI 4), .int (jI row)] (ad, cnt, X, Y, ln) 0 0 (fun z u => ∃ X1 : Nat → Int → Int → Int, u = (ad, cnt, X1, Y, ln) ∧ Rng X1 ∧ Frm [8100, 7700, 7800, 7900, 7600] X X1 ∧ MInv X1 ∧ (0 ≤ z ∧ z ≤ 149) ∧ X1 76 0 4 ≤ X 76 0 4 + 1) := by
  refine K_of (cc := cX9_rowOf) (maxL := 5) (ret := (some .int)) (by decide) rfl (Nat.le_of_ble_eq_true rfl) ?_
  intro p e s m below meth c ls hx hb hr hml hown hts hlocks hl hK hw hS
  have hown : s.vm.findClass RX9 = some m.cls := hown
  have hi9 : ∀ w ∈ wsX90, w ∈ wsX9_rowOf := fun w h => List.mem_cons_of_mem _ (List.mem_append_right _ h)
  have hf9 : fctx s m _ RX9 wsX9_rowOf D tc RX9 TX9 51 9 := ⟨hts, hi9, hown, hK.1, rfl⟩
  have lk51 := hts (.fieldLink RX9 51 "StateRecordsModel" "rLane" "[I") (by decide +kernel)
  have lk54 := hts (.fieldLink RX9 54 "StateRecordsModel" "rMany" "[I") (by decide +kernel)
  have lk57 := hts (.fieldLink RX9 57 "StateRecordsModel" "rItems" "[J") (by decide +kernel)
  have lk99 := hts (.fieldLink RX9 99 "StateRecordsModel" "sRows" "[I") (by decide +kernel)
  have lk102 := hts (.fieldLink RX9 102 "StateRecordsModel" "sRowLane" "[I") (by decide +kernel)
  have lk105 := hts (.fieldLink RX9 105 "StateRecordsModel" "sRowMany" "[I") (by decide +kernel)
  have lk108 := hts (.fieldLink RX9 108 "StateRecordsModel" "sRowItems" "[J") (by decide +kernel)
  have lk114 := hts (.fieldLink RX9 114 "StateRecordsModel" "rowOrder" "[I") (by decide +kernel)
  have hc40 : cnt 40 = 1 := hFx.at 40 1 (by decide)
  have hc57 : cnt 57 = 1 := hFx.at 57 1 (by decide)
  have hc58 : cnt 58 = 1 := hFx.at 58 1 (by decide)
  have hc59 : cnt 59 = 1 := hFx.at 59 1 (by decide)
  have hc76 : cnt 76 = 1 := hFx.at 76 1 (by decide)
  have hc77 : cnt 77 = 1 := hFx.at 77 1 (by decide)
  have hc78 : cnt 78 = 1 := hFx.at 78 1 (by decide)
  have hc79 : cnt 79 = 1 := hFx.at 79 1 (by decide)
  have hc81 : cnt 81 = 1 := hFx.at 81 1 (by decide)
  have hl : lv_has ls 5 [(0, .ref (ad 40 0)), (1, .int (jI 4)), (2, .int (jI row))] := hl
  have fstypes : 0 ≤ X 40 0 2 ∧ X 40 0 2 ≤ 8 := hR 40 0 2
  have fsthings : 0 ≤ X 40 0 13 ∧ X 40 0 13 ≤ 30 := hR 40 0 13
  have fsmarks : 0 ≤ X 40 0 20 ∧ X 40 0 20 ≤ 4 := hR 40 0 20
  have fsnotes : 0 ≤ X 40 0 22 ∧ X 40 0 22 ≤ 80 := hR 40 0 22
  refine lv_iconst (v := jI 0) hx hb dX9_rowOf_0 rfl ?_
  refine lv_istore_n (lv' := [(3, .int (jI 0)), (0, .ref (ad 40 0)), (1, .int (jI 4)), (2, .int (jI row))]) hx hb dX9_rowOf_1 rfl hl (by decide) rfl (fun ls hl => ?_)
  have lp2 : ∀ (nn : Nat) (r : Int) (H : Heap) (locs : List Loc) (ls : Array Slot), (150 - r) < (nn : Int) → (0 ≤ r ∧ r ≤ 150) → wd D tc base (ad, cnt, X, Y, ln) H → va_S (frA base) s.heap H locs → lv_has ls 5 [(0, .ref (ad 40 0)), (1, .int (jI 4)), (2, .int (jI row)), (3, .int (jI r))] → W p l e ({ frames := 0, cells := 0, slots := 0, locals := 0 } : Room) s m ([.ref (ad 40 0), .int (jI 4), .int (jI row)] : List Value).toArray below meth c H locs 0 0 (MQ below (QI D tc base (fun z u => ∃ X1 : Nat → Int → Int → Int, u = (ad, cnt, X1, Y, ln) ∧ Rng X1 ∧ Frm [8100, 7700, 7800, 7900, 7600] X X1 ∧ MInv X1 ∧ (0 ≤ z ∧ z ≤ 149) ∧ X1 76 0 4 ≤ X 76 0 4 + 1)) ([.ref (ad 40 0), .int (jI 4), .int (jI row)] : List Value).toArray s 0 0 (frA base)) (F0 m 2 ls []) := by
    intro nn
    induction nn with
    | zero => intro r H locs ls hm hr0 hw hS hl; exfalso; omega
    | succ nn ih2 =>
      intro r H locs ls hm hr0 hw hS hl
      refine lv_iload_n hx hb dX9_rowOf_2 rfl (lv_at hl 3 rfl) ?_
      refine lv_aload_n hx hb dX9_rowOf_3 rfl (lv_at hl 0 rfl) ?_
      refine x_geto hx hb hf9 hw (by omega) (by omega) sl_40_35 lk99 dX9_rowOf_4 ?_
      refine lv_iload_n hx hb dX9_rowOf_7 rfl (lv_at hl 1 rfl) ?_
      refine x_iald hx hb hK.1 hw (by omega) (by omega) ar_76 (len_E ar_76 (by decide)) (by omega) (by omega) (by omega) dX9_rowOf_8 ?_
      have f1 : 0 ≤ X 76 0 4 ∧ X 76 0 4 ≤ 150 := hR 76 0 4
      refine x_icmp_ge (tgt := 30) hx hb (by omega) (by omega) dX9_rowOf_9 (by decide) (fun c2 => ?_) (fun c2 => ?_)
      · refine lv_aload_n hx hb dX9_rowOf_30 rfl (lv_at hl 0 rfl) ?_
        refine x_geto hx hb hf9 hw (by omega) (by omega) sl_40_35 lk99 dX9_rowOf_31 ?_
        refine lv_iload_n hx hb dX9_rowOf_34 rfl (lv_at hl 1 rfl) ?_
        refine x_iald hx hb hK.1 hw (by omega) (by omega) ar_76 (len_E ar_76 (by decide)) (by omega) (by omega) (by omega) dX9_rowOf_35 ?_
        have f3 : 0 ≤ X 76 0 4 ∧ X 76 0 4 ≤ 150 := hR 76 0 4
        refine lv_istore_n (lv' := [(3, .int (jI (X 76 0 4))), (0, .ref (ad 40 0)), (1, .int (jI 4)), (2, .int (jI row))]) hx hb dX9_rowOf_36 rfl hl (by decide) rfl (fun ls hl => ?_)
        refine lv_aload_n hx hb dX9_rowOf_37 rfl (lv_at hl 1 rfl) ?_
        refine x_geto hx hb hf9 hw (by omega) (by omega) sl_40_40 lk114 dX9_rowOf_38 ?_
        refine lv_iload_n hx hb dX9_rowOf_41 rfl (lv_at hl 0 rfl) ?_
        refine lv_iload_n hx hb dX9_rowOf_42 rfl (lv_at hl 3 rfl) ?_
        refine x_iast hx hb hK.1 hw hS (by omega) (by omega) ar_81 (len_E ar_81 (by decide)) (by omega) (by omega) (by omega) dX9_rowOf_43 (fun H locs hw hS => ?_)
        obtain ⟨X4, hX4⟩ : ∃ Xq, Xq = u3 X 81 0 (X 76 0 4) row := ⟨_, rfl⟩
        rw [← hX4] at hw
        have hRX4 : Rng X4 := by rw [hX4]; exact rng_set hR (show 0 ≤ row ∧ row ≤ 399 by omega)
        have hVX4 : X4 81 0 (X 76 0 4) = row := by rw [hX4]; exact u3_s _ _ _ _ _
        have hFX4 : Frm [8100, 7700, 7800, 7900, 7600] X X4 := by rw [hX4]; exact Frm.set Frm.rf (show 8100 ∈ [8100, 7700, 7800, 7900, 7600] by decide)
        refine lv_aload_n hx hb dX9_rowOf_44 rfl (lv_at hl 1 rfl) ?_
        refine x_geto hx hb hf9 hw (by omega) (by omega) sl_40_36 lk102 dX9_rowOf_45 ?_
        refine lv_sipush (v := jI 150) hx hb dX9_rowOf_48 (by decide) ?_
        refine lv_iload_n hx hb dX9_rowOf_51 rfl (lv_at hl 2 rfl) ?_
        refine x_imul hx hb dX9_rowOf_52 ?_
        refine lv_iload_n hx hb dX9_rowOf_53 rfl (lv_at hl 0 rfl) ?_
        refine x_iadd hx hb dX9_rowOf_54 ?_
        refine lv_aload_n hx hb dX9_rowOf_55 rfl (lv_at hl 1 rfl) ?_
        refine x_geto hx hb hf9 hw (by omega) (by omega) sl_40_16 lk51 dX9_rowOf_56 ?_
        refine lv_iload_n hx hb dX9_rowOf_59 rfl (lv_at hl 3 rfl) ?_
        refine x_iald hx hb hK.1 hw (by omega) (by omega) ar_57 (len_E ar_57 (by decide)) (by omega) (by omega) (by omega) dX9_rowOf_60 ?_
        have e5 : ∀ p9 q9 : Int, X4 57 p9 q9 = X 57 p9 q9 := fun p9 q9 => by rw [hX4, u3_k _ _ _ _ (by decide)]
        rw [e5 0 row]
        have f6 : 0 ≤ X 57 0 row ∧ X 57 0 row ≤ 5 := hR 57 0 row
        refine x_iast hx hb hK.1 hw hS (by omega) (by omega) ar_77 (len_E ar_77 (by decide)) (by omega) (by omega) (by omega) dX9_rowOf_61 (fun H locs hw hS => ?_)
        obtain ⟨X7, hX7⟩ : ∃ Xq, Xq = u3 X4 77 0 ((150 * 4) + (X 76 0 4)) (X 57 0 row) := ⟨_, rfl⟩
        rw [← hX7] at hw
        have hRX7 : Rng X7 := by rw [hX7]; exact rng_set hRX4 (show 0 ≤ (X 57 0 row) ∧ (X 57 0 row) ≤ 5 by omega)
        have hVX7 : X7 77 0 ((150 * 4) + (X 76 0 4)) = (X 57 0 row) := by rw [hX7]; exact u3_s _ _ _ _ _
        have hFX7 : Frm [8100, 7700, 7800, 7900, 7600] X X7 := by rw [hX7]; exact Frm.set hFX4 (show 7700 ∈ [8100, 7700, 7800, 7900, 7600] by decide)
        refine lv_aload_n hx hb dX9_rowOf_62 rfl (lv_at hl 1 rfl) ?_
        refine x_geto hx hb hf9 hw (by omega) (by omega) sl_40_37 lk105 dX9_rowOf_63 ?_
        refine lv_sipush (v := jI 150) hx hb dX9_rowOf_66 (by decide) ?_
        refine lv_iload_n hx hb dX9_rowOf_69 rfl (lv_at hl 2 rfl) ?_
        refine x_imul hx hb dX9_rowOf_70 ?_
        refine lv_iload_n hx hb dX9_rowOf_71 rfl (lv_at hl 0 rfl) ?_
        refine x_iadd hx hb dX9_rowOf_72 ?_
        refine lv_aload_n hx hb dX9_rowOf_73 rfl (lv_at hl 1 rfl) ?_
        refine x_geto hx hb hf9 hw (by omega) (by omega) sl_40_17 lk54 dX9_rowOf_74 ?_
        refine lv_iload_n hx hb dX9_rowOf_77 rfl (lv_at hl 3 rfl) ?_
        refine x_iald hx hb hK.1 hw (by omega) (by omega) ar_58 (len_E ar_58 (by decide)) (by omega) (by omega) (by omega) dX9_rowOf_78 ?_
        have e8 : ∀ p9 q9 : Int, X7 58 p9 q9 = X 58 p9 q9 := fun p9 q9 => by rw [hX7, u3_k _ _ _ _ (by decide), hX4, u3_k _ _ _ _ (by decide)]
        rw [e8 0 row]
        have f9 : 0 ≤ X 58 0 row ∧ X 58 0 row ≤ 12 := hR 58 0 row
        refine x_iast hx hb hK.1 hw hS (by omega) (by omega) ar_78 (len_E ar_78 (by decide)) (by omega) (by omega) (by omega) dX9_rowOf_79 (fun H locs hw hS => ?_)
        obtain ⟨X10, hX10⟩ : ∃ Xq, Xq = u3 X7 78 0 ((150 * 4) + (X 76 0 4)) (X 58 0 row) := ⟨_, rfl⟩
        rw [← hX10] at hw
        have hRX10 : Rng X10 := by rw [hX10]; exact rng_set hRX7 (show 0 ≤ (X 58 0 row) ∧ (X 58 0 row) ≤ 12 by omega)
        have hVX10 : X10 78 0 ((150 * 4) + (X 76 0 4)) = (X 58 0 row) := by rw [hX10]; exact u3_s _ _ _ _ _
        have hFX10 : Frm [8100, 7700, 7800, 7900, 7600] X X10 := by rw [hX10]; exact Frm.set hFX7 (show 7800 ∈ [8100, 7700, 7800, 7900, 7600] by decide)
        refine lv_iconst (v := jI 0) hx hb dX9_rowOf_80 rfl ?_
        refine lv_istore (lv' := [(4, .int (jI 0)), (3, .int (jI (X 76 0 4))), (0, .ref (ad 40 0)), (1, .int (jI 4)), (2, .int (jI row))]) hx hb dX9_rowOf_81 hl (by decide) rfl (fun ls hl => ?_)
        have lp83 : ∀ (nn : Nat) (k : Int) (Xa : Nat → Int → Int → Int) (H : Heap) (locs : List Loc) (ls : Array Slot), (12 - k) < (nn : Int) → (Rng Xa) → (Frm [7900] X10 Xa) → (0 ≤ k ∧ k ≤ 12) → wd D tc base (ad, cnt, Xa, Y, ln) H → va_S (frA base) s.heap H locs → lv_has ls 5 [(0, .ref (ad 40 0)), (1, .int (jI 4)), (2, .int (jI row)), (3, .int (jI (X 76 0 4))), (4, .int (jI k))] → W p l e ({ frames := 0, cells := 0, slots := 0, locals := 0 } : Room) s m ([.ref (ad 40 0), .int (jI 4), .int (jI row)] : List Value).toArray below meth c H locs 0 0 (MQ below (QI D tc base (fun z u => ∃ X1 : Nat → Int → Int → Int, u = (ad, cnt, X1, Y, ln) ∧ Rng X1 ∧ Frm [8100, 7700, 7800, 7900, 7600] X X1 ∧ MInv X1 ∧ (0 ≤ z ∧ z ≤ 149) ∧ X1 76 0 4 ≤ X 76 0 4 + 1)) ([.ref (ad 40 0), .int (jI 4), .int (jI row)] : List Value).toArray s 0 0 (frA base)) (F0 m 83 ls []) := by
          intro nn
          induction nn with
          | zero => intro k Xa H locs ls hm hRXa hGXa hk hw hS hl; exfalso; omega
          | succ nn ih83 =>
            intro k Xa H locs ls hm hRXa hGXa hk hw hS hl
            have hFXa : Frm [8100, 7700, 7800, 7900, 7600] X Xa := Frm.tr hFX10 (Frm.mono hGXa (by decide))
            refine lv_iload hx hb dX9_rowOf_83 (lv_at hl 4 rfl) ?_
            refine lv_bipush (v := jI 12) hx hb dX9_rowOf_85 (by decide) ?_
            refine x_icmp_ge (tgt := 126) hx hb (by omega) (by omega) dX9_rowOf_87 (by decide) (fun c11 => ?_) (fun c11 => ?_)
            · refine lv_aload_n hx hb dX9_rowOf_126 rfl (lv_at hl 0 rfl) ?_
              refine x_geto hx hb hf9 hw (by omega) (by omega) sl_40_35 lk99 dX9_rowOf_127 ?_
              refine lv_iload_n hx hb dX9_rowOf_130 rfl (lv_at hl 1 rfl) ?_
              refine lv_dup2_11 hx hb dX9_rowOf_131 rfl rfl ?_
              refine x_iald hx hb hK.1 hw (by omega) (by omega) ar_76 (len_E ar_76 (by decide)) (by omega) (by omega) (by omega) dX9_rowOf_132 ?_
              have e12 : ∀ p9 q9 : Int, Xa 76 p9 q9 = X 76 p9 q9 := fun p9 q9 => by rw [hGXa 76 p9 q9 (show 7600 ∉ [7900] by decide), hX10, u3_k _ _ _ _ (by decide), hX7, u3_k _ _ _ _ (by decide), hX4, u3_k _ _ _ _ (by decide)]
              rw [e12 0 4]
              have f13 : 0 ≤ X 76 0 4 ∧ X 76 0 4 ≤ 150 := hR 76 0 4
              refine lv_iconst (v := jI 1) hx hb dX9_rowOf_133 rfl ?_
              refine x_iadd hx hb dX9_rowOf_134 ?_
              refine x_iast hx hb hK.1 hw hS (by omega) (by omega) ar_76 (len_E ar_76 (by decide)) (by omega) (by omega) (by omega) dX9_rowOf_135 (fun H locs hw hS => ?_)
              obtain ⟨X14, hX14⟩ : ∃ Xq, Xq = u3 Xa 76 0 4 ((X 76 0 4) + 1) := ⟨_, rfl⟩
              rw [← hX14] at hw
              have hRX14 : Rng X14 := by rw [hX14]; exact rng_set hRXa (show 0 ≤ ((X 76 0 4) + 1) ∧ ((X 76 0 4) + 1) ≤ 150 by omega)
              have hVX14 : X14 76 0 4 = ((X 76 0 4) + 1) := by rw [hX14]; exact u3_s _ _ _ _ _
              have hFX14 : Frm [8100, 7700, 7800, 7900, 7600] X X14 := by rw [hX14]; exact Frm.set hFXa (show 7600 ∈ [8100, 7700, 7800, 7900, 7600] by decide)
              refine lv_iload_n hx hb dX9_rowOf_136 rfl (lv_at hl 3 rfl) ?_
              refine ret_i (mc := 0) (ms := 0) hx hb hr hlocks hw hS (by omega) (by omega) dX9_rowOf_137 ?_
              have q16 : Frm [7600, 7700, 7800, 7900, 8100] X X4 := by rw [hX4]; exact Frm.set Frm.rf (show 8100 ∈ [7600, 7700, 7800, 7900, 8100] by decide)
              have q17 : Frm [7600, 7700, 7800, 7900, 8100] X X7 := by rw [hX7]; exact Frm.set q16 (show 7700 ∈ [7600, 7700, 7800, 7900, 8100] by decide)
              have q18 : Frm [7600, 7700, 7800, 7900, 8100] X X10 := by rw [hX10]; exact Frm.set q17 (show 7800 ∈ [7600, 7700, 7800, 7900, 8100] by decide)
              have q19 : Frm [7600, 7700, 7800, 7900, 8100] X Xa := Frm.tr q18 (Frm.mono hGXa (by decide))
              have q20 : Frm [7600, 7700, 7800, 7900, 8100] X X14 := by rw [hX14]; exact Frm.set q19 (show 7600 ∈ [7600, 7700, 7800, 7900, 8100] by decide)
              have hMq15 : MInv X14 := minv_frm hMI q20 (by decide)
              exact ⟨X14, rfl, hRX14, hFX14, hMq15, by omega, (by rw [hX14, u3_s]; omega)⟩
            · refine lv_aload_n hx hb dX9_rowOf_90 rfl (lv_at hl 0 rfl) ?_
              refine x_geto hx hb hf9 hw (by omega) (by omega) sl_40_38 lk108 dX9_rowOf_91 ?_
              refine lv_bipush (v := jI 12) hx hb dX9_rowOf_94 (by decide) ?_
              refine lv_sipush (v := jI 150) hx hb dX9_rowOf_96 (by decide) ?_
              refine lv_iload_n hx hb dX9_rowOf_99 rfl (lv_at hl 1 rfl) ?_
              refine x_imul hx hb dX9_rowOf_100 ?_
              refine lv_iload_n hx hb dX9_rowOf_101 rfl (lv_at hl 3 rfl) ?_
              refine x_iadd hx hb dX9_rowOf_102 ?_
              refine x_imul hx hb dX9_rowOf_103 ?_
              refine lv_iload hx hb dX9_rowOf_104 (lv_at hl 4 rfl) ?_
              refine x_iadd hx hb dX9_rowOf_106 ?_
              refine lv_aload_n hx hb dX9_rowOf_107 rfl (lv_at hl 0 rfl) ?_
              refine x_geto hx hb hf9 hw (by omega) (by omega) sl_40_18 lk57 dX9_rowOf_108 ?_
              refine lv_bipush (v := jI 12) hx hb dX9_rowOf_111 (by decide) ?_
              refine lv_iload_n hx hb dX9_rowOf_113 rfl (lv_at hl 2 rfl) ?_
              refine x_imul hx hb dX9_rowOf_114 ?_
              refine lv_iload hx hb dX9_rowOf_115 (lv_at hl 4 rfl) ?_
              refine x_iadd hx hb dX9_rowOf_117 ?_
              refine x_lald hx hb hK.1 hw (by omega) (by omega) ar_59 (len_E ar_59 (by decide)) (by omega) (by omega) (by omega) dX9_rowOf_118 ?_
              have e21 : ∀ p9 q9 : Int, Xa 59 p9 q9 = X 59 p9 q9 := fun p9 q9 => by rw [hGXa 59 p9 q9 (show 5900 ∉ [7900] by decide), hX10, u3_k _ _ _ _ (by decide), hX7, u3_k _ _ _ _ (by decide), hX4, u3_k _ _ _ _ (by decide)]
              rw [e21 0 ((12 * row) + k)]
              have f22 : (-9223372036854775808) ≤ X 59 0 ((12 * row) + k) ∧ X 59 0 ((12 * row) + k) ≤ 9223372036854775807 := hR 59 0 ((12 * row) + k)
              refine x_last hx hb hK.1 hw hS (by omega) (by omega) ar_79 (len_E ar_79 (by decide)) (by omega) (by omega) (by omega) dX9_rowOf_119 (fun H locs hw hS => ?_)
              obtain ⟨X23, hX23⟩ : ∃ Xq, Xq = u3 Xa 79 0 ((12 * ((150 * 4) + (X 76 0 4))) + k) (X 59 0 ((12 * row) + k)) := ⟨_, rfl⟩
              rw [← hX23] at hw
              have hRX23 : Rng X23 := by rw [hX23]; exact rng_set hRXa (show (-9223372036854775808) ≤ (X 59 0 ((12 * row) + k)) ∧ (X 59 0 ((12 * row) + k)) ≤ 9223372036854775807 by omega)
              have hVX23 : X23 79 0 ((12 * ((150 * 4) + (X 76 0 4))) + k) = (X 59 0 ((12 * row) + k)) := by rw [hX23]; exact u3_s _ _ _ _ _
              have hFX23 : Frm [8100, 7700, 7800, 7900, 7600] X X23 := by rw [hX23]; exact Frm.set hFXa (show 7900 ∈ [8100, 7700, 7800, 7900, 7600] by decide)
              refine lv_iinc (v := jI (k + 1)) (lv' := [(4, .int (jI (k + 1))), (0, .ref (ad 40 0)), (1, .int (jI 4)), (2, .int (jI row)), (3, .int (jI (X 76 0 4)))]) hx hb dX9_rowOf_120 hl (k := 4) rfl (jI_add _ _) (by decide) rfl (fun ls hl => ?_)
              refine lv_goto (tgt := 83) hx hb dX9_rowOf_123 (by decide) ?_
              have q24 : Frm [7900] X10 Xa := Frm.tr Frm.rf (Frm.mono hGXa (by decide))
              have q25 : Frm [7900] X10 X23 := by rw [hX23]; exact Frm.set q24 (show 7900 ∈ [7900] by decide)
              exact ih83 (k + 1) X23 _ _ _ (by omega) hRX23 q25 (by omega) hw hS (lv_sub hl [1, 2, 3, 4, 0] rfl)
        exact lp83 (12 - 0 : Int).toNat.succ 0 X10 _ _ _ (by omega) hRX10 Frm.rf (by omega) hw hS (lv_sub hl [2, 3, 4, 1, 0] rfl)
      · refine lv_aload_n hx hb dX9_rowOf_12 rfl (lv_at hl 0 rfl) ?_
        refine x_geto hx hb hf9 hw (by omega) (by omega) sl_40_40 lk114 dX9_rowOf_13 ?_
        refine lv_iload_n hx hb dX9_rowOf_16 rfl (lv_at hl 3 rfl) ?_
        refine x_iald hx hb hK.1 hw (by omega) (by omega) ar_81 (len_E ar_81 (by decide)) (by omega) (by omega) (by omega) dX9_rowOf_17 ?_
        have f26 : 0 ≤ X 81 0 r ∧ X 81 0 r ≤ 399 := hR 81 0 r
        refine lv_iload_n hx hb dX9_rowOf_18 rfl (lv_at hl 2 rfl) ?_
        refine x_icmp_ne (tgt := 24) hx hb (by omega) (by omega) dX9_rowOf_19 (by decide) (fun c27 => ?_) (fun c27 => ?_)
        · refine lv_iinc (v := jI (r + 1)) (lv' := [(3, .int (jI (r + 1))), (0, .ref (ad 40 0)), (1, .int (jI 4)), (2, .int (jI row))]) hx hb dX9_rowOf_24 hl (k := 3) rfl (jI_add _ _) (by decide) rfl (fun ls hl => ?_)
          refine lv_goto (tgt := 2) hx hb dX9_rowOf_27 (by decide) ?_
          exact ih2 (r + 1) _ _ _ (by omega) (by omega) hw hS (lv_sub hl [1, 2, 3, 0] rfl)
        · refine lv_iload_n hx hb dX9_rowOf_22 rfl (lv_at hl 3 rfl) ?_
          refine ret_i (mc := 0) (ms := 0) hx hb hr hlocks hw hS (by omega) (by omega) dX9_rowOf_23 ?_
          exact ⟨X, rfl, hR, Frm.rf, hMI, by omega, by omega⟩
  exact lp2 (150 - 0 : Int).toNat.succ 0 _ _ _ (by omega) (by omega) hw hS (lv_sub hl [1, 2, 3, 0] rfl)

set_option maxHeartbeats 4000000 in
set_option maxRecDepth 100000 in
theorem c_X9_saves (l : Launch) (D : va_G) (tc : Nat → ClassId) (base : Nat) (ad : Nat → Int → Nat) (cnt : Nat → Int) (X : Nat → Int → Int → Int) (Y : Nat → Int → Int → Option Int) (ln : Int → Int) (hR : Rng X) (hFx : Fx cnt) (hMI : MInv X) (x shut : Int) (hx0 : 0 ≤ x ∧ x ≤ 29) (hxt : x < X 40 0 13) (hshut : 0 ≤ shut ∧ shut ≤ 1) : KI l D tc base yX9_saves wsX9_saves ({ frames := 1, cells := 0, slots := 0, locals := 24 } : Room) [.ref (ad 40 0), .int (jI x), .int (jI shut)] (ad, cnt, X, Y, ln) 0 0 (fun z u => ∃ X1 : Nat → Int → Int → Int, u = (ad, cnt, X1, Y, ln) ∧ Rng X1 ∧ Frm [7100, 7200, 7300, 7400, 7500, 8000, 7000, 8100, 7700, 7800, 7900, 7600, 4042, 4043, 4044] X X1 ∧ MInv X1 ∧ (-20 ≤ z ∧ z ≤ 30) ∧ S4 X X1 ∧ (0 ≤ z → z = X1 70 0 4 ∧ cOK X1 z 0)) := by
  refine K_of (cc := cX9_saves) (maxL := 10) (ret := (some .int)) (by decide) rfl (Nat.le_of_ble_eq_true rfl) ?_
  intro p e s m below meth c ls hx hb hr hml hown hts hlocks hl hK hw hS
  have hown : s.vm.findClass RX9 = some m.cls := hown
  have hi9 : ∀ w ∈ wsX90, w ∈ wsX9_saves := fun w h => List.mem_cons_of_mem _ (List.mem_append_right _ h)
  have hf9 : fctx s m _ RX9 wsX9_saves D tc RX9 TX9 51 9 := ⟨hts, hi9, hown, hK.1, rfl⟩
  have lk13 := hts (.fieldLink RX9 13 "StateRecordsModel" "fMany" "[I") (by decide +kernel)
  have lk17 := hts (.fieldLink RX9 17 "StateRecordsModel" "fName" "[I") (by decide +kernel)
  have lk20 := hts (.fieldLink RX9 20 "StateRecordsModel" "fLane" "[I") (by decide +kernel)
  have lk27 := hts (.fieldLink RX9 27 "StateRecordsModel" "fShut" "[Z") (by decide +kernel)
  have lk45 := hts (.fieldLink RX9 45 "StateRecordsModel" "xType" "[I") (by decide +kernel)
  have lk48 := hts (.fieldLink RX9 48 "StateRecordsModel" "xVal" "[J") (by decide +kernel)
  have lk81 := hts (.fieldLink RX9 81 "StateRecordsModel" "sMany" "[I") (by decide +kernel)
  have lk84 := hts (.fieldLink RX9 84 "StateRecordsModel" "sType" "[I") (by decide +kernel)
  have lk87 := hts (.fieldLink RX9 87 "StateRecordsModel" "sFields" "[I") (by decide +kernel)
  have lk90 := hts (.fieldLink RX9 90 "StateRecordsModel" "sName" "[I") (by decide +kernel)
  have lk93 := hts (.fieldLink RX9 93 "StateRecordsModel" "sLane" "[I") (by decide +kernel)
  have lk96 := hts (.fieldLink RX9 96 "StateRecordsModel" "sVal" "[J") (by decide +kernel)
  have lk99 := hts (.fieldLink RX9 99 "StateRecordsModel" "sRows" "[I") (by decide +kernel)
  have lk111 := hts (.fieldLink RX9 111 "StateRecordsModel" "order" "[I") (by decide +kernel)
  have hc40 : cnt 40 = 1 := hFx.at 40 1 (by decide)
  have hc44 : cnt 44 = 1 := hFx.at 44 1 (by decide)
  have hc45 : cnt 45 = 1 := hFx.at 45 1 (by decide)
  have hc46 : cnt 46 = 1 := hFx.at 46 1 (by decide)
  have hc48 : cnt 48 = 1 := hFx.at 48 1 (by decide)
  have hc55 : cnt 55 = 1 := hFx.at 55 1 (by decide)
  have hc56 : cnt 56 = 1 := hFx.at 56 1 (by decide)
  have hc70 : cnt 70 = 1 := hFx.at 70 1 (by decide)
  have hc71 : cnt 71 = 1 := hFx.at 71 1 (by decide)
  have hc72 : cnt 72 = 1 := hFx.at 72 1 (by decide)
  have hc73 : cnt 73 = 1 := hFx.at 73 1 (by decide)
  have hc74 : cnt 74 = 1 := hFx.at 74 1 (by decide)
  have hc75 : cnt 75 = 1 := hFx.at 75 1 (by decide)
  have hc76 : cnt 76 = 1 := hFx.at 76 1 (by decide)
  have hc80 : cnt 80 = 1 := hFx.at 80 1 (by decide)
  have hl : lv_has ls 10 [(0, .ref (ad 40 0)), (1, .int (jI x)), (2, .int (jI shut))] := hl
  have fstypes : 0 ≤ X 40 0 2 ∧ X 40 0 2 ≤ 8 := hR 40 0 2
  have fsthings : 0 ≤ X 40 0 13 ∧ X 40 0 13 ≤ 30 := hR 40 0 13
  have fsmarks : 0 ≤ X 40 0 20 ∧ X 40 0 20 ≤ 4 := hR 40 0 20
  have fsnotes : 0 ≤ X 40 0 22 ∧ X 40 0 22 ≤ 80 := hR 40 0 22
  refine lv_aload_n hx hb dX9_saves_0 rfl (lv_at hl 0 rfl) ?_
  refine x_geto hx hb hf9 hw (by omega) (by omega) sl_40_29 lk81 dX9_saves_1 ?_
  refine lv_iconst (v := jI 4) hx hb dX9_saves_4 rfl ?_
  refine lv_iconst (v := jI 0) hx hb dX9_saves_5 rfl ?_
  refine x_iast hx hb hK.1 hw hS (by omega) (by omega) ar_70 (len_E ar_70 (by decide)) (by omega) (by omega) (by omega) dX9_saves_6 (fun H locs hw hS => ?_)
  obtain ⟨X1, hX1⟩ : ∃ Xq, Xq = u3 X 70 0 4 0 := ⟨_, rfl⟩
  rw [← hX1] at hw
  have hRX1 : Rng X1 := by rw [hX1]; exact rng_set hR (show 0 ≤ 0 ∧ 0 ≤ 30 by omega)
  have hVX1 : X1 70 0 4 = 0 := by rw [hX1]; exact u3_s _ _ _ _ _
  have hFX1 : Frm [7100, 7200, 7300, 7400, 7500, 8000, 7000, 8100, 7700, 7800, 7900, 7600, 4042, 4043, 4044] X X1 := by rw [hX1]; exact Frm.set Frm.rf (show 7000 ∈ [7100, 7200, 7300, 7400, 7500, 8000, 7000, 8100, 7700, 7800, 7900, 7600, 4042, 4043, 4044] by decide)
  refine lv_aload_n hx hb dX9_saves_7 rfl (lv_at hl 0 rfl) ?_
  refine x_geto hx hb hf9 hw (by omega) (by omega) sl_40_35 lk99 dX9_saves_8 ?_
  refine lv_iconst (v := jI 4) hx hb dX9_saves_11 rfl ?_
  refine lv_iconst (v := jI 0) hx hb dX9_saves_12 rfl ?_
  refine x_iast hx hb hK.1 hw hS (by omega) (by omega) ar_76 (len_E ar_76 (by decide)) (by omega) (by omega) (by omega) dX9_saves_13 (fun H locs hw hS => ?_)
  obtain ⟨X2, hX2⟩ : ∃ Xq, Xq = u3 X1 76 0 4 0 := ⟨_, rfl⟩
  rw [← hX2] at hw
  have hRX2 : Rng X2 := by rw [hX2]; exact rng_set hRX1 (show 0 ≤ 0 ∧ 0 ≤ 150 by omega)
  have hVX2 : X2 76 0 4 = 0 := by rw [hX2]; exact u3_s _ _ _ _ _
  have hFX2 : Frm [7100, 7200, 7300, 7400, 7500, 8000, 7000, 8100, 7700, 7800, 7900, 7600, 4042, 4043, 4044] X X2 := by rw [hX2]; exact Frm.set hFX1 (show 7600 ∈ [7100, 7200, 7300, 7400, 7500, 8000, 7000, 8100, 7700, 7800, 7900, 7600, 4042, 4043, 4044] by decide)
  have e3 : X2 70 0 4 = X1 70 0 4 := by rw [hX2, u3_k _ _ _ _ (by decide)]
  have hOn : ordOK X2 := ordOK.nil (by simp only [e3]; omega)
  refine lv_aload_n hx hb dX9_saves_14 rfl (lv_at hl 0 rfl) ?_
  refine lv_iconst (v := jI 4) hx hb dX9_saves_15 rfl ?_
  refine lv_iload_n hx hb dX9_saves_16 rfl (lv_at hl 1 rfl) ?_
  have q4 : S4 X X1 := by rw [hX1]; exact S4.set S4.rf ⟨by omega, by omega, by omega, by omega, by omega⟩
  have q5 : S4 X X2 := by rw [hX2]; exact S4.set q4 ⟨by omega, by omega, by omega, by omega, by omega⟩
  have hMq6 : MInv X2 := minv_s4 hMI hRX2 hFX2 q5 (by decide)
  have e7 : X2 40 0 13 = X 40 0 13 := by rw [hX2, u3_k _ _ _ _ (by decide), hX1, u3_k _ _ _ _ (by decide)]
  refine gos_i (run_V (As := [.int (jI 4), .int (jI x)]) (rest := []) hx hb hml hown hts (c_X9_recordOf l D tc base ad cnt X2 Y ln hRX2 hFx hMq6 x (by omega) (by simp only [e7]; omega) hOn) (cwV 2 hts gX9_saves_X9_recordOf rfl rfl rfl (by decide +kernel) ⟨Nat.le_of_ble_eq_true rfl, Nat.le_of_ble_eq_true rfl⟩) hK hw (by omega) (by omega) sl_40_0 rfl rfl hl.1 rfl (Nat.le_of_ble_eq_true rfl) dX9_saves_17 ⟨Nat.le_of_ble_eq_true rfl, Nat.le_of_ble_eq_true rfl⟩) hS (fun z8 u9 H locs p10 hw hS => ?_)
  have e11 : X2 70 0 4 = X1 70 0 4 := by rw [hX2, u3_k _ _ _ _ (by decide)]
  obtain ⟨X12, eu9, hRX12, hG13, hMIX12, p10, h4X12, hOX12, hleX12⟩ := p10
  subst eu9
  have hFX12 : Frm [7100, 7200, 7300, 7400, 7500, 8000, 7000, 8100, 7700, 7800, 7900, 7600, 4042, 4043, 4044] X X12 := Frm.tr hFX2 (Frm.mono hG13 (by decide))
  simp only [e11] at hleX12
  refine lv_pop hx hb dX9_saves_20 rfl ?_
  refine lv_iconst (v := jI 0) hx hb dX9_saves_21 rfl ?_
  refine lv_istore_n (lv' := [(3, .int (jI 0)), (0, .ref (ad 40 0)), (1, .int (jI x)), (2, .int (jI shut))]) hx hb dX9_saves_22 rfl hl (by decide) rfl (fun ls hl => ?_)
  have lp23 : ∀ (nn : Nat) (r : Int) (Xa : Nat → Int → Int → Int) (H : Heap) (locs : List Loc) (ls : Array Slot), (30 - r) < (nn : Int) → (Rng Xa) → (Frm [7100, 7200, 7300, 7400, 7500, 8000, 7000, 8100, 7700, 7800, 7900, 7600] X12 Xa) → (0 ≤ r ∧ r ≤ 30) → (ordOK Xa) → (S4 X12 Xa) → (Xa 76 0 4 ≤ 5 * r) → (cOK Xa r 0) → wd D tc base (ad, cnt, Xa, Y, ln) H → va_S (frA base) s.heap H locs → lv_has ls 10 [(0, .ref (ad 40 0)), (1, .int (jI x)), (2, .int (jI shut)), (3, .int (jI r))] → W p l e ({ frames := 1, cells := 0, slots := 0, locals := 24 } : Room) s m ([.ref (ad 40 0), .int (jI x), .int (jI shut)] : List Value).toArray below meth c H locs 0 0 (MQ below (QI D tc base (fun z u => ∃ X1 : Nat → Int → Int → Int, u = (ad, cnt, X1, Y, ln) ∧ Rng X1 ∧ Frm [7100, 7200, 7300, 7400, 7500, 8000, 7000, 8100, 7700, 7800, 7900, 7600, 4042, 4043, 4044] X X1 ∧ MInv X1 ∧ (-20 ≤ z ∧ z ≤ 30) ∧ S4 X X1 ∧ (0 ≤ z → z = X1 70 0 4 ∧ cOK X1 z 0))) ([.ref (ad 40 0), .int (jI x), .int (jI shut)] : List Value).toArray s 0 0 (frA base)) (F0 m 23 ls []) := by
    intro nn
    induction nn with
    | zero => intro r Xa H locs ls hm hRXa hGXa hr0 hOa h4Xa hsr hcOa hw hS hl; exfalso; omega
    | succ nn ih23 =>
      intro r Xa H locs ls hm hRXa hGXa hr0 hOa h4Xa hsr hcOa hw hS hl
      have hFXa : Frm [7100, 7200, 7300, 7400, 7500, 8000, 7000, 8100, 7700, 7800, 7900, 7600, 4042, 4043, 4044] X Xa := Frm.tr hFX12 (Frm.mono hGXa (by decide))
      skip
      refine lv_iload_n hx hb dX9_saves_23 rfl (lv_at hl 3 rfl) ?_
      refine lv_aload_n hx hb dX9_saves_24 rfl (lv_at hl 0 rfl) ?_
      refine x_geto hx hb hf9 hw (by omega) (by omega) sl_40_29 lk81 dX9_saves_25 ?_
      refine lv_iconst (v := jI 4) hx hb dX9_saves_28 rfl ?_
      refine x_iald hx hb hK.1 hw (by omega) (by omega) ar_70 (len_E ar_70 (by decide)) (by omega) (by omega) (by omega) dX9_saves_29 ?_
      have f14 : 0 ≤ Xa 70 0 4 ∧ Xa 70 0 4 ≤ 30 := hRXa 70 0 4
      refine x_icmp_ge (tgt := 269) hx hb (by omega) (by omega) dX9_saves_30 (by decide) (fun c15 => ?_) (fun c15 => ?_)
      · refine lv_aload_n hx hb dX9_saves_269 rfl (lv_at hl 0 rfl) ?_
        refine x_geto hx hb hf9 hw (by omega) (by omega) sl_40_29 lk81 dX9_saves_270 ?_
        refine lv_iconst (v := jI 4) hx hb dX9_saves_273 rfl ?_
        refine x_iald hx hb hK.1 hw (by omega) (by omega) ar_70 (len_E ar_70 (by decide)) (by omega) (by omega) (by omega) dX9_saves_274 ?_
        have f16 : 0 ≤ Xa 70 0 4 ∧ Xa 70 0 4 ≤ 30 := hRXa 70 0 4
        refine ret_i (mc := 0) (ms := 0) hx hb hr hlocks hw hS (by omega) (by omega) dX9_saves_275 ?_
        have q17 : S4 X X1 := by rw [hX1]; exact S4.set S4.rf ⟨by omega, by omega, by omega, by omega, by omega⟩
        have q18 : S4 X X2 := by rw [hX2]; exact S4.set q17 ⟨by omega, by omega, by omega, by omega, by omega⟩
        have q19 : S4 X X12 := S4.tr q18 h4X12
        have q20 : S4 X Xa := S4.tr q19 h4Xa
        have q21 : S4 X X1 := by rw [hX1]; exact S4.set S4.rf ⟨by omega, by omega, by omega, by omega, by omega⟩
        have q22 : S4 X X2 := by rw [hX2]; exact S4.set q21 ⟨by omega, by omega, by omega, by omega, by omega⟩
        have q23 : S4 X X12 := S4.tr q22 h4X12
        have q24 : S4 X Xa := S4.tr q23 h4Xa
        exact ⟨Xa, rfl, hRXa, hFXa, minv_s4 hMI hRXa hFXa q20 (by decide), by omega, q24, fun _ => ⟨rfl, hcOa.le (by omega)⟩⟩
      · refine lv_aload_n hx hb dX9_saves_33 rfl (lv_at hl 0 rfl) ?_
        refine x_geto hx hb hf9 hw (by omega) (by omega) sl_40_39 lk111 dX9_saves_34 ?_
        refine lv_iload_n hx hb dX9_saves_37 rfl (lv_at hl 3 rfl) ?_
        refine x_iald hx hb hK.1 hw (by omega) (by omega) ar_80 (len_E ar_80 (by decide)) (by omega) (by omega) (by omega) dX9_saves_38 ?_
        have f25 : 0 ≤ Xa 80 0 r ∧ Xa 80 0 r ≤ 29 := hRXa 80 0 r
        have e26 : Xa 40 0 13 = X 40 0 13 := by rw [hGXa 40 0 13 (show 4014 ∉ [7100, 7200, 7300, 7400, 7500, 8000, 7000, 8100, 7700, 7800, 7900, 7600] by decide), hG13 40 0 13 (show 4014 ∉ [8000, 7000] by decide), hX2, u3_k _ _ _ _ (by decide), hX1, u3_k _ _ _ _ (by decide)]
        have hyr : Xa 80 0 r < X 40 0 13 := by have h9 := hOa.1 r (by omega) (by omega); simp only [e26] at h9; exact h9
        have hyf := hMI.2.2.2.2.2 (Xa 80 0 r) (by have h9 : 0 ≤ Xa 80 0 r ∧ Xa 80 0 r ≤ 29 := hRXa 80 0 r; omega) hyr
        refine lv_istore (lv' := [(4, .int (jI (Xa 80 0 r))), (0, .ref (ad 40 0)), (1, .int (jI x)), (2, .int (jI shut)), (3, .int (jI r))]) hx hb dX9_saves_39 hl (by decide) rfl (fun ls hl => ?_)
        refine lv_aload_n hx hb dX9_saves_41 rfl (lv_at hl 1 rfl) ?_
        refine x_geto hx hb hf9 hw (by omega) (by omega) sl_40_14 lk45 dX9_saves_42 ?_
        refine lv_iload hx hb dX9_saves_45 (lv_at hl 0 rfl) ?_
        refine x_iald hx hb hK.1 hw (by omega) (by omega) ar_55 (len_E ar_55 (by decide)) (by omega) (by omega) (by omega) dX9_saves_47 ?_
        have e27 : ∀ p9 q9 : Int, Xa 55 p9 q9 = X 55 p9 q9 := fun p9 q9 => by rw [hGXa 55 p9 q9 (show 5500 ∉ [7100, 7200, 7300, 7400, 7500, 8000, 7000, 8100, 7700, 7800, 7900, 7600] by decide), hG13 55 p9 q9 (show 5500 ∉ [8000, 7000] by decide), hX2, u3_k _ _ _ _ (by decide), hX1, u3_k _ _ _ _ (by decide)]
        rw [e27 0 (Xa 80 0 r)]
        have f28 : 0 ≤ X 55 0 (Xa 80 0 r) ∧ X 55 0 (Xa 80 0 r) ≤ 7 := hR 55 0 (Xa 80 0 r)
        refine lv_istore (lv' := [(5, .int (jI (X 55 0 (Xa 80 0 r)))), (4, .int (jI (Xa 80 0 r))), (0, .ref (ad 40 0)), (1, .int (jI x)), (2, .int (jI shut)), (3, .int (jI r))]) hx hb dX9_saves_48 hl (by decide) rfl (fun ls hl => ?_)
        refine lv_aload_n hx hb dX9_saves_50 rfl (lv_at hl 2 rfl) ?_
        refine x_geto hx hb hf9 hw (by omega) (by omega) sl_40_30 lk84 dX9_saves_51 ?_
        refine lv_bipush (v := jI 120) hx hb dX9_saves_54 (by decide) ?_
        refine lv_iload_n hx hb dX9_saves_56 rfl (lv_at hl 5 rfl) ?_
        refine x_iadd hx hb dX9_saves_57 ?_
        refine lv_iload hx hb dX9_saves_58 (lv_at hl 0 rfl) ?_
        refine x_iast hx hb hK.1 hw hS (by omega) (by omega) ar_71 (len_E ar_71 (by decide)) (by omega) (by omega) (by omega) dX9_saves_60 (fun H locs hw hS => ?_)
        obtain ⟨X29, hX29⟩ : ∃ Xq, Xq = u3 Xa 71 0 (120 + r) (X 55 0 (Xa 80 0 r)) := ⟨_, rfl⟩
        rw [← hX29] at hw
        have hRX29 : Rng X29 := by rw [hX29]; exact rng_set hRXa (show 0 ≤ (X 55 0 (Xa 80 0 r)) ∧ (X 55 0 (Xa 80 0 r)) ≤ 7 by omega)
        have hVX29 : X29 71 0 (120 + r) = (X 55 0 (Xa 80 0 r)) := by rw [hX29]; exact u3_s _ _ _ _ _
        have hFX29 : Frm [7100, 7200, 7300, 7400, 7500, 8000, 7000, 8100, 7700, 7800, 7900, 7600, 4042, 4043, 4044] X X29 := by rw [hX29]; exact Frm.set hFXa (show 7100 ∈ [7100, 7200, 7300, 7400, 7500, 8000, 7000, 8100, 7700, 7800, 7900, 7600, 4042, 4043, 4044] by decide)
        refine lv_aload_n hx hb dX9_saves_61 rfl (lv_at hl 2 rfl) ?_
        refine x_geto hx hb hf9 hw (by omega) (by omega) sl_40_31 lk87 dX9_saves_62 ?_
        refine lv_bipush (v := jI 120) hx hb dX9_saves_65 (by decide) ?_
        refine lv_iload_n hx hb dX9_saves_67 rfl (lv_at hl 5 rfl) ?_
        refine x_iadd hx hb dX9_saves_68 ?_
        refine lv_aload_n hx hb dX9_saves_69 rfl (lv_at hl 2 rfl) ?_
        refine x_geto hx hb hf9 hw (by omega) (by omega) sl_40_3 lk13 dX9_saves_70 ?_
        refine lv_iload hx hb dX9_saves_73 (lv_at hl 0 rfl) ?_
        refine x_iald hx hb hK.1 hw (by omega) (by omega) ar_44 (len_E ar_44 (by decide)) (by omega) (by omega) (by omega) dX9_saves_75 ?_
        have e30 : ∀ p9 q9 : Int, X29 44 p9 q9 = X 44 p9 q9 := fun p9 q9 => by rw [hX29, u3_k _ _ _ _ (by decide), hGXa 44 p9 q9 (show 4400 ∉ [7100, 7200, 7300, 7400, 7500, 8000, 7000, 8100, 7700, 7800, 7900, 7600] by decide), hG13 44 p9 q9 (show 4400 ∉ [8000, 7000] by decide), hX2, u3_k _ _ _ _ (by decide), hX1, u3_k _ _ _ _ (by decide)]
        rw [e30 0 (X 55 0 (Xa 80 0 r))]
        have f31 : 0 ≤ X 44 0 (X 55 0 (Xa 80 0 r)) ∧ X 44 0 (X 55 0 (Xa 80 0 r)) ≤ 5 := hR 44 0 (X 55 0 (Xa 80 0 r))
        refine x_iast hx hb hK.1 hw hS (by omega) (by omega) ar_72 (len_E ar_72 (by decide)) (by omega) (by omega) (by omega) dX9_saves_76 (fun H locs hw hS => ?_)
        obtain ⟨X32, hX32⟩ : ∃ Xq, Xq = u3 X29 72 0 (120 + r) (X 44 0 (X 55 0 (Xa 80 0 r))) := ⟨_, rfl⟩
        rw [← hX32] at hw
        have hRX32 : Rng X32 := by rw [hX32]; exact rng_set hRX29 (show 0 ≤ (X 44 0 (X 55 0 (Xa 80 0 r))) ∧ (X 44 0 (X 55 0 (Xa 80 0 r))) ≤ 5 by omega)
        have hVX32 : X32 72 0 (120 + r) = (X 44 0 (X 55 0 (Xa 80 0 r))) := by rw [hX32]; exact u3_s _ _ _ _ _
        have hFX32 : Frm [7100, 7200, 7300, 7400, 7500, 8000, 7000, 8100, 7700, 7800, 7900, 7600, 4042, 4043, 4044] X X32 := by rw [hX32]; exact Frm.set hFX29 (show 7200 ∈ [7100, 7200, 7300, 7400, 7500, 8000, 7000, 8100, 7700, 7800, 7900, 7600, 4042, 4043, 4044] by decide)
        refine lv_iconst (v := jI 0) hx hb dX9_saves_77 rfl ?_
        refine lv_istore (lv' := [(6, .int (jI 0)), (5, .int (jI (X 55 0 (Xa 80 0 r)))), (4, .int (jI (Xa 80 0 r))), (0, .ref (ad 40 0)), (1, .int (jI x)), (2, .int (jI shut)), (3, .int (jI r))]) hx hb dX9_saves_78 hl (by decide) rfl (fun ls hl => ?_)
        have lp80 : ∀ (nn : Nat) (k : Int) (Xb : Nat → Int → Int → Int) (H : Heap) (locs : List Loc) (ls : Array Slot), (5 - k) < (nn : Int) → (Rng Xb) → (Frm [7100, 7200, 7300, 7400, 7500, 8000, 7000, 8100, 7700, 7800, 7900, 7600] X32 Xb) → (0 ≤ k ∧ k ≤ 5) → (ordOK Xb) → (S4 X32 Xb) → (Xb 76 0 4 ≤ 5 * r + k) → (r < Xb 70 0 4) → (cOK Xb r k) → (Xb 71 0 (120 + r) < X 40 0 2) → (Xb 72 0 (120 + r) = X 44 0 (X 55 0 (Xa 80 0 r))) → wd D tc base (ad, cnt, Xb, Y, ln) H → va_S (frA base) s.heap H locs → lv_has ls 10 [(0, .ref (ad 40 0)), (1, .int (jI x)), (2, .int (jI shut)), (3, .int (jI r)), (4, .int (jI (Xa 80 0 r))), (5, .int (jI (X 55 0 (Xa 80 0 r)))), (6, .int (jI k))] → W p l e ({ frames := 1, cells := 0, slots := 0, locals := 24 } : Room) s m ([.ref (ad 40 0), .int (jI x), .int (jI shut)] : List Value).toArray below meth c H locs 0 0 (MQ below (QI D tc base (fun z u => ∃ X1 : Nat → Int → Int → Int, u = (ad, cnt, X1, Y, ln) ∧ Rng X1 ∧ Frm [7100, 7200, 7300, 7400, 7500, 8000, 7000, 8100, 7700, 7800, 7900, 7600, 4042, 4043, 4044] X X1 ∧ MInv X1 ∧ (-20 ≤ z ∧ z ≤ 30) ∧ S4 X X1 ∧ (0 ≤ z → z = X1 70 0 4 ∧ cOK X1 z 0))) ([.ref (ad 40 0), .int (jI x), .int (jI shut)] : List Value).toArray s 0 0 (frA base)) (F0 m 80 ls []) := by
          intro nn
          induction nn with
          | zero => intro k Xb H locs ls hm hRXb hGXb hk hOb h4Xb hsr hrm hcO h71 h72 hw hS hl; exfalso; omega
          | succ nn ih80 =>
            intro k Xb H locs ls hm hRXb hGXb hk hOb h4Xb hsr hrm hcO h71 h72 hw hS hl
            have hFXb : Frm [7100, 7200, 7300, 7400, 7500, 8000, 7000, 8100, 7700, 7800, 7900, 7600, 4042, 4043, 4044] X Xb := Frm.tr hFX32 (Frm.mono hGXb (by decide))
            skip
            refine lv_iload hx hb dX9_saves_80 (lv_at hl 6 rfl) ?_
            refine lv_aload_n hx hb dX9_saves_82 rfl (lv_at hl 0 rfl) ?_
            refine x_geto hx hb hf9 hw (by omega) (by omega) sl_40_3 lk13 dX9_saves_83 ?_
            refine lv_iload hx hb dX9_saves_86 (lv_at hl 5 rfl) ?_
            refine x_iald hx hb hK.1 hw (by omega) (by omega) ar_44 (len_E ar_44 (by decide)) (by omega) (by omega) (by omega) dX9_saves_88 ?_
            have e33 : ∀ p9 q9 : Int, Xb 44 p9 q9 = X 44 p9 q9 := fun p9 q9 => by rw [hGXb 44 p9 q9 (show 4400 ∉ [7100, 7200, 7300, 7400, 7500, 8000, 7000, 8100, 7700, 7800, 7900, 7600] by decide), hX32, u3_k _ _ _ _ (by decide), hX29, u3_k _ _ _ _ (by decide), hGXa 44 p9 q9 (show 4400 ∉ [7100, 7200, 7300, 7400, 7500, 8000, 7000, 8100, 7700, 7800, 7900, 7600] by decide), hG13 44 p9 q9 (show 4400 ∉ [8000, 7000] by decide), hX2, u3_k _ _ _ _ (by decide), hX1, u3_k _ _ _ _ (by decide)]
            rw [e33 0 (X 55 0 (Xa 80 0 r))]
            have f34 : 0 ≤ X 44 0 (X 55 0 (Xa 80 0 r)) ∧ X 44 0 (X 55 0 (Xa 80 0 r)) ≤ 5 := hR 44 0 (X 55 0 (Xa 80 0 r))
            refine x_icmp_ge (tgt := 263) hx hb (by omega) (by omega) dX9_saves_89 (by decide) (fun c35 => ?_) (fun c35 => ?_)
            · refine lv_iinc (v := jI (r + 1)) (lv' := [(3, .int (jI (r + 1))), (0, .ref (ad 40 0)), (1, .int (jI x)), (2, .int (jI shut)), (4, .int (jI (Xa 80 0 r))), (5, .int (jI (X 55 0 (Xa 80 0 r)))), (6, .int (jI k))]) hx hb dX9_saves_263 hl (k := 3) rfl (jI_add _ _) (by decide) rfl (fun ls hl => ?_)
              refine lv_goto (tgt := 23) hx hb dX9_saves_266 (by decide) ?_
              have q36 : Frm [7100, 7200, 7300, 7400, 7500, 8000, 7000, 8100, 7700, 7800, 7900, 7600] X12 Xa := Frm.tr Frm.rf (Frm.mono hGXa (by decide))
              have q37 : Frm [7100, 7200, 7300, 7400, 7500, 8000, 7000, 8100, 7700, 7800, 7900, 7600] X12 X29 := by rw [hX29]; exact Frm.set q36 (show 7100 ∈ [7100, 7200, 7300, 7400, 7500, 8000, 7000, 8100, 7700, 7800, 7900, 7600] by decide)
              have q38 : Frm [7100, 7200, 7300, 7400, 7500, 8000, 7000, 8100, 7700, 7800, 7900, 7600] X12 X32 := by rw [hX32]; exact Frm.set q37 (show 7200 ∈ [7100, 7200, 7300, 7400, 7500, 8000, 7000, 8100, 7700, 7800, 7900, 7600] by decide)
              have q39 : Frm [7100, 7200, 7300, 7400, 7500, 8000, 7000, 8100, 7700, 7800, 7900, 7600] X12 Xb := Frm.tr q38 (Frm.mono hGXb (by decide))
              have q40 : S4 X12 Xa := S4.tr S4.rf h4Xa
              have q41 : S4 X12 X29 := by rw [hX29]; exact S4.set q40 ⟨by omega, by omega, by omega, by omega, by omega⟩
              have q42 : S4 X12 X32 := by rw [hX32]; exact S4.set q41 ⟨by omega, by omega, by omega, by omega, by omega⟩
              have q43 : S4 X12 Xb := S4.tr q42 h4Xb
              exact ih23 (r + 1) Xb _ _ _ (by omega) hRXb q39 (by omega) (hOb) (q43) (by omega) (hcO.next (by rw [hGXb 40 0 2 (show 4003 ∉ [7100, 7200, 7300, 7400, 7500, 8000, 7000, 8100, 7700, 7800, 7900, 7600] by decide), hX32, u3_k _ _ _ _ (by decide), hX29, u3_k _ _ _ _ (by decide), hGXa 40 0 2 (show 4003 ∉ [7100, 7200, 7300, 7400, 7500, 8000, 7000, 8100, 7700, 7800, 7900, 7600] by decide), hG13 40 0 2 (show 4003 ∉ [8000, 7000] by decide), hX2, u3_k _ _ _ _ (by decide), hX1, u3_k _ _ _ _ (by decide)]; omega) (by rw [h72]; omega)) hw hS (lv_sub hl [1, 2, 3, 0] rfl)
            · refine lv_aload_n hx hb dX9_saves_92 rfl (lv_at hl 0 rfl) ?_
              refine x_geto hx hb hf9 hw (by omega) (by omega) sl_40_7 lk27 dX9_saves_93 ?_
              refine lv_iconst (v := jI 5) hx hb dX9_saves_96 rfl ?_
              refine lv_iload hx hb dX9_saves_97 (lv_at hl 5 rfl) ?_
              refine x_imul hx hb dX9_saves_99 ?_
              refine lv_iload hx hb dX9_saves_100 (lv_at hl 6 rfl) ?_
              refine x_iadd hx hb dX9_saves_102 ?_
              refine x_zald hx hb hK.1 hw (by omega) (by omega) ar_48 (len_E ar_48 (by decide)) (by omega) (by omega) (by omega) dX9_saves_103 ?_
              have e44 : ∀ p9 q9 : Int, Xb 48 p9 q9 = X 48 p9 q9 := fun p9 q9 => by rw [hGXb 48 p9 q9 (show 4800 ∉ [7100, 7200, 7300, 7400, 7500, 8000, 7000, 8100, 7700, 7800, 7900, 7600] by decide), hX32, u3_k _ _ _ _ (by decide), hX29, u3_k _ _ _ _ (by decide), hGXa 48 p9 q9 (show 4800 ∉ [7100, 7200, 7300, 7400, 7500, 8000, 7000, 8100, 7700, 7800, 7900, 7600] by decide), hG13 48 p9 q9 (show 4800 ∉ [8000, 7000] by decide), hX2, u3_k _ _ _ _ (by decide), hX1, u3_k _ _ _ _ (by decide)]
              rw [e44 0 ((5 * (X 55 0 (Xa 80 0 r))) + k)]
              have f45 : 0 ≤ X 48 0 ((5 * (X 55 0 (Xa 80 0 r))) + k) ∧ X 48 0 ((5 * (X 55 0 (Xa 80 0 r))) + k) ≤ 1 := hR 48 0 ((5 * (X 55 0 (Xa 80 0 r))) + k)
              refine x_if_eq (tgt := 132) hx hb (by omega) dX9_saves_104 (by decide) (fun c46 => ?_) (fun c46 => ?_)
              · refine lv_iconst (v := jI 5) hx hb dX9_saves_132 rfl ?_
                refine lv_bipush (v := jI 120) hx hb dX9_saves_133 (by decide) ?_
                refine lv_iload_n hx hb dX9_saves_135 rfl (lv_at hl 3 rfl) ?_
                refine x_iadd hx hb dX9_saves_136 ?_
                refine x_imul hx hb dX9_saves_137 ?_
                refine lv_iload hx hb dX9_saves_138 (lv_at hl 6 rfl) ?_
                refine x_iadd hx hb dX9_saves_140 ?_
                refine lv_istore (lv' := [(7, .int (jI ((5 * (120 + r)) + k))), (0, .ref (ad 40 0)), (1, .int (jI x)), (2, .int (jI shut)), (3, .int (jI r)), (4, .int (jI (Xa 80 0 r))), (5, .int (jI (X 55 0 (Xa 80 0 r)))), (6, .int (jI k))]) hx hb dX9_saves_141 hl (by decide) rfl (fun ls hl => ?_)
                refine lv_aload_n hx hb dX9_saves_143 rfl (lv_at hl 1 rfl) ?_
                refine x_geto hx hb hf9 hw (by omega) (by omega) sl_40_15 lk48 dX9_saves_144 ?_
                refine lv_iconst (v := jI 5) hx hb dX9_saves_147 rfl ?_
                refine lv_iload hx hb dX9_saves_148 (lv_at hl 5 rfl) ?_
                refine x_imul hx hb dX9_saves_150 ?_
                refine lv_iload hx hb dX9_saves_151 (lv_at hl 7 rfl) ?_
                refine x_iadd hx hb dX9_saves_153 ?_
                obtain ⟨hy1, hy2, hy3⟩ := hMI.1 (Xa 80 0 r) k (by omega) (by omega) (by omega) (by omega)
                refine x_lald hx hb hK.1 hw (by omega) (by omega) ar_56 (len_E ar_56 (by decide)) (by omega) (by omega) (by omega) dX9_saves_154 ?_
                have e47 : ∀ p9 q9 : Int, Xb 56 p9 q9 = X 56 p9 q9 := fun p9 q9 => by rw [hGXb 56 p9 q9 (show 5600 ∉ [7100, 7200, 7300, 7400, 7500, 8000, 7000, 8100, 7700, 7800, 7900, 7600] by decide), hX32, u3_k _ _ _ _ (by decide), hX29, u3_k _ _ _ _ (by decide), hGXa 56 p9 q9 (show 5600 ∉ [7100, 7200, 7300, 7400, 7500, 8000, 7000, 8100, 7700, 7800, 7900, 7600] by decide), hG13 56 p9 q9 (show 5600 ∉ [8000, 7000] by decide), hX2, u3_k _ _ _ _ (by decide), hX1, u3_k _ _ _ _ (by decide)]
                rw [e47 0 ((5 * (Xa 80 0 r)) + k)]
                have f48 : (-9223372036854775808) ≤ X 56 0 ((5 * (Xa 80 0 r)) + k) ∧ X 56 0 ((5 * (Xa 80 0 r)) + k) ≤ 9223372036854775807 := hR 56 0 ((5 * (Xa 80 0 r)) + k)
                refine lv_lstore (lv' := [(8, .long (jL (X 56 0 ((5 * (Xa 80 0 r)) + k)))), (7, .int (jI ((5 * (120 + r)) + k))), (0, .ref (ad 40 0)), (1, .int (jI x)), (2, .int (jI shut)), (3, .int (jI r)), (4, .int (jI (Xa 80 0 r))), (5, .int (jI (X 55 0 (Xa 80 0 r)))), (6, .int (jI k))]) hx hb dX9_saves_155 hl (by decide) rfl (fun ls hl => ?_)
                refine lv_aload_n hx hb dX9_saves_157 rfl (lv_at hl 2 rfl) ?_
                refine x_geto hx hb hf9 hw (by omega) (by omega) sl_40_32 lk90 dX9_saves_158 ?_
                refine lv_iload hx hb dX9_saves_161 (lv_at hl 1 rfl) ?_
                refine lv_aload_n hx hb dX9_saves_163 rfl (lv_at hl 2 rfl) ?_
                refine x_geto hx hb hf9 hw (by omega) (by omega) sl_40_4 lk17 dX9_saves_164 ?_
                refine lv_iconst (v := jI 5) hx hb dX9_saves_167 rfl ?_
                refine lv_iload hx hb dX9_saves_168 (lv_at hl 7 rfl) ?_
                refine x_imul hx hb dX9_saves_170 ?_
                refine lv_iload hx hb dX9_saves_171 (lv_at hl 8 rfl) ?_
                refine x_iadd hx hb dX9_saves_173 ?_
                refine x_iald hx hb hK.1 hw (by omega) (by omega) ar_45 (len_E ar_45 (by decide)) (by omega) (by omega) (by omega) dX9_saves_174 ?_
                have e49 : ∀ p9 q9 : Int, Xb 45 p9 q9 = X 45 p9 q9 := fun p9 q9 => by rw [hGXb 45 p9 q9 (show 4500 ∉ [7100, 7200, 7300, 7400, 7500, 8000, 7000, 8100, 7700, 7800, 7900, 7600] by decide), hX32, u3_k _ _ _ _ (by decide), hX29, u3_k _ _ _ _ (by decide), hGXa 45 p9 q9 (show 4500 ∉ [7100, 7200, 7300, 7400, 7500, 8000, 7000, 8100, 7700, 7800, 7900, 7600] by decide), hG13 45 p9 q9 (show 4500 ∉ [8000, 7000] by decide), hX2, u3_k _ _ _ _ (by decide), hX1, u3_k _ _ _ _ (by decide)]
                rw [e49 0 ((5 * (X 55 0 (Xa 80 0 r))) + k)]
                have f50 : 0 ≤ X 45 0 ((5 * (X 55 0 (Xa 80 0 r))) + k) ∧ X 45 0 ((5 * (X 55 0 (Xa 80 0 r))) + k) ≤ 19 := hR 45 0 ((5 * (X 55 0 (Xa 80 0 r))) + k)
                refine x_iast hx hb hK.1 hw hS (by omega) (by omega) ar_73 (len_E ar_73 (by decide)) (by omega) (by omega) (by omega) dX9_saves_175 (fun H locs hw hS => ?_)
                obtain ⟨X51, hX51⟩ : ∃ Xq, Xq = u3 Xb 73 0 ((5 * (120 + r)) + k) (X 45 0 ((5 * (X 55 0 (Xa 80 0 r))) + k)) := ⟨_, rfl⟩
                rw [← hX51] at hw
                have hRX51 : Rng X51 := by rw [hX51]; exact rng_set hRXb (show 0 ≤ (X 45 0 ((5 * (X 55 0 (Xa 80 0 r))) + k)) ∧ (X 45 0 ((5 * (X 55 0 (Xa 80 0 r))) + k)) ≤ 19 by omega)
                have hVX51 : X51 73 0 ((5 * (120 + r)) + k) = (X 45 0 ((5 * (X 55 0 (Xa 80 0 r))) + k)) := by rw [hX51]; exact u3_s _ _ _ _ _
                have hFX51 : Frm [7100, 7200, 7300, 7400, 7500, 8000, 7000, 8100, 7700, 7800, 7900, 7600, 4042, 4043, 4044] X X51 := by rw [hX51]; exact Frm.set hFXb (show 7300 ∈ [7100, 7200, 7300, 7400, 7500, 8000, 7000, 8100, 7700, 7800, 7900, 7600, 4042, 4043, 4044] by decide)
                refine lv_aload_n hx hb dX9_saves_176 rfl (lv_at hl 2 rfl) ?_
                refine x_geto hx hb hf9 hw (by omega) (by omega) sl_40_33 lk93 dX9_saves_177 ?_
                refine lv_iload hx hb dX9_saves_180 (lv_at hl 1 rfl) ?_
                refine lv_aload_n hx hb dX9_saves_182 rfl (lv_at hl 2 rfl) ?_
                refine x_geto hx hb hf9 hw (by omega) (by omega) sl_40_5 lk20 dX9_saves_183 ?_
                refine lv_iconst (v := jI 5) hx hb dX9_saves_186 rfl ?_
                refine lv_iload hx hb dX9_saves_187 (lv_at hl 7 rfl) ?_
                refine x_imul hx hb dX9_saves_189 ?_
                refine lv_iload hx hb dX9_saves_190 (lv_at hl 8 rfl) ?_
                refine x_iadd hx hb dX9_saves_192 ?_
                refine x_iald hx hb hK.1 hw (by omega) (by omega) ar_46 (len_E ar_46 (by decide)) (by omega) (by omega) (by omega) dX9_saves_193 ?_
                have e52 : ∀ p9 q9 : Int, X51 46 p9 q9 = X 46 p9 q9 := fun p9 q9 => by rw [hX51, u3_k _ _ _ _ (by decide), hGXb 46 p9 q9 (show 4600 ∉ [7100, 7200, 7300, 7400, 7500, 8000, 7000, 8100, 7700, 7800, 7900, 7600] by decide), hX32, u3_k _ _ _ _ (by decide), hX29, u3_k _ _ _ _ (by decide), hGXa 46 p9 q9 (show 4600 ∉ [7100, 7200, 7300, 7400, 7500, 8000, 7000, 8100, 7700, 7800, 7900, 7600] by decide), hG13 46 p9 q9 (show 4600 ∉ [8000, 7000] by decide), hX2, u3_k _ _ _ _ (by decide), hX1, u3_k _ _ _ _ (by decide)]
                rw [e52 0 ((5 * (X 55 0 (Xa 80 0 r))) + k)]
                have f53 : 0 ≤ X 46 0 ((5 * (X 55 0 (Xa 80 0 r))) + k) ∧ X 46 0 ((5 * (X 55 0 (Xa 80 0 r))) + k) ≤ 5 := hR 46 0 ((5 * (X 55 0 (Xa 80 0 r))) + k)
                refine x_iast hx hb hK.1 hw hS (by omega) (by omega) ar_74 (len_E ar_74 (by decide)) (by omega) (by omega) (by omega) dX9_saves_194 (fun H locs hw hS => ?_)
                obtain ⟨X54, hX54⟩ : ∃ Xq, Xq = u3 X51 74 0 ((5 * (120 + r)) + k) (X 46 0 ((5 * (X 55 0 (Xa 80 0 r))) + k)) := ⟨_, rfl⟩
                rw [← hX54] at hw
                have hRX54 : Rng X54 := by rw [hX54]; exact rng_set hRX51 (show 0 ≤ (X 46 0 ((5 * (X 55 0 (Xa 80 0 r))) + k)) ∧ (X 46 0 ((5 * (X 55 0 (Xa 80 0 r))) + k)) ≤ 5 by omega)
                have hVX54 : X54 74 0 ((5 * (120 + r)) + k) = (X 46 0 ((5 * (X 55 0 (Xa 80 0 r))) + k)) := by rw [hX54]; exact u3_s _ _ _ _ _
                have hFX54 : Frm [7100, 7200, 7300, 7400, 7500, 8000, 7000, 8100, 7700, 7800, 7900, 7600, 4042, 4043, 4044] X X54 := by rw [hX54]; exact Frm.set hFX51 (show 7400 ∈ [7100, 7200, 7300, 7400, 7500, 8000, 7000, 8100, 7700, 7800, 7900, 7600, 4042, 4043, 4044] by decide)
                refine lv_aload_n hx hb dX9_saves_195 rfl (lv_at hl 2 rfl) ?_
                refine x_geto hx hb hf9 hw (by omega) (by omega) sl_40_34 lk96 dX9_saves_196 ?_
                refine lv_iload hx hb dX9_saves_199 (lv_at hl 1 rfl) ?_
                refine lv_aload_n hx hb dX9_saves_201 rfl (lv_at hl 2 rfl) ?_
                refine x_geto hx hb hf9 hw (by omega) (by omega) sl_40_33 lk93 dX9_saves_202 ?_
                refine lv_iload hx hb dX9_saves_205 (lv_at hl 1 rfl) ?_
                refine x_iald hx hb hK.1 hw (by omega) (by omega) ar_74 (len_E ar_74 (by decide)) (by omega) (by omega) (by omega) dX9_saves_207 ?_
                rw [hVX54]
                refine lv_iconst (v := jI 2) hx hb dX9_saves_208 rfl ?_
                refine x_icmp_lt (tgt := 219) hx hb (by omega) (by omega) dX9_saves_209 (by decide) (fun c55 => ?_) (fun c55 => ?_)
                · refine lv_lload hx hb dX9_saves_219 (lv_at hl 0 rfl) ?_
                  refine lv_goto (tgt := 256) hx hb dX9_saves_221 (by decide) ?_
                  refine x_last hx hb hK.1 hw hS (by omega) (by omega) ar_75 (len_E ar_75 (by decide)) (by omega) (by omega) (by omega) dX9_saves_256 (fun H locs hw hS => ?_)
                  obtain ⟨X56, hX56⟩ : ∃ Xq, Xq = u3 X54 75 0 ((5 * (120 + r)) + k) (X 56 0 ((5 * (Xa 80 0 r)) + k)) := ⟨_, rfl⟩
                  rw [← hX56] at hw
                  have hRX56 : Rng X56 := by rw [hX56]; exact rng_set hRX54 (show (-9223372036854775808) ≤ (X 56 0 ((5 * (Xa 80 0 r)) + k)) ∧ (X 56 0 ((5 * (Xa 80 0 r)) + k)) ≤ 9223372036854775807 by omega)
                  have hVX56 : X56 75 0 ((5 * (120 + r)) + k) = (X 56 0 ((5 * (Xa 80 0 r)) + k)) := by rw [hX56]; exact u3_s _ _ _ _ _
                  have hFX56 : Frm [7100, 7200, 7300, 7400, 7500, 8000, 7000, 8100, 7700, 7800, 7900, 7600, 4042, 4043, 4044] X X56 := by rw [hX56]; exact Frm.set hFX54 (show 7500 ∈ [7100, 7200, 7300, 7400, 7500, 8000, 7000, 8100, 7700, 7800, 7900, 7600, 4042, 4043, 4044] by decide)
                  refine lv_iinc (v := jI (k + 1)) (lv' := [(6, .int (jI (k + 1))), (8, .long (jL (X 56 0 ((5 * (Xa 80 0 r)) + k)))), (7, .int (jI ((5 * (120 + r)) + k))), (0, .ref (ad 40 0)), (1, .int (jI x)), (2, .int (jI shut)), (3, .int (jI r)), (4, .int (jI (Xa 80 0 r))), (5, .int (jI (X 55 0 (Xa 80 0 r))))]) hx hb dX9_saves_257 hl (k := 8) rfl (jI_add _ _) (by decide) rfl (fun ls hl => ?_)
                  refine lv_goto (tgt := 80) hx hb dX9_saves_260 (by decide) ?_
                  have q57 : Frm [7100, 7200, 7300, 7400, 7500, 8000, 7000, 8100, 7700, 7800, 7900, 7600] X32 Xb := Frm.tr Frm.rf (Frm.mono hGXb (by decide))
                  have q58 : Frm [7100, 7200, 7300, 7400, 7500, 8000, 7000, 8100, 7700, 7800, 7900, 7600] X32 X51 := by rw [hX51]; exact Frm.set q57 (show 7300 ∈ [7100, 7200, 7300, 7400, 7500, 8000, 7000, 8100, 7700, 7800, 7900, 7600] by decide)
                  have q59 : Frm [7100, 7200, 7300, 7400, 7500, 8000, 7000, 8100, 7700, 7800, 7900, 7600] X32 X54 := by rw [hX54]; exact Frm.set q58 (show 7400 ∈ [7100, 7200, 7300, 7400, 7500, 8000, 7000, 8100, 7700, 7800, 7900, 7600] by decide)
                  have q60 : Frm [7100, 7200, 7300, 7400, 7500, 8000, 7000, 8100, 7700, 7800, 7900, 7600] X32 X56 := by rw [hX56]; exact Frm.set q59 (show 7500 ∈ [7100, 7200, 7300, 7400, 7500, 8000, 7000, 8100, 7700, 7800, 7900, 7600] by decide)
                  have e61 : X56 76 0 4 = Xb 76 0 4 := by rw [hX56, u3_k _ _ _ _ (by decide), hX54, u3_k _ _ _ _ (by decide), hX51, u3_k _ _ _ _ (by decide)]
                  have e62 : X56 70 0 4 = Xb 70 0 4 := by rw [hX56, u3_k _ _ _ _ (by decide), hX54, u3_k _ _ _ _ (by decide), hX51, u3_k _ _ _ _ (by decide)]
                  have q63 : Frm [7300, 7400, 7500] Xb X51 := by rw [hX51]; exact Frm.set Frm.rf (show 7300 ∈ [7300, 7400, 7500] by decide)
                  have q64 : Frm [7300, 7400, 7500] Xb X54 := by rw [hX54]; exact Frm.set q63 (show 7400 ∈ [7300, 7400, 7500] by decide)
                  have q65 : Frm [7300, 7400, 7500] Xb X56 := by rw [hX56]; exact Frm.set q64 (show 7500 ∈ [7300, 7400, 7500] by decide)
                  have hO66 : ordOK X56 := ordOK.of hOb q65 (by decide)
                  have q67 : S4 X32 Xb := S4.tr S4.rf h4Xb
                  have q68 : S4 X32 X51 := by rw [hX51]; exact S4.set q67 ⟨by omega, by omega, by omega, by omega, by omega⟩
                  have q69 : S4 X32 X54 := by rw [hX54]; exact S4.set q68 ⟨by omega, by omega, by omega, by omega, by omega⟩
                  have q70 : S4 X32 X56 := by rw [hX56]; exact S4.set q69 ⟨by omega, by omega, by omega, by omega, by omega⟩
                  have e71 : X56 70 0 4 = Xb 70 0 4 := (by rw [hX56, u3_k _ _ _ _ (by decide), hX54, u3_k _ _ _ _ (by decide), hX51, u3_k _ _ _ _ (by decide)])
                  have f72 : 0 ≤ X56 70 0 4 ∧ X56 70 0 4 ≤ 30 := hRX56 70 0 4
                  have e73 : X56 74 0 (5 * (120 + r) + k) = (X 46 0 ((5 * (X 55 0 (Xa 80 0 r))) + k)) := (by rw [hX56, u3_k _ _ _ _ (by decide)]; exact hVX54)
                  have hcq74 : cOK X56 r (k + 1) := cOK.push (cOK.of hcO (by omega) hRX56 (by rw [show X56 40 0 2 = Xb 40 0 2 from (by rw [hX56, u3_k _ _ _ _ (by decide), hX54, u3_k _ _ _ _ (by decide), hX51, u3_k _ _ _ _ (by decide)])]; exact Int.le_refl _) (by omega) (fun r1 a b => ⟨(by rw [hX56, u3_k _ _ _ _ (by decide), hX54, u3_k _ _ _ _ (by decide), hX51, u3_k _ _ _ _ (by decide)]), (by rw [hX56, u3_k _ _ _ _ (by decide), hX54, u3_k _ _ _ _ (by decide), hX51, u3_k _ _ _ _ (by decide)])⟩) (fun j hj => ⟨(by rw [hX56, u3_k _ _ _ _ (by decide), hX54, u3_j _ _ _ _ (by omega), hX51, u3_k _ _ _ _ (by decide)]), (by rw [hX56, u3_j _ _ _ _ (by omega), hX54, u3_k _ _ _ _ (by decide), hX51, u3_k _ _ _ _ (by decide)])⟩) (by omega)) (by unfold ty4; rw [e73, hVX56]; exact ⟨fun _ => by omega, fun _ => by omega, fun _ => by omega⟩)
                  exact ih80 (k + 1) X56 _ _ _ (by omega) hRX56 q60 (by first | omega | (simp only [e61, e62]; omega)) (hO66) (q70) (by first | omega | (simp only [e61, e62]; omega)) (by first | omega | (simp only [e61, e62]; omega)) (hcq74) ((by rw [hX56, u3_k _ _ _ _ (by decide), hX54, u3_k _ _ _ _ (by decide), hX51, u3_k _ _ _ _ (by decide)]; exact h71)) ((by rw [hX56, u3_k _ _ _ _ (by decide), hX54, u3_k _ _ _ _ (by decide), hX51, u3_k _ _ _ _ (by decide)]; exact h72)) hw hS (lv_sub hl [3, 4, 5, 6, 7, 8, 0] rfl)
                · refine lv_lload hx hb dX9_saves_212 (lv_at hl 0 rfl) ?_
                  refine lv_lconst (v := jL 0) hx hb dX9_saves_214 (by decide) ?_
                  refine x_lcmp hx hb (by omega) (by omega) dX9_saves_215 ?_
                  obtain ⟨z75, ez75⟩ : ∃ y : Int, y = cmpZ (X 56 0 ((5 * (Xa 80 0 r)) + k)) 0 := ⟨_, rfl⟩
                  rw [← ez75]
                  have gz75 : (z75 < 0 ↔ ((X 56 0 ((5 * (Xa 80 0 r)) + k)) : Int) < 0) ∧ (z75 = 0 ↔ ((X 56 0 ((5 * (Xa 80 0 r)) + k)) : Int) = 0) ∧ -1 ≤ z75 ∧ z75 ≤ 1 := by rw [ez75]; exact ⟨cmpZ_lt, cmpZ_eq, (cmpZ_r _ _).1, (cmpZ_r _ _).2⟩
                  clear ez75
                  refine x_if_ge (tgt := 224) hx hb (by omega) dX9_saves_216 (by decide) (fun c76 => ?_) (fun c76 => ?_)
                  · refine lv_aload_n hx hb dX9_saves_224 rfl (lv_at hl 2 rfl) ?_
                    refine x_geto hx hb hf9 hw (by omega) (by omega) sl_40_33 lk93 dX9_saves_225 ?_
                    refine lv_iload hx hb dX9_saves_228 (lv_at hl 1 rfl) ?_
                    refine x_iald hx hb hK.1 hw (by omega) (by omega) ar_74 (len_E ar_74 (by decide)) (by omega) (by omega) (by omega) dX9_saves_230 ?_
                    rw [hVX54]
                    refine lv_iconst (v := jI 2) hx hb dX9_saves_231 rfl ?_
                    refine x_icmp_ne (tgt := 247) hx hb (by omega) (by omega) dX9_saves_232 (by decide) (fun c77 => ?_) (fun c77 => ?_)
                    · refine lv_aload_n hx hb dX9_saves_247 rfl (lv_at hl 2 rfl) ?_
                      refine lv_iconst (v := jI 4) hx hb dX9_saves_248 rfl ?_
                      refine lv_lload hx hb dX9_saves_249 (lv_at hl 0 rfl) ?_
                      refine x_l2i hx hb dX9_saves_251 ?_
                      have q78 : S4 X X1 := by rw [hX1]; exact S4.set S4.rf ⟨by omega, by omega, by omega, by omega, by omega⟩
                      have q79 : S4 X X2 := by rw [hX2]; exact S4.set q78 ⟨by omega, by omega, by omega, by omega, by omega⟩
                      have q80 : S4 X X12 := S4.tr q79 h4X12
                      have q81 : S4 X Xa := S4.tr q80 h4Xa
                      have q82 : S4 X X29 := by rw [hX29]; exact S4.set q81 ⟨by omega, by omega, by omega, by omega, by omega⟩
                      have q83 : S4 X X32 := by rw [hX32]; exact S4.set q82 ⟨by omega, by omega, by omega, by omega, by omega⟩
                      have q84 : S4 X Xb := S4.tr q83 h4Xb
                      have q85 : S4 X X51 := by rw [hX51]; exact S4.set q84 ⟨by omega, by omega, by omega, by omega, by omega⟩
                      have q86 : S4 X X54 := by rw [hX54]; exact S4.set q85 ⟨by omega, by omega, by omega, by omega, by omega⟩
                      have hMq87 : MInv X54 := minv_s4 hMI hRX54 hFX54 q86 (by decide)
                      have e88 : X54 76 0 4 = Xb 76 0 4 := by rw [hX54, u3_k _ _ _ _ (by decide), hX51, u3_k _ _ _ _ (by decide)]
                      refine gos_i (run_V (As := [.int (jI 4), .int (jI (X 56 0 ((5 * (Xa 80 0 r)) + k)))]) (rest := [.int (jI ((5 * (120 + r)) + k)), .ref (ad 75 0)]) hx hb hml hown hts (c_X9_rowOf l D tc base ad cnt X54 Y ln hRX54 hFx hMq87 (X 56 0 ((5 * (Xa 80 0 r)) + k)) (by omega) (by simp only [e88]; omega)) (cwV 2 hts gX9_saves_X9_rowOf rfl rfl rfl (by decide +kernel) ⟨Nat.le_of_ble_eq_true rfl, Nat.le_of_ble_eq_true rfl⟩) hK hw (by omega) (by omega) sl_40_0 rfl rfl hl.1 rfl (Nat.le_of_ble_eq_true rfl) dX9_saves_252 ⟨Nat.le_of_ble_eq_true rfl, Nat.le_of_ble_eq_true rfl⟩) hS (fun z89 u90 H locs p91 hw hS => ?_)
                      obtain ⟨X92, eu90, hRX92, hG93, hMIX92, p91⟩ := p91
                      subst eu90
                      have hFX92 : Frm [7100, 7200, 7300, 7400, 7500, 8000, 7000, 8100, 7700, 7800, 7900, 7600, 4042, 4043, 4044] X X92 := Frm.tr hFX54 (Frm.mono hG93 (by decide))
                      refine x_i2l hx hb (by omega) dX9_saves_255 ?_
                      refine x_last hx hb hK.1 hw hS (by omega) (by omega) ar_75 (len_E ar_75 (by decide)) (by omega) (by omega) (by omega) dX9_saves_256 (fun H locs hw hS => ?_)
                      obtain ⟨X94, hX94⟩ : ∃ Xq, Xq = u3 X92 75 0 ((5 * (120 + r)) + k) z89 := ⟨_, rfl⟩
                      rw [← hX94] at hw
                      have hRX94 : Rng X94 := by rw [hX94]; exact rng_set hRX92 (show (-9223372036854775808) ≤ z89 ∧ z89 ≤ 9223372036854775807 by omega)
                      have hVX94 : X94 75 0 ((5 * (120 + r)) + k) = z89 := by rw [hX94]; exact u3_s _ _ _ _ _
                      have hFX94 : Frm [7100, 7200, 7300, 7400, 7500, 8000, 7000, 8100, 7700, 7800, 7900, 7600, 4042, 4043, 4044] X X94 := by rw [hX94]; exact Frm.set hFX92 (show 7500 ∈ [7100, 7200, 7300, 7400, 7500, 8000, 7000, 8100, 7700, 7800, 7900, 7600, 4042, 4043, 4044] by decide)
                      refine lv_iinc (v := jI (k + 1)) (lv' := [(6, .int (jI (k + 1))), (8, .long (jL (X 56 0 ((5 * (Xa 80 0 r)) + k)))), (7, .int (jI ((5 * (120 + r)) + k))), (0, .ref (ad 40 0)), (1, .int (jI x)), (2, .int (jI shut)), (3, .int (jI r)), (4, .int (jI (Xa 80 0 r))), (5, .int (jI (X 55 0 (Xa 80 0 r))))]) hx hb dX9_saves_257 hl (k := 8) rfl (jI_add _ _) (by decide) rfl (fun ls hl => ?_)
                      refine lv_goto (tgt := 80) hx hb dX9_saves_260 (by decide) ?_
                      have q95 : Frm [7100, 7200, 7300, 7400, 7500, 8000, 7000, 8100, 7700, 7800, 7900, 7600] X32 Xb := Frm.tr Frm.rf (Frm.mono hGXb (by decide))
                      have q96 : Frm [7100, 7200, 7300, 7400, 7500, 8000, 7000, 8100, 7700, 7800, 7900, 7600] X32 X51 := by rw [hX51]; exact Frm.set q95 (show 7300 ∈ [7100, 7200, 7300, 7400, 7500, 8000, 7000, 8100, 7700, 7800, 7900, 7600] by decide)
                      have q97 : Frm [7100, 7200, 7300, 7400, 7500, 8000, 7000, 8100, 7700, 7800, 7900, 7600] X32 X54 := by rw [hX54]; exact Frm.set q96 (show 7400 ∈ [7100, 7200, 7300, 7400, 7500, 8000, 7000, 8100, 7700, 7800, 7900, 7600] by decide)
                      have q98 : Frm [7100, 7200, 7300, 7400, 7500, 8000, 7000, 8100, 7700, 7800, 7900, 7600] X32 X92 := Frm.tr q97 (Frm.mono hG93 (by decide))
                      have q99 : Frm [7100, 7200, 7300, 7400, 7500, 8000, 7000, 8100, 7700, 7800, 7900, 7600] X32 X94 := by rw [hX94]; exact Frm.set q98 (show 7500 ∈ [7100, 7200, 7300, 7400, 7500, 8000, 7000, 8100, 7700, 7800, 7900, 7600] by decide)
                      have e100 : X94 76 0 4 = X92 76 0 4 := by rw [hX94, u3_k _ _ _ _ (by decide)]
                      have e101 : X94 70 0 4 = Xb 70 0 4 := by rw [hX94, u3_k _ _ _ _ (by decide), hG93 70 0 4 (show 7000 ∉ [8100, 7700, 7800, 7900, 7600] by decide), hX54, u3_k _ _ _ _ (by decide), hX51, u3_k _ _ _ _ (by decide)]
                      have q102 : Frm [7300, 7400, 7500, 7600, 7700, 7800, 7900, 8100] Xb X51 := by rw [hX51]; exact Frm.set Frm.rf (show 7300 ∈ [7300, 7400, 7500, 7600, 7700, 7800, 7900, 8100] by decide)
                      have q103 : Frm [7300, 7400, 7500, 7600, 7700, 7800, 7900, 8100] Xb X54 := by rw [hX54]; exact Frm.set q102 (show 7400 ∈ [7300, 7400, 7500, 7600, 7700, 7800, 7900, 8100] by decide)
                      have q104 : Frm [7300, 7400, 7500, 7600, 7700, 7800, 7900, 8100] Xb X92 := Frm.tr q103 (Frm.mono hG93 (by decide))
                      have q105 : Frm [7300, 7400, 7500, 7600, 7700, 7800, 7900, 8100] Xb X94 := by rw [hX94]; exact Frm.set q104 (show 7500 ∈ [7300, 7400, 7500, 7600, 7700, 7800, 7900, 8100] by decide)
                      have hO106 : ordOK X94 := ordOK.of hOb q105 (by decide)
                      have q107 : S4 X32 Xb := S4.tr S4.rf h4Xb
                      have q108 : S4 X32 X51 := by rw [hX51]; exact S4.set q107 ⟨by omega, by omega, by omega, by omega, by omega⟩
                      have q109 : S4 X32 X54 := by rw [hX54]; exact S4.set q108 ⟨by omega, by omega, by omega, by omega, by omega⟩
                      have q110 : S4 X32 X92 := S4.tr q109 (S4.frm hG93 (by decide))
                      have q111 : S4 X32 X94 := by rw [hX94]; exact S4.set q110 ⟨by omega, by omega, by omega, by omega, by omega⟩
                      have e112 : X94 70 0 4 = Xb 70 0 4 := (by rw [hX94, u3_k _ _ _ _ (by decide), hG93 70 0 4 (show 7000 ∉ [8100, 7700, 7800, 7900, 7600] by decide), hX54, u3_k _ _ _ _ (by decide), hX51, u3_k _ _ _ _ (by decide)])
                      have f113 : 0 ≤ X94 70 0 4 ∧ X94 70 0 4 ≤ 30 := hRX94 70 0 4
                      have e114 : X94 74 0 (5 * (120 + r) + k) = (X 46 0 ((5 * (X 55 0 (Xa 80 0 r))) + k)) := (by rw [hX94, u3_k _ _ _ _ (by decide), hG93 74 0 (5 * (120 + r) + k) (show 7400 ∉ [8100, 7700, 7800, 7900, 7600] by decide)]; exact hVX54)
                      have hcq115 : cOK X94 r (k + 1) := cOK.push (cOK.of hcO (by omega) hRX94 (by rw [show X94 40 0 2 = Xb 40 0 2 from (by rw [hX94, u3_k _ _ _ _ (by decide), hG93 40 0 2 (show 4003 ∉ [8100, 7700, 7800, 7900, 7600] by decide), hX54, u3_k _ _ _ _ (by decide), hX51, u3_k _ _ _ _ (by decide)])]; exact Int.le_refl _) (by omega) (fun r1 a b => ⟨(by rw [hX94, u3_k _ _ _ _ (by decide), hG93 71 0 (120 + r1) (show 7100 ∉ [8100, 7700, 7800, 7900, 7600] by decide), hX54, u3_k _ _ _ _ (by decide), hX51, u3_k _ _ _ _ (by decide)]), (by rw [hX94, u3_k _ _ _ _ (by decide), hG93 72 0 (120 + r1) (show 7200 ∉ [8100, 7700, 7800, 7900, 7600] by decide), hX54, u3_k _ _ _ _ (by decide), hX51, u3_k _ _ _ _ (by decide)])⟩) (fun j hj => ⟨(by rw [hX94, u3_k _ _ _ _ (by decide), hG93 74 0 j (show 7400 ∉ [8100, 7700, 7800, 7900, 7600] by decide), hX54, u3_j _ _ _ _ (by omega), hX51, u3_k _ _ _ _ (by decide)]), (by rw [hX94, u3_j _ _ _ _ (by omega), hG93 75 0 j (show 7500 ∉ [8100, 7700, 7800, 7900, 7600] by decide), hX54, u3_k _ _ _ _ (by decide), hX51, u3_k _ _ _ _ (by decide)])⟩) (by omega)) (by unfold ty4; rw [e114, hVX94]; exact ⟨fun _ => by omega, fun _ => by omega, fun _ => by omega⟩)
                      exact ih80 (k + 1) X94 _ _ _ (by omega) hRX94 q99 (by first | omega | (simp only [e100, e101]; omega)) (hO106) (q111) (by first | omega | (simp only [e100, e101]; omega)) (by first | omega | (simp only [e100, e101]; omega)) (hcq115) ((by rw [hX94, u3_k _ _ _ _ (by decide), hG93 71 0 (120 + r) (show 7100 ∉ [8100, 7700, 7800, 7900, 7600] by decide), hX54, u3_k _ _ _ _ (by decide), hX51, u3_k _ _ _ _ (by decide)]; exact h71)) ((by rw [hX94, u3_k _ _ _ _ (by decide), hG93 72 0 (120 + r) (show 7200 ∉ [8100, 7700, 7800, 7900, 7600] by decide), hX54, u3_k _ _ _ _ (by decide), hX51, u3_k _ _ _ _ (by decide)]; exact h72)) hw hS (lv_sub hl [3, 4, 5, 6, 7, 8, 0] rfl)
                    · refine lv_aload_n hx hb dX9_saves_235 rfl (lv_at hl 2 rfl) ?_
                      refine lv_iconst (v := jI 4) hx hb dX9_saves_236 rfl ?_
                      refine lv_lload hx hb dX9_saves_237 (lv_at hl 0 rfl) ?_
                      refine x_l2i hx hb dX9_saves_239 ?_
                      have q116 : S4 X X1 := by rw [hX1]; exact S4.set S4.rf ⟨by omega, by omega, by omega, by omega, by omega⟩
                      have q117 : S4 X X2 := by rw [hX2]; exact S4.set q116 ⟨by omega, by omega, by omega, by omega, by omega⟩
                      have q118 : S4 X X12 := S4.tr q117 h4X12
                      have q119 : S4 X Xa := S4.tr q118 h4Xa
                      have q120 : S4 X X29 := by rw [hX29]; exact S4.set q119 ⟨by omega, by omega, by omega, by omega, by omega⟩
                      have q121 : S4 X X32 := by rw [hX32]; exact S4.set q120 ⟨by omega, by omega, by omega, by omega, by omega⟩
                      have q122 : S4 X Xb := S4.tr q121 h4Xb
                      have q123 : S4 X X51 := by rw [hX51]; exact S4.set q122 ⟨by omega, by omega, by omega, by omega, by omega⟩
                      have q124 : S4 X X54 := by rw [hX54]; exact S4.set q123 ⟨by omega, by omega, by omega, by omega, by omega⟩
                      have hMq125 : MInv X54 := minv_s4 hMI hRX54 hFX54 q124 (by decide)
                      have q126 : Frm [7300, 7400] Xb X51 := by rw [hX51]; exact Frm.set Frm.rf (show 7300 ∈ [7300, 7400] by decide)
                      have q127 : Frm [7300, 7400] Xb X54 := by rw [hX54]; exact Frm.set q126 (show 7400 ∈ [7300, 7400] by decide)
                      have hO128 : ordOK X54 := ordOK.of hOb q127 (by decide)
                      have e129 : X54 40 0 13 = X 40 0 13 := by rw [hX54, u3_k _ _ _ _ (by decide), hX51, u3_k _ _ _ _ (by decide), hGXb 40 0 13 (show 4014 ∉ [7100, 7200, 7300, 7400, 7500, 8000, 7000, 8100, 7700, 7800, 7900, 7600] by decide), hX32, u3_k _ _ _ _ (by decide), hX29, u3_k _ _ _ _ (by decide), hGXa 40 0 13 (show 4014 ∉ [7100, 7200, 7300, 7400, 7500, 8000, 7000, 8100, 7700, 7800, 7900, 7600] by decide), hG13 40 0 13 (show 4014 ∉ [8000, 7000] by decide), hX2, u3_k _ _ _ _ (by decide), hX1, u3_k _ _ _ _ (by decide)]
                      refine gos_i (run_V (As := [.int (jI 4), .int (jI (X 56 0 ((5 * (Xa 80 0 r)) + k)))]) (rest := [.int (jI ((5 * (120 + r)) + k)), .ref (ad 75 0)]) hx hb hml hown hts (c_X9_recordOf l D tc base ad cnt X54 Y ln hRX54 hFx hMq125 (X 56 0 ((5 * (Xa 80 0 r)) + k)) (by omega) (by simp only [e129]; omega) hO128) (cwV 2 hts gX9_saves_X9_recordOf rfl rfl rfl (by decide +kernel) ⟨Nat.le_of_ble_eq_true rfl, Nat.le_of_ble_eq_true rfl⟩) hK hw (by omega) (by omega) sl_40_0 rfl rfl hl.1 rfl (Nat.le_of_ble_eq_true rfl) dX9_saves_240 ⟨Nat.le_of_ble_eq_true rfl, Nat.le_of_ble_eq_true rfl⟩) hS (fun z130 u131 H locs p132 hw hS => ?_)
                      have e133 : X54 70 0 4 = Xb 70 0 4 := by rw [hX54, u3_k _ _ _ _ (by decide), hX51, u3_k _ _ _ _ (by decide)]
                      obtain ⟨X134, eu131, hRX134, hG135, hMIX134, p132, h4X134, hOX134, hleX134⟩ := p132
                      subst eu131
                      have hFX134 : Frm [7100, 7200, 7300, 7400, 7500, 8000, 7000, 8100, 7700, 7800, 7900, 7600, 4042, 4043, 4044] X X134 := Frm.tr hFX54 (Frm.mono hG135 (by decide))
                      simp only [e133] at hleX134
                      refine x_i2l hx hb (by omega) dX9_saves_243 ?_
                      refine lv_goto (tgt := 256) hx hb dX9_saves_244 (by decide) ?_
                      refine x_last hx hb hK.1 hw hS (by omega) (by omega) ar_75 (len_E ar_75 (by decide)) (by omega) (by omega) (by omega) dX9_saves_256 (fun H locs hw hS => ?_)
                      obtain ⟨X136, hX136⟩ : ∃ Xq, Xq = u3 X134 75 0 ((5 * (120 + r)) + k) z130 := ⟨_, rfl⟩
                      rw [← hX136] at hw
                      have hRX136 : Rng X136 := by rw [hX136]; exact rng_set hRX134 (show (-9223372036854775808) ≤ z130 ∧ z130 ≤ 9223372036854775807 by omega)
                      have hVX136 : X136 75 0 ((5 * (120 + r)) + k) = z130 := by rw [hX136]; exact u3_s _ _ _ _ _
                      have hFX136 : Frm [7100, 7200, 7300, 7400, 7500, 8000, 7000, 8100, 7700, 7800, 7900, 7600, 4042, 4043, 4044] X X136 := by rw [hX136]; exact Frm.set hFX134 (show 7500 ∈ [7100, 7200, 7300, 7400, 7500, 8000, 7000, 8100, 7700, 7800, 7900, 7600, 4042, 4043, 4044] by decide)
                      refine lv_iinc (v := jI (k + 1)) (lv' := [(6, .int (jI (k + 1))), (8, .long (jL (X 56 0 ((5 * (Xa 80 0 r)) + k)))), (7, .int (jI ((5 * (120 + r)) + k))), (0, .ref (ad 40 0)), (1, .int (jI x)), (2, .int (jI shut)), (3, .int (jI r)), (4, .int (jI (Xa 80 0 r))), (5, .int (jI (X 55 0 (Xa 80 0 r))))]) hx hb dX9_saves_257 hl (k := 8) rfl (jI_add _ _) (by decide) rfl (fun ls hl => ?_)
                      refine lv_goto (tgt := 80) hx hb dX9_saves_260 (by decide) ?_
                      have q137 : Frm [7100, 7200, 7300, 7400, 7500, 8000, 7000, 8100, 7700, 7800, 7900, 7600] X32 Xb := Frm.tr Frm.rf (Frm.mono hGXb (by decide))
                      have q138 : Frm [7100, 7200, 7300, 7400, 7500, 8000, 7000, 8100, 7700, 7800, 7900, 7600] X32 X51 := by rw [hX51]; exact Frm.set q137 (show 7300 ∈ [7100, 7200, 7300, 7400, 7500, 8000, 7000, 8100, 7700, 7800, 7900, 7600] by decide)
                      have q139 : Frm [7100, 7200, 7300, 7400, 7500, 8000, 7000, 8100, 7700, 7800, 7900, 7600] X32 X54 := by rw [hX54]; exact Frm.set q138 (show 7400 ∈ [7100, 7200, 7300, 7400, 7500, 8000, 7000, 8100, 7700, 7800, 7900, 7600] by decide)
                      have q140 : Frm [7100, 7200, 7300, 7400, 7500, 8000, 7000, 8100, 7700, 7800, 7900, 7600] X32 X134 := Frm.tr q139 (Frm.mono hG135 (by decide))
                      have q141 : Frm [7100, 7200, 7300, 7400, 7500, 8000, 7000, 8100, 7700, 7800, 7900, 7600] X32 X136 := by rw [hX136]; exact Frm.set q140 (show 7500 ∈ [7100, 7200, 7300, 7400, 7500, 8000, 7000, 8100, 7700, 7800, 7900, 7600] by decide)
                      have e142 : X136 76 0 4 = Xb 76 0 4 := by rw [hX136, u3_k _ _ _ _ (by decide), hG135 76 0 4 (show 7600 ∉ [8000, 7000] by decide), hX54, u3_k _ _ _ _ (by decide), hX51, u3_k _ _ _ _ (by decide)]
                      have e143 : X136 70 0 4 = X134 70 0 4 := by rw [hX136, u3_k _ _ _ _ (by decide)]
                      have q144 : Frm [7500] X134 X136 := by rw [hX136]; exact Frm.set Frm.rf (show 7500 ∈ [7500] by decide)
                      have hO145 : ordOK X136 := ordOK.of hOX134 q144 (by decide)
                      have q146 : S4 X32 Xb := S4.tr S4.rf h4Xb
                      have q147 : S4 X32 X51 := by rw [hX51]; exact S4.set q146 ⟨by omega, by omega, by omega, by omega, by omega⟩
                      have q148 : S4 X32 X54 := by rw [hX54]; exact S4.set q147 ⟨by omega, by omega, by omega, by omega, by omega⟩
                      have q149 : S4 X32 X134 := S4.tr q148 h4X134
                      have q150 : S4 X32 X136 := by rw [hX136]; exact S4.set q149 ⟨by omega, by omega, by omega, by omega, by omega⟩
                      have e151 : X136 70 0 4 = X134 70 0 4 := (by rw [hX136, u3_k _ _ _ _ (by decide)])
                      have f152 : 0 ≤ X136 70 0 4 ∧ X136 70 0 4 ≤ 30 := hRX136 70 0 4
                      have e153 : X136 74 0 (5 * (120 + r) + k) = (X 46 0 ((5 * (X 55 0 (Xa 80 0 r))) + k)) := (by rw [hX136, u3_k _ _ _ _ (by decide), hG135 74 0 (5 * (120 + r) + k) (show 7400 ∉ [8000, 7000] by decide)]; exact hVX54)
                      have hcq154 : cOK X136 r (k + 1) := cOK.push (cOK.of hcO (by omega) hRX136 (by rw [show X136 40 0 2 = Xb 40 0 2 from (by rw [hX136, u3_k _ _ _ _ (by decide), hG135 40 0 2 (show 4003 ∉ [8000, 7000] by decide), hX54, u3_k _ _ _ _ (by decide), hX51, u3_k _ _ _ _ (by decide)])]; exact Int.le_refl _) (by omega) (fun r1 a b => ⟨(by rw [hX136, u3_k _ _ _ _ (by decide), hG135 71 0 (120 + r1) (show 7100 ∉ [8000, 7000] by decide), hX54, u3_k _ _ _ _ (by decide), hX51, u3_k _ _ _ _ (by decide)]), (by rw [hX136, u3_k _ _ _ _ (by decide), hG135 72 0 (120 + r1) (show 7200 ∉ [8000, 7000] by decide), hX54, u3_k _ _ _ _ (by decide), hX51, u3_k _ _ _ _ (by decide)])⟩) (fun j hj => ⟨(by rw [hX136, u3_k _ _ _ _ (by decide), hG135 74 0 j (show 7400 ∉ [8000, 7000] by decide), hX54, u3_j _ _ _ _ (by omega), hX51, u3_k _ _ _ _ (by decide)]), (by rw [hX136, u3_j _ _ _ _ (by omega), hG135 75 0 j (show 7500 ∉ [8000, 7000] by decide), hX54, u3_k _ _ _ _ (by decide), hX51, u3_k _ _ _ _ (by decide)])⟩) (by omega)) (by unfold ty4; rw [e153, hVX136]; exact ⟨fun _ => by omega, fun _ => by omega, fun _ => by omega⟩)
                      exact ih80 (k + 1) X136 _ _ _ (by omega) hRX136 q141 (by first | omega | (simp only [e142, e143]; omega)) (hO145) (q150) (by first | omega | (simp only [e142, e143]; omega)) (by first | omega | (simp only [e142, e143]; omega)) (hcq154) ((by rw [hX136, u3_k _ _ _ _ (by decide), hG135 71 0 (120 + r) (show 7100 ∉ [8000, 7000] by decide), hX54, u3_k _ _ _ _ (by decide), hX51, u3_k _ _ _ _ (by decide)]; exact h71)) ((by rw [hX136, u3_k _ _ _ _ (by decide), hG135 72 0 (120 + r) (show 7200 ∉ [8000, 7000] by decide), hX54, u3_k _ _ _ _ (by decide), hX51, u3_k _ _ _ _ (by decide)]; exact h72)) hw hS (lv_sub hl [3, 4, 5, 6, 7, 8, 0] rfl)
                  · refine lv_lload hx hb dX9_saves_219 (lv_at hl 0 rfl) ?_
                    refine lv_goto (tgt := 256) hx hb dX9_saves_221 (by decide) ?_
                    refine x_last hx hb hK.1 hw hS (by omega) (by omega) ar_75 (len_E ar_75 (by decide)) (by omega) (by omega) (by omega) dX9_saves_256 (fun H locs hw hS => ?_)
                    obtain ⟨X155, hX155⟩ : ∃ Xq, Xq = u3 X54 75 0 ((5 * (120 + r)) + k) (X 56 0 ((5 * (Xa 80 0 r)) + k)) := ⟨_, rfl⟩
                    rw [← hX155] at hw
                    have hRX155 : Rng X155 := by rw [hX155]; exact rng_set hRX54 (show (-9223372036854775808) ≤ (X 56 0 ((5 * (Xa 80 0 r)) + k)) ∧ (X 56 0 ((5 * (Xa 80 0 r)) + k)) ≤ 9223372036854775807 by omega)
                    have hVX155 : X155 75 0 ((5 * (120 + r)) + k) = (X 56 0 ((5 * (Xa 80 0 r)) + k)) := by rw [hX155]; exact u3_s _ _ _ _ _
                    have hFX155 : Frm [7100, 7200, 7300, 7400, 7500, 8000, 7000, 8100, 7700, 7800, 7900, 7600, 4042, 4043, 4044] X X155 := by rw [hX155]; exact Frm.set hFX54 (show 7500 ∈ [7100, 7200, 7300, 7400, 7500, 8000, 7000, 8100, 7700, 7800, 7900, 7600, 4042, 4043, 4044] by decide)
                    refine lv_iinc (v := jI (k + 1)) (lv' := [(6, .int (jI (k + 1))), (8, .long (jL (X 56 0 ((5 * (Xa 80 0 r)) + k)))), (7, .int (jI ((5 * (120 + r)) + k))), (0, .ref (ad 40 0)), (1, .int (jI x)), (2, .int (jI shut)), (3, .int (jI r)), (4, .int (jI (Xa 80 0 r))), (5, .int (jI (X 55 0 (Xa 80 0 r))))]) hx hb dX9_saves_257 hl (k := 8) rfl (jI_add _ _) (by decide) rfl (fun ls hl => ?_)
                    refine lv_goto (tgt := 80) hx hb dX9_saves_260 (by decide) ?_
                    have q156 : Frm [7100, 7200, 7300, 7400, 7500, 8000, 7000, 8100, 7700, 7800, 7900, 7600] X32 Xb := Frm.tr Frm.rf (Frm.mono hGXb (by decide))
                    have q157 : Frm [7100, 7200, 7300, 7400, 7500, 8000, 7000, 8100, 7700, 7800, 7900, 7600] X32 X51 := by rw [hX51]; exact Frm.set q156 (show 7300 ∈ [7100, 7200, 7300, 7400, 7500, 8000, 7000, 8100, 7700, 7800, 7900, 7600] by decide)
                    have q158 : Frm [7100, 7200, 7300, 7400, 7500, 8000, 7000, 8100, 7700, 7800, 7900, 7600] X32 X54 := by rw [hX54]; exact Frm.set q157 (show 7400 ∈ [7100, 7200, 7300, 7400, 7500, 8000, 7000, 8100, 7700, 7800, 7900, 7600] by decide)
                    have q159 : Frm [7100, 7200, 7300, 7400, 7500, 8000, 7000, 8100, 7700, 7800, 7900, 7600] X32 X155 := by rw [hX155]; exact Frm.set q158 (show 7500 ∈ [7100, 7200, 7300, 7400, 7500, 8000, 7000, 8100, 7700, 7800, 7900, 7600] by decide)
                    have e160 : X155 76 0 4 = Xb 76 0 4 := by rw [hX155, u3_k _ _ _ _ (by decide), hX54, u3_k _ _ _ _ (by decide), hX51, u3_k _ _ _ _ (by decide)]
                    have e161 : X155 70 0 4 = Xb 70 0 4 := by rw [hX155, u3_k _ _ _ _ (by decide), hX54, u3_k _ _ _ _ (by decide), hX51, u3_k _ _ _ _ (by decide)]
                    have q162 : Frm [7300, 7400, 7500] Xb X51 := by rw [hX51]; exact Frm.set Frm.rf (show 7300 ∈ [7300, 7400, 7500] by decide)
                    have q163 : Frm [7300, 7400, 7500] Xb X54 := by rw [hX54]; exact Frm.set q162 (show 7400 ∈ [7300, 7400, 7500] by decide)
                    have q164 : Frm [7300, 7400, 7500] Xb X155 := by rw [hX155]; exact Frm.set q163 (show 7500 ∈ [7300, 7400, 7500] by decide)
                    have hO165 : ordOK X155 := ordOK.of hOb q164 (by decide)
                    have q166 : S4 X32 Xb := S4.tr S4.rf h4Xb
                    have q167 : S4 X32 X51 := by rw [hX51]; exact S4.set q166 ⟨by omega, by omega, by omega, by omega, by omega⟩
                    have q168 : S4 X32 X54 := by rw [hX54]; exact S4.set q167 ⟨by omega, by omega, by omega, by omega, by omega⟩
                    have q169 : S4 X32 X155 := by rw [hX155]; exact S4.set q168 ⟨by omega, by omega, by omega, by omega, by omega⟩
                    have e170 : X155 70 0 4 = Xb 70 0 4 := (by rw [hX155, u3_k _ _ _ _ (by decide), hX54, u3_k _ _ _ _ (by decide), hX51, u3_k _ _ _ _ (by decide)])
                    have f171 : 0 ≤ X155 70 0 4 ∧ X155 70 0 4 ≤ 30 := hRX155 70 0 4
                    have e172 : X155 74 0 (5 * (120 + r) + k) = (X 46 0 ((5 * (X 55 0 (Xa 80 0 r))) + k)) := (by rw [hX155, u3_k _ _ _ _ (by decide)]; exact hVX54)
                    have hcq173 : cOK X155 r (k + 1) := cOK.push (cOK.of hcO (by omega) hRX155 (by rw [show X155 40 0 2 = Xb 40 0 2 from (by rw [hX155, u3_k _ _ _ _ (by decide), hX54, u3_k _ _ _ _ (by decide), hX51, u3_k _ _ _ _ (by decide)])]; exact Int.le_refl _) (by omega) (fun r1 a b => ⟨(by rw [hX155, u3_k _ _ _ _ (by decide), hX54, u3_k _ _ _ _ (by decide), hX51, u3_k _ _ _ _ (by decide)]), (by rw [hX155, u3_k _ _ _ _ (by decide), hX54, u3_k _ _ _ _ (by decide), hX51, u3_k _ _ _ _ (by decide)])⟩) (fun j hj => ⟨(by rw [hX155, u3_k _ _ _ _ (by decide), hX54, u3_j _ _ _ _ (by omega), hX51, u3_k _ _ _ _ (by decide)]), (by rw [hX155, u3_j _ _ _ _ (by omega), hX54, u3_k _ _ _ _ (by decide), hX51, u3_k _ _ _ _ (by decide)])⟩) (by omega)) (by unfold ty4; rw [e172, hVX155]; exact ⟨fun _ => by omega, fun _ => by omega, fun _ => by omega⟩)
                    exact ih80 (k + 1) X155 _ _ _ (by omega) hRX155 q159 (by first | omega | (simp only [e160, e161]; omega)) (hO165) (q169) (by first | omega | (simp only [e160, e161]; omega)) (by first | omega | (simp only [e160, e161]; omega)) (hcq173) ((by rw [hX155, u3_k _ _ _ _ (by decide), hX54, u3_k _ _ _ _ (by decide), hX51, u3_k _ _ _ _ (by decide)]; exact h71)) ((by rw [hX155, u3_k _ _ _ _ (by decide), hX54, u3_k _ _ _ _ (by decide), hX51, u3_k _ _ _ _ (by decide)]; exact h72)) hw hS (lv_sub hl [3, 4, 5, 6, 7, 8, 0] rfl)
              · refine lv_iload_n hx hb dX9_saves_107 rfl (lv_at hl 2 rfl) ?_
                refine x_if_eq (tgt := 132) hx hb (by omega) dX9_saves_108 (by decide) (fun c174 => ?_) (fun c174 => ?_)
                · refine lv_iconst (v := jI 5) hx hb dX9_saves_132 rfl ?_
                  refine lv_bipush (v := jI 120) hx hb dX9_saves_133 (by decide) ?_
                  refine lv_iload_n hx hb dX9_saves_135 rfl (lv_at hl 3 rfl) ?_
                  refine x_iadd hx hb dX9_saves_136 ?_
                  refine x_imul hx hb dX9_saves_137 ?_
                  refine lv_iload hx hb dX9_saves_138 (lv_at hl 6 rfl) ?_
                  refine x_iadd hx hb dX9_saves_140 ?_
                  refine lv_istore (lv' := [(7, .int (jI ((5 * (120 + r)) + k))), (0, .ref (ad 40 0)), (1, .int (jI x)), (2, .int (jI shut)), (3, .int (jI r)), (4, .int (jI (Xa 80 0 r))), (5, .int (jI (X 55 0 (Xa 80 0 r)))), (6, .int (jI k))]) hx hb dX9_saves_141 hl (by decide) rfl (fun ls hl => ?_)
                  refine lv_aload_n hx hb dX9_saves_143 rfl (lv_at hl 1 rfl) ?_
                  refine x_geto hx hb hf9 hw (by omega) (by omega) sl_40_15 lk48 dX9_saves_144 ?_
                  refine lv_iconst (v := jI 5) hx hb dX9_saves_147 rfl ?_
                  refine lv_iload hx hb dX9_saves_148 (lv_at hl 5 rfl) ?_
                  refine x_imul hx hb dX9_saves_150 ?_
                  refine lv_iload hx hb dX9_saves_151 (lv_at hl 7 rfl) ?_
                  refine x_iadd hx hb dX9_saves_153 ?_
                  obtain ⟨hy1, hy2, hy3⟩ := hMI.1 (Xa 80 0 r) k (by omega) (by omega) (by omega) (by omega)
                  refine x_lald hx hb hK.1 hw (by omega) (by omega) ar_56 (len_E ar_56 (by decide)) (by omega) (by omega) (by omega) dX9_saves_154 ?_
                  have e175 : ∀ p9 q9 : Int, Xb 56 p9 q9 = X 56 p9 q9 := fun p9 q9 => by rw [hGXb 56 p9 q9 (show 5600 ∉ [7100, 7200, 7300, 7400, 7500, 8000, 7000, 8100, 7700, 7800, 7900, 7600] by decide), hX32, u3_k _ _ _ _ (by decide), hX29, u3_k _ _ _ _ (by decide), hGXa 56 p9 q9 (show 5600 ∉ [7100, 7200, 7300, 7400, 7500, 8000, 7000, 8100, 7700, 7800, 7900, 7600] by decide), hG13 56 p9 q9 (show 5600 ∉ [8000, 7000] by decide), hX2, u3_k _ _ _ _ (by decide), hX1, u3_k _ _ _ _ (by decide)]
                  rw [e175 0 ((5 * (Xa 80 0 r)) + k)]
                  have f176 : (-9223372036854775808) ≤ X 56 0 ((5 * (Xa 80 0 r)) + k) ∧ X 56 0 ((5 * (Xa 80 0 r)) + k) ≤ 9223372036854775807 := hR 56 0 ((5 * (Xa 80 0 r)) + k)
                  refine lv_lstore (lv' := [(8, .long (jL (X 56 0 ((5 * (Xa 80 0 r)) + k)))), (7, .int (jI ((5 * (120 + r)) + k))), (0, .ref (ad 40 0)), (1, .int (jI x)), (2, .int (jI shut)), (3, .int (jI r)), (4, .int (jI (Xa 80 0 r))), (5, .int (jI (X 55 0 (Xa 80 0 r)))), (6, .int (jI k))]) hx hb dX9_saves_155 hl (by decide) rfl (fun ls hl => ?_)
                  refine lv_aload_n hx hb dX9_saves_157 rfl (lv_at hl 2 rfl) ?_
                  refine x_geto hx hb hf9 hw (by omega) (by omega) sl_40_32 lk90 dX9_saves_158 ?_
                  refine lv_iload hx hb dX9_saves_161 (lv_at hl 1 rfl) ?_
                  refine lv_aload_n hx hb dX9_saves_163 rfl (lv_at hl 2 rfl) ?_
                  refine x_geto hx hb hf9 hw (by omega) (by omega) sl_40_4 lk17 dX9_saves_164 ?_
                  refine lv_iconst (v := jI 5) hx hb dX9_saves_167 rfl ?_
                  refine lv_iload hx hb dX9_saves_168 (lv_at hl 7 rfl) ?_
                  refine x_imul hx hb dX9_saves_170 ?_
                  refine lv_iload hx hb dX9_saves_171 (lv_at hl 8 rfl) ?_
                  refine x_iadd hx hb dX9_saves_173 ?_
                  refine x_iald hx hb hK.1 hw (by omega) (by omega) ar_45 (len_E ar_45 (by decide)) (by omega) (by omega) (by omega) dX9_saves_174 ?_
                  have e177 : ∀ p9 q9 : Int, Xb 45 p9 q9 = X 45 p9 q9 := fun p9 q9 => by rw [hGXb 45 p9 q9 (show 4500 ∉ [7100, 7200, 7300, 7400, 7500, 8000, 7000, 8100, 7700, 7800, 7900, 7600] by decide), hX32, u3_k _ _ _ _ (by decide), hX29, u3_k _ _ _ _ (by decide), hGXa 45 p9 q9 (show 4500 ∉ [7100, 7200, 7300, 7400, 7500, 8000, 7000, 8100, 7700, 7800, 7900, 7600] by decide), hG13 45 p9 q9 (show 4500 ∉ [8000, 7000] by decide), hX2, u3_k _ _ _ _ (by decide), hX1, u3_k _ _ _ _ (by decide)]
                  rw [e177 0 ((5 * (X 55 0 (Xa 80 0 r))) + k)]
                  have f178 : 0 ≤ X 45 0 ((5 * (X 55 0 (Xa 80 0 r))) + k) ∧ X 45 0 ((5 * (X 55 0 (Xa 80 0 r))) + k) ≤ 19 := hR 45 0 ((5 * (X 55 0 (Xa 80 0 r))) + k)
                  refine x_iast hx hb hK.1 hw hS (by omega) (by omega) ar_73 (len_E ar_73 (by decide)) (by omega) (by omega) (by omega) dX9_saves_175 (fun H locs hw hS => ?_)
                  obtain ⟨X179, hX179⟩ : ∃ Xq, Xq = u3 Xb 73 0 ((5 * (120 + r)) + k) (X 45 0 ((5 * (X 55 0 (Xa 80 0 r))) + k)) := ⟨_, rfl⟩
                  rw [← hX179] at hw
                  have hRX179 : Rng X179 := by rw [hX179]; exact rng_set hRXb (show 0 ≤ (X 45 0 ((5 * (X 55 0 (Xa 80 0 r))) + k)) ∧ (X 45 0 ((5 * (X 55 0 (Xa 80 0 r))) + k)) ≤ 19 by omega)
                  have hVX179 : X179 73 0 ((5 * (120 + r)) + k) = (X 45 0 ((5 * (X 55 0 (Xa 80 0 r))) + k)) := by rw [hX179]; exact u3_s _ _ _ _ _
                  have hFX179 : Frm [7100, 7200, 7300, 7400, 7500, 8000, 7000, 8100, 7700, 7800, 7900, 7600, 4042, 4043, 4044] X X179 := by rw [hX179]; exact Frm.set hFXb (show 7300 ∈ [7100, 7200, 7300, 7400, 7500, 8000, 7000, 8100, 7700, 7800, 7900, 7600, 4042, 4043, 4044] by decide)
                  refine lv_aload_n hx hb dX9_saves_176 rfl (lv_at hl 2 rfl) ?_
                  refine x_geto hx hb hf9 hw (by omega) (by omega) sl_40_33 lk93 dX9_saves_177 ?_
                  refine lv_iload hx hb dX9_saves_180 (lv_at hl 1 rfl) ?_
                  refine lv_aload_n hx hb dX9_saves_182 rfl (lv_at hl 2 rfl) ?_
                  refine x_geto hx hb hf9 hw (by omega) (by omega) sl_40_5 lk20 dX9_saves_183 ?_
                  refine lv_iconst (v := jI 5) hx hb dX9_saves_186 rfl ?_
                  refine lv_iload hx hb dX9_saves_187 (lv_at hl 7 rfl) ?_
                  refine x_imul hx hb dX9_saves_189 ?_
                  refine lv_iload hx hb dX9_saves_190 (lv_at hl 8 rfl) ?_
                  refine x_iadd hx hb dX9_saves_192 ?_
                  refine x_iald hx hb hK.1 hw (by omega) (by omega) ar_46 (len_E ar_46 (by decide)) (by omega) (by omega) (by omega) dX9_saves_193 ?_
                  have e180 : ∀ p9 q9 : Int, X179 46 p9 q9 = X 46 p9 q9 := fun p9 q9 => by rw [hX179, u3_k _ _ _ _ (by decide), hGXb 46 p9 q9 (show 4600 ∉ [7100, 7200, 7300, 7400, 7500, 8000, 7000, 8100, 7700, 7800, 7900, 7600] by decide), hX32, u3_k _ _ _ _ (by decide), hX29, u3_k _ _ _ _ (by decide), hGXa 46 p9 q9 (show 4600 ∉ [7100, 7200, 7300, 7400, 7500, 8000, 7000, 8100, 7700, 7800, 7900, 7600] by decide), hG13 46 p9 q9 (show 4600 ∉ [8000, 7000] by decide), hX2, u3_k _ _ _ _ (by decide), hX1, u3_k _ _ _ _ (by decide)]
                  rw [e180 0 ((5 * (X 55 0 (Xa 80 0 r))) + k)]
                  have f181 : 0 ≤ X 46 0 ((5 * (X 55 0 (Xa 80 0 r))) + k) ∧ X 46 0 ((5 * (X 55 0 (Xa 80 0 r))) + k) ≤ 5 := hR 46 0 ((5 * (X 55 0 (Xa 80 0 r))) + k)
                  refine x_iast hx hb hK.1 hw hS (by omega) (by omega) ar_74 (len_E ar_74 (by decide)) (by omega) (by omega) (by omega) dX9_saves_194 (fun H locs hw hS => ?_)
                  obtain ⟨X182, hX182⟩ : ∃ Xq, Xq = u3 X179 74 0 ((5 * (120 + r)) + k) (X 46 0 ((5 * (X 55 0 (Xa 80 0 r))) + k)) := ⟨_, rfl⟩
                  rw [← hX182] at hw
                  have hRX182 : Rng X182 := by rw [hX182]; exact rng_set hRX179 (show 0 ≤ (X 46 0 ((5 * (X 55 0 (Xa 80 0 r))) + k)) ∧ (X 46 0 ((5 * (X 55 0 (Xa 80 0 r))) + k)) ≤ 5 by omega)
                  have hVX182 : X182 74 0 ((5 * (120 + r)) + k) = (X 46 0 ((5 * (X 55 0 (Xa 80 0 r))) + k)) := by rw [hX182]; exact u3_s _ _ _ _ _
                  have hFX182 : Frm [7100, 7200, 7300, 7400, 7500, 8000, 7000, 8100, 7700, 7800, 7900, 7600, 4042, 4043, 4044] X X182 := by rw [hX182]; exact Frm.set hFX179 (show 7400 ∈ [7100, 7200, 7300, 7400, 7500, 8000, 7000, 8100, 7700, 7800, 7900, 7600, 4042, 4043, 4044] by decide)
                  refine lv_aload_n hx hb dX9_saves_195 rfl (lv_at hl 2 rfl) ?_
                  refine x_geto hx hb hf9 hw (by omega) (by omega) sl_40_34 lk96 dX9_saves_196 ?_
                  refine lv_iload hx hb dX9_saves_199 (lv_at hl 1 rfl) ?_
                  refine lv_aload_n hx hb dX9_saves_201 rfl (lv_at hl 2 rfl) ?_
                  refine x_geto hx hb hf9 hw (by omega) (by omega) sl_40_33 lk93 dX9_saves_202 ?_
                  refine lv_iload hx hb dX9_saves_205 (lv_at hl 1 rfl) ?_
                  refine x_iald hx hb hK.1 hw (by omega) (by omega) ar_74 (len_E ar_74 (by decide)) (by omega) (by omega) (by omega) dX9_saves_207 ?_
                  rw [hVX182]
                  refine lv_iconst (v := jI 2) hx hb dX9_saves_208 rfl ?_
                  refine x_icmp_lt (tgt := 219) hx hb (by omega) (by omega) dX9_saves_209 (by decide) (fun c183 => ?_) (fun c183 => ?_)
                  · refine lv_lload hx hb dX9_saves_219 (lv_at hl 0 rfl) ?_
                    refine lv_goto (tgt := 256) hx hb dX9_saves_221 (by decide) ?_
                    refine x_last hx hb hK.1 hw hS (by omega) (by omega) ar_75 (len_E ar_75 (by decide)) (by omega) (by omega) (by omega) dX9_saves_256 (fun H locs hw hS => ?_)
                    obtain ⟨X184, hX184⟩ : ∃ Xq, Xq = u3 X182 75 0 ((5 * (120 + r)) + k) (X 56 0 ((5 * (Xa 80 0 r)) + k)) := ⟨_, rfl⟩
                    rw [← hX184] at hw
                    have hRX184 : Rng X184 := by rw [hX184]; exact rng_set hRX182 (show (-9223372036854775808) ≤ (X 56 0 ((5 * (Xa 80 0 r)) + k)) ∧ (X 56 0 ((5 * (Xa 80 0 r)) + k)) ≤ 9223372036854775807 by omega)
                    have hVX184 : X184 75 0 ((5 * (120 + r)) + k) = (X 56 0 ((5 * (Xa 80 0 r)) + k)) := by rw [hX184]; exact u3_s _ _ _ _ _
                    have hFX184 : Frm [7100, 7200, 7300, 7400, 7500, 8000, 7000, 8100, 7700, 7800, 7900, 7600, 4042, 4043, 4044] X X184 := by rw [hX184]; exact Frm.set hFX182 (show 7500 ∈ [7100, 7200, 7300, 7400, 7500, 8000, 7000, 8100, 7700, 7800, 7900, 7600, 4042, 4043, 4044] by decide)
                    refine lv_iinc (v := jI (k + 1)) (lv' := [(6, .int (jI (k + 1))), (8, .long (jL (X 56 0 ((5 * (Xa 80 0 r)) + k)))), (7, .int (jI ((5 * (120 + r)) + k))), (0, .ref (ad 40 0)), (1, .int (jI x)), (2, .int (jI shut)), (3, .int (jI r)), (4, .int (jI (Xa 80 0 r))), (5, .int (jI (X 55 0 (Xa 80 0 r))))]) hx hb dX9_saves_257 hl (k := 8) rfl (jI_add _ _) (by decide) rfl (fun ls hl => ?_)
                    refine lv_goto (tgt := 80) hx hb dX9_saves_260 (by decide) ?_
                    have q185 : Frm [7100, 7200, 7300, 7400, 7500, 8000, 7000, 8100, 7700, 7800, 7900, 7600] X32 Xb := Frm.tr Frm.rf (Frm.mono hGXb (by decide))
                    have q186 : Frm [7100, 7200, 7300, 7400, 7500, 8000, 7000, 8100, 7700, 7800, 7900, 7600] X32 X179 := by rw [hX179]; exact Frm.set q185 (show 7300 ∈ [7100, 7200, 7300, 7400, 7500, 8000, 7000, 8100, 7700, 7800, 7900, 7600] by decide)
                    have q187 : Frm [7100, 7200, 7300, 7400, 7500, 8000, 7000, 8100, 7700, 7800, 7900, 7600] X32 X182 := by rw [hX182]; exact Frm.set q186 (show 7400 ∈ [7100, 7200, 7300, 7400, 7500, 8000, 7000, 8100, 7700, 7800, 7900, 7600] by decide)
                    have q188 : Frm [7100, 7200, 7300, 7400, 7500, 8000, 7000, 8100, 7700, 7800, 7900, 7600] X32 X184 := by rw [hX184]; exact Frm.set q187 (show 7500 ∈ [7100, 7200, 7300, 7400, 7500, 8000, 7000, 8100, 7700, 7800, 7900, 7600] by decide)
                    have e189 : X184 76 0 4 = Xb 76 0 4 := by rw [hX184, u3_k _ _ _ _ (by decide), hX182, u3_k _ _ _ _ (by decide), hX179, u3_k _ _ _ _ (by decide)]
                    have e190 : X184 70 0 4 = Xb 70 0 4 := by rw [hX184, u3_k _ _ _ _ (by decide), hX182, u3_k _ _ _ _ (by decide), hX179, u3_k _ _ _ _ (by decide)]
                    have q191 : Frm [7300, 7400, 7500] Xb X179 := by rw [hX179]; exact Frm.set Frm.rf (show 7300 ∈ [7300, 7400, 7500] by decide)
                    have q192 : Frm [7300, 7400, 7500] Xb X182 := by rw [hX182]; exact Frm.set q191 (show 7400 ∈ [7300, 7400, 7500] by decide)
                    have q193 : Frm [7300, 7400, 7500] Xb X184 := by rw [hX184]; exact Frm.set q192 (show 7500 ∈ [7300, 7400, 7500] by decide)
                    have hO194 : ordOK X184 := ordOK.of hOb q193 (by decide)
                    have q195 : S4 X32 Xb := S4.tr S4.rf h4Xb
                    have q196 : S4 X32 X179 := by rw [hX179]; exact S4.set q195 ⟨by omega, by omega, by omega, by omega, by omega⟩
                    have q197 : S4 X32 X182 := by rw [hX182]; exact S4.set q196 ⟨by omega, by omega, by omega, by omega, by omega⟩
                    have q198 : S4 X32 X184 := by rw [hX184]; exact S4.set q197 ⟨by omega, by omega, by omega, by omega, by omega⟩
                    have e199 : X184 70 0 4 = Xb 70 0 4 := (by rw [hX184, u3_k _ _ _ _ (by decide), hX182, u3_k _ _ _ _ (by decide), hX179, u3_k _ _ _ _ (by decide)])
                    have f200 : 0 ≤ X184 70 0 4 ∧ X184 70 0 4 ≤ 30 := hRX184 70 0 4
                    have e201 : X184 74 0 (5 * (120 + r) + k) = (X 46 0 ((5 * (X 55 0 (Xa 80 0 r))) + k)) := (by rw [hX184, u3_k _ _ _ _ (by decide)]; exact hVX182)
                    have hcq202 : cOK X184 r (k + 1) := cOK.push (cOK.of hcO (by omega) hRX184 (by rw [show X184 40 0 2 = Xb 40 0 2 from (by rw [hX184, u3_k _ _ _ _ (by decide), hX182, u3_k _ _ _ _ (by decide), hX179, u3_k _ _ _ _ (by decide)])]; exact Int.le_refl _) (by omega) (fun r1 a b => ⟨(by rw [hX184, u3_k _ _ _ _ (by decide), hX182, u3_k _ _ _ _ (by decide), hX179, u3_k _ _ _ _ (by decide)]), (by rw [hX184, u3_k _ _ _ _ (by decide), hX182, u3_k _ _ _ _ (by decide), hX179, u3_k _ _ _ _ (by decide)])⟩) (fun j hj => ⟨(by rw [hX184, u3_k _ _ _ _ (by decide), hX182, u3_j _ _ _ _ (by omega), hX179, u3_k _ _ _ _ (by decide)]), (by rw [hX184, u3_j _ _ _ _ (by omega), hX182, u3_k _ _ _ _ (by decide), hX179, u3_k _ _ _ _ (by decide)])⟩) (by omega)) (by unfold ty4; rw [e201, hVX184]; exact ⟨fun _ => by omega, fun _ => by omega, fun _ => by omega⟩)
                    exact ih80 (k + 1) X184 _ _ _ (by omega) hRX184 q188 (by first | omega | (simp only [e189, e190]; omega)) (hO194) (q198) (by first | omega | (simp only [e189, e190]; omega)) (by first | omega | (simp only [e189, e190]; omega)) (hcq202) ((by rw [hX184, u3_k _ _ _ _ (by decide), hX182, u3_k _ _ _ _ (by decide), hX179, u3_k _ _ _ _ (by decide)]; exact h71)) ((by rw [hX184, u3_k _ _ _ _ (by decide), hX182, u3_k _ _ _ _ (by decide), hX179, u3_k _ _ _ _ (by decide)]; exact h72)) hw hS (lv_sub hl [3, 4, 5, 6, 7, 8, 0] rfl)
                  · refine lv_lload hx hb dX9_saves_212 (lv_at hl 0 rfl) ?_
                    refine lv_lconst (v := jL 0) hx hb dX9_saves_214 (by decide) ?_
                    refine x_lcmp hx hb (by omega) (by omega) dX9_saves_215 ?_
                    obtain ⟨z203, ez203⟩ : ∃ y : Int, y = cmpZ (X 56 0 ((5 * (Xa 80 0 r)) + k)) 0 := ⟨_, rfl⟩
                    rw [← ez203]
                    have gz203 : (z203 < 0 ↔ ((X 56 0 ((5 * (Xa 80 0 r)) + k)) : Int) < 0) ∧ (z203 = 0 ↔ ((X 56 0 ((5 * (Xa 80 0 r)) + k)) : Int) = 0) ∧ -1 ≤ z203 ∧ z203 ≤ 1 := by rw [ez203]; exact ⟨cmpZ_lt, cmpZ_eq, (cmpZ_r _ _).1, (cmpZ_r _ _).2⟩
                    clear ez203
                    refine x_if_ge (tgt := 224) hx hb (by omega) dX9_saves_216 (by decide) (fun c204 => ?_) (fun c204 => ?_)
                    · refine lv_aload_n hx hb dX9_saves_224 rfl (lv_at hl 2 rfl) ?_
                      refine x_geto hx hb hf9 hw (by omega) (by omega) sl_40_33 lk93 dX9_saves_225 ?_
                      refine lv_iload hx hb dX9_saves_228 (lv_at hl 1 rfl) ?_
                      refine x_iald hx hb hK.1 hw (by omega) (by omega) ar_74 (len_E ar_74 (by decide)) (by omega) (by omega) (by omega) dX9_saves_230 ?_
                      rw [hVX182]
                      refine lv_iconst (v := jI 2) hx hb dX9_saves_231 rfl ?_
                      refine x_icmp_ne (tgt := 247) hx hb (by omega) (by omega) dX9_saves_232 (by decide) (fun c205 => ?_) (fun c205 => ?_)
                      · refine lv_aload_n hx hb dX9_saves_247 rfl (lv_at hl 2 rfl) ?_
                        refine lv_iconst (v := jI 4) hx hb dX9_saves_248 rfl ?_
                        refine lv_lload hx hb dX9_saves_249 (lv_at hl 0 rfl) ?_
                        refine x_l2i hx hb dX9_saves_251 ?_
                        have q206 : S4 X X1 := by rw [hX1]; exact S4.set S4.rf ⟨by omega, by omega, by omega, by omega, by omega⟩
                        have q207 : S4 X X2 := by rw [hX2]; exact S4.set q206 ⟨by omega, by omega, by omega, by omega, by omega⟩
                        have q208 : S4 X X12 := S4.tr q207 h4X12
                        have q209 : S4 X Xa := S4.tr q208 h4Xa
                        have q210 : S4 X X29 := by rw [hX29]; exact S4.set q209 ⟨by omega, by omega, by omega, by omega, by omega⟩
                        have q211 : S4 X X32 := by rw [hX32]; exact S4.set q210 ⟨by omega, by omega, by omega, by omega, by omega⟩
                        have q212 : S4 X Xb := S4.tr q211 h4Xb
                        have q213 : S4 X X179 := by rw [hX179]; exact S4.set q212 ⟨by omega, by omega, by omega, by omega, by omega⟩
                        have q214 : S4 X X182 := by rw [hX182]; exact S4.set q213 ⟨by omega, by omega, by omega, by omega, by omega⟩
                        have hMq215 : MInv X182 := minv_s4 hMI hRX182 hFX182 q214 (by decide)
                        have e216 : X182 76 0 4 = Xb 76 0 4 := by rw [hX182, u3_k _ _ _ _ (by decide), hX179, u3_k _ _ _ _ (by decide)]
                        refine gos_i (run_V (As := [.int (jI 4), .int (jI (X 56 0 ((5 * (Xa 80 0 r)) + k)))]) (rest := [.int (jI ((5 * (120 + r)) + k)), .ref (ad 75 0)]) hx hb hml hown hts (c_X9_rowOf l D tc base ad cnt X182 Y ln hRX182 hFx hMq215 (X 56 0 ((5 * (Xa 80 0 r)) + k)) (by omega) (by simp only [e216]; omega)) (cwV 2 hts gX9_saves_X9_rowOf rfl rfl rfl (by decide +kernel) ⟨Nat.le_of_ble_eq_true rfl, Nat.le_of_ble_eq_true rfl⟩) hK hw (by omega) (by omega) sl_40_0 rfl rfl hl.1 rfl (Nat.le_of_ble_eq_true rfl) dX9_saves_252 ⟨Nat.le_of_ble_eq_true rfl, Nat.le_of_ble_eq_true rfl⟩) hS (fun z217 u218 H locs p219 hw hS => ?_)
                        obtain ⟨X220, eu218, hRX220, hG221, hMIX220, p219⟩ := p219
                        subst eu218
                        have hFX220 : Frm [7100, 7200, 7300, 7400, 7500, 8000, 7000, 8100, 7700, 7800, 7900, 7600, 4042, 4043, 4044] X X220 := Frm.tr hFX182 (Frm.mono hG221 (by decide))
                        refine x_i2l hx hb (by omega) dX9_saves_255 ?_
                        refine x_last hx hb hK.1 hw hS (by omega) (by omega) ar_75 (len_E ar_75 (by decide)) (by omega) (by omega) (by omega) dX9_saves_256 (fun H locs hw hS => ?_)
                        obtain ⟨X222, hX222⟩ : ∃ Xq, Xq = u3 X220 75 0 ((5 * (120 + r)) + k) z217 := ⟨_, rfl⟩
                        rw [← hX222] at hw
                        have hRX222 : Rng X222 := by rw [hX222]; exact rng_set hRX220 (show (-9223372036854775808) ≤ z217 ∧ z217 ≤ 9223372036854775807 by omega)
                        have hVX222 : X222 75 0 ((5 * (120 + r)) + k) = z217 := by rw [hX222]; exact u3_s _ _ _ _ _
                        have hFX222 : Frm [7100, 7200, 7300, 7400, 7500, 8000, 7000, 8100, 7700, 7800, 7900, 7600, 4042, 4043, 4044] X X222 := by rw [hX222]; exact Frm.set hFX220 (show 7500 ∈ [7100, 7200, 7300, 7400, 7500, 8000, 7000, 8100, 7700, 7800, 7900, 7600, 4042, 4043, 4044] by decide)
                        refine lv_iinc (v := jI (k + 1)) (lv' := [(6, .int (jI (k + 1))), (8, .long (jL (X 56 0 ((5 * (Xa 80 0 r)) + k)))), (7, .int (jI ((5 * (120 + r)) + k))), (0, .ref (ad 40 0)), (1, .int (jI x)), (2, .int (jI shut)), (3, .int (jI r)), (4, .int (jI (Xa 80 0 r))), (5, .int (jI (X 55 0 (Xa 80 0 r))))]) hx hb dX9_saves_257 hl (k := 8) rfl (jI_add _ _) (by decide) rfl (fun ls hl => ?_)
                        refine lv_goto (tgt := 80) hx hb dX9_saves_260 (by decide) ?_
                        have q223 : Frm [7100, 7200, 7300, 7400, 7500, 8000, 7000, 8100, 7700, 7800, 7900, 7600] X32 Xb := Frm.tr Frm.rf (Frm.mono hGXb (by decide))
                        have q224 : Frm [7100, 7200, 7300, 7400, 7500, 8000, 7000, 8100, 7700, 7800, 7900, 7600] X32 X179 := by rw [hX179]; exact Frm.set q223 (show 7300 ∈ [7100, 7200, 7300, 7400, 7500, 8000, 7000, 8100, 7700, 7800, 7900, 7600] by decide)
                        have q225 : Frm [7100, 7200, 7300, 7400, 7500, 8000, 7000, 8100, 7700, 7800, 7900, 7600] X32 X182 := by rw [hX182]; exact Frm.set q224 (show 7400 ∈ [7100, 7200, 7300, 7400, 7500, 8000, 7000, 8100, 7700, 7800, 7900, 7600] by decide)
                        have q226 : Frm [7100, 7200, 7300, 7400, 7500, 8000, 7000, 8100, 7700, 7800, 7900, 7600] X32 X220 := Frm.tr q225 (Frm.mono hG221 (by decide))
                        have q227 : Frm [7100, 7200, 7300, 7400, 7500, 8000, 7000, 8100, 7700, 7800, 7900, 7600] X32 X222 := by rw [hX222]; exact Frm.set q226 (show 7500 ∈ [7100, 7200, 7300, 7400, 7500, 8000, 7000, 8100, 7700, 7800, 7900, 7600] by decide)
                        have e228 : X222 76 0 4 = X220 76 0 4 := by rw [hX222, u3_k _ _ _ _ (by decide)]
                        have e229 : X222 70 0 4 = Xb 70 0 4 := by rw [hX222, u3_k _ _ _ _ (by decide), hG221 70 0 4 (show 7000 ∉ [8100, 7700, 7800, 7900, 7600] by decide), hX182, u3_k _ _ _ _ (by decide), hX179, u3_k _ _ _ _ (by decide)]
                        have q230 : Frm [7300, 7400, 7500, 7600, 7700, 7800, 7900, 8100] Xb X179 := by rw [hX179]; exact Frm.set Frm.rf (show 7300 ∈ [7300, 7400, 7500, 7600, 7700, 7800, 7900, 8100] by decide)
                        have q231 : Frm [7300, 7400, 7500, 7600, 7700, 7800, 7900, 8100] Xb X182 := by rw [hX182]; exact Frm.set q230 (show 7400 ∈ [7300, 7400, 7500, 7600, 7700, 7800, 7900, 8100] by decide)
                        have q232 : Frm [7300, 7400, 7500, 7600, 7700, 7800, 7900, 8100] Xb X220 := Frm.tr q231 (Frm.mono hG221 (by decide))
                        have q233 : Frm [7300, 7400, 7500, 7600, 7700, 7800, 7900, 8100] Xb X222 := by rw [hX222]; exact Frm.set q232 (show 7500 ∈ [7300, 7400, 7500, 7600, 7700, 7800, 7900, 8100] by decide)
                        have hO234 : ordOK X222 := ordOK.of hOb q233 (by decide)
                        have q235 : S4 X32 Xb := S4.tr S4.rf h4Xb
                        have q236 : S4 X32 X179 := by rw [hX179]; exact S4.set q235 ⟨by omega, by omega, by omega, by omega, by omega⟩
                        have q237 : S4 X32 X182 := by rw [hX182]; exact S4.set q236 ⟨by omega, by omega, by omega, by omega, by omega⟩
                        have q238 : S4 X32 X220 := S4.tr q237 (S4.frm hG221 (by decide))
                        have q239 : S4 X32 X222 := by rw [hX222]; exact S4.set q238 ⟨by omega, by omega, by omega, by omega, by omega⟩
                        have e240 : X222 70 0 4 = Xb 70 0 4 := (by rw [hX222, u3_k _ _ _ _ (by decide), hG221 70 0 4 (show 7000 ∉ [8100, 7700, 7800, 7900, 7600] by decide), hX182, u3_k _ _ _ _ (by decide), hX179, u3_k _ _ _ _ (by decide)])
                        have f241 : 0 ≤ X222 70 0 4 ∧ X222 70 0 4 ≤ 30 := hRX222 70 0 4
                        have e242 : X222 74 0 (5 * (120 + r) + k) = (X 46 0 ((5 * (X 55 0 (Xa 80 0 r))) + k)) := (by rw [hX222, u3_k _ _ _ _ (by decide), hG221 74 0 (5 * (120 + r) + k) (show 7400 ∉ [8100, 7700, 7800, 7900, 7600] by decide)]; exact hVX182)
                        have hcq243 : cOK X222 r (k + 1) := cOK.push (cOK.of hcO (by omega) hRX222 (by rw [show X222 40 0 2 = Xb 40 0 2 from (by rw [hX222, u3_k _ _ _ _ (by decide), hG221 40 0 2 (show 4003 ∉ [8100, 7700, 7800, 7900, 7600] by decide), hX182, u3_k _ _ _ _ (by decide), hX179, u3_k _ _ _ _ (by decide)])]; exact Int.le_refl _) (by omega) (fun r1 a b => ⟨(by rw [hX222, u3_k _ _ _ _ (by decide), hG221 71 0 (120 + r1) (show 7100 ∉ [8100, 7700, 7800, 7900, 7600] by decide), hX182, u3_k _ _ _ _ (by decide), hX179, u3_k _ _ _ _ (by decide)]), (by rw [hX222, u3_k _ _ _ _ (by decide), hG221 72 0 (120 + r1) (show 7200 ∉ [8100, 7700, 7800, 7900, 7600] by decide), hX182, u3_k _ _ _ _ (by decide), hX179, u3_k _ _ _ _ (by decide)])⟩) (fun j hj => ⟨(by rw [hX222, u3_k _ _ _ _ (by decide), hG221 74 0 j (show 7400 ∉ [8100, 7700, 7800, 7900, 7600] by decide), hX182, u3_j _ _ _ _ (by omega), hX179, u3_k _ _ _ _ (by decide)]), (by rw [hX222, u3_j _ _ _ _ (by omega), hG221 75 0 j (show 7500 ∉ [8100, 7700, 7800, 7900, 7600] by decide), hX182, u3_k _ _ _ _ (by decide), hX179, u3_k _ _ _ _ (by decide)])⟩) (by omega)) (by unfold ty4; rw [e242, hVX222]; exact ⟨fun _ => by omega, fun _ => by omega, fun _ => by omega⟩)
                        exact ih80 (k + 1) X222 _ _ _ (by omega) hRX222 q227 (by first | omega | (simp only [e228, e229]; omega)) (hO234) (q239) (by first | omega | (simp only [e228, e229]; omega)) (by first | omega | (simp only [e228, e229]; omega)) (hcq243) ((by rw [hX222, u3_k _ _ _ _ (by decide), hG221 71 0 (120 + r) (show 7100 ∉ [8100, 7700, 7800, 7900, 7600] by decide), hX182, u3_k _ _ _ _ (by decide), hX179, u3_k _ _ _ _ (by decide)]; exact h71)) ((by rw [hX222, u3_k _ _ _ _ (by decide), hG221 72 0 (120 + r) (show 7200 ∉ [8100, 7700, 7800, 7900, 7600] by decide), hX182, u3_k _ _ _ _ (by decide), hX179, u3_k _ _ _ _ (by decide)]; exact h72)) hw hS (lv_sub hl [3, 4, 5, 6, 7, 8, 0] rfl)
                      · refine lv_aload_n hx hb dX9_saves_235 rfl (lv_at hl 2 rfl) ?_
                        refine lv_iconst (v := jI 4) hx hb dX9_saves_236 rfl ?_
                        refine lv_lload hx hb dX9_saves_237 (lv_at hl 0 rfl) ?_
                        refine x_l2i hx hb dX9_saves_239 ?_
                        have q244 : S4 X X1 := by rw [hX1]; exact S4.set S4.rf ⟨by omega, by omega, by omega, by omega, by omega⟩
                        have q245 : S4 X X2 := by rw [hX2]; exact S4.set q244 ⟨by omega, by omega, by omega, by omega, by omega⟩
                        have q246 : S4 X X12 := S4.tr q245 h4X12
                        have q247 : S4 X Xa := S4.tr q246 h4Xa
                        have q248 : S4 X X29 := by rw [hX29]; exact S4.set q247 ⟨by omega, by omega, by omega, by omega, by omega⟩
                        have q249 : S4 X X32 := by rw [hX32]; exact S4.set q248 ⟨by omega, by omega, by omega, by omega, by omega⟩
                        have q250 : S4 X Xb := S4.tr q249 h4Xb
                        have q251 : S4 X X179 := by rw [hX179]; exact S4.set q250 ⟨by omega, by omega, by omega, by omega, by omega⟩
                        have q252 : S4 X X182 := by rw [hX182]; exact S4.set q251 ⟨by omega, by omega, by omega, by omega, by omega⟩
                        have hMq253 : MInv X182 := minv_s4 hMI hRX182 hFX182 q252 (by decide)
                        have q254 : Frm [7300, 7400] Xb X179 := by rw [hX179]; exact Frm.set Frm.rf (show 7300 ∈ [7300, 7400] by decide)
                        have q255 : Frm [7300, 7400] Xb X182 := by rw [hX182]; exact Frm.set q254 (show 7400 ∈ [7300, 7400] by decide)
                        have hO256 : ordOK X182 := ordOK.of hOb q255 (by decide)
                        have e257 : X182 40 0 13 = X 40 0 13 := by rw [hX182, u3_k _ _ _ _ (by decide), hX179, u3_k _ _ _ _ (by decide), hGXb 40 0 13 (show 4014 ∉ [7100, 7200, 7300, 7400, 7500, 8000, 7000, 8100, 7700, 7800, 7900, 7600] by decide), hX32, u3_k _ _ _ _ (by decide), hX29, u3_k _ _ _ _ (by decide), hGXa 40 0 13 (show 4014 ∉ [7100, 7200, 7300, 7400, 7500, 8000, 7000, 8100, 7700, 7800, 7900, 7600] by decide), hG13 40 0 13 (show 4014 ∉ [8000, 7000] by decide), hX2, u3_k _ _ _ _ (by decide), hX1, u3_k _ _ _ _ (by decide)]
                        refine gos_i (run_V (As := [.int (jI 4), .int (jI (X 56 0 ((5 * (Xa 80 0 r)) + k)))]) (rest := [.int (jI ((5 * (120 + r)) + k)), .ref (ad 75 0)]) hx hb hml hown hts (c_X9_recordOf l D tc base ad cnt X182 Y ln hRX182 hFx hMq253 (X 56 0 ((5 * (Xa 80 0 r)) + k)) (by omega) (by simp only [e257]; omega) hO256) (cwV 2 hts gX9_saves_X9_recordOf rfl rfl rfl (by decide +kernel) ⟨Nat.le_of_ble_eq_true rfl, Nat.le_of_ble_eq_true rfl⟩) hK hw (by omega) (by omega) sl_40_0 rfl rfl hl.1 rfl (Nat.le_of_ble_eq_true rfl) dX9_saves_240 ⟨Nat.le_of_ble_eq_true rfl, Nat.le_of_ble_eq_true rfl⟩) hS (fun z258 u259 H locs p260 hw hS => ?_)
                        have e261 : X182 70 0 4 = Xb 70 0 4 := by rw [hX182, u3_k _ _ _ _ (by decide), hX179, u3_k _ _ _ _ (by decide)]
                        obtain ⟨X262, eu259, hRX262, hG263, hMIX262, p260, h4X262, hOX262, hleX262⟩ := p260
                        subst eu259
                        have hFX262 : Frm [7100, 7200, 7300, 7400, 7500, 8000, 7000, 8100, 7700, 7800, 7900, 7600, 4042, 4043, 4044] X X262 := Frm.tr hFX182 (Frm.mono hG263 (by decide))
                        simp only [e261] at hleX262
                        refine x_i2l hx hb (by omega) dX9_saves_243 ?_
                        refine lv_goto (tgt := 256) hx hb dX9_saves_244 (by decide) ?_
                        refine x_last hx hb hK.1 hw hS (by omega) (by omega) ar_75 (len_E ar_75 (by decide)) (by omega) (by omega) (by omega) dX9_saves_256 (fun H locs hw hS => ?_)
                        obtain ⟨X264, hX264⟩ : ∃ Xq, Xq = u3 X262 75 0 ((5 * (120 + r)) + k) z258 := ⟨_, rfl⟩
                        rw [← hX264] at hw
                        have hRX264 : Rng X264 := by rw [hX264]; exact rng_set hRX262 (show (-9223372036854775808) ≤ z258 ∧ z258 ≤ 9223372036854775807 by omega)
                        have hVX264 : X264 75 0 ((5 * (120 + r)) + k) = z258 := by rw [hX264]; exact u3_s _ _ _ _ _
                        have hFX264 : Frm [7100, 7200, 7300, 7400, 7500, 8000, 7000, 8100, 7700, 7800, 7900, 7600, 4042, 4043, 4044] X X264 := by rw [hX264]; exact Frm.set hFX262 (show 7500 ∈ [7100, 7200, 7300, 7400, 7500, 8000, 7000, 8100, 7700, 7800, 7900, 7600, 4042, 4043, 4044] by decide)
                        refine lv_iinc (v := jI (k + 1)) (lv' := [(6, .int (jI (k + 1))), (8, .long (jL (X 56 0 ((5 * (Xa 80 0 r)) + k)))), (7, .int (jI ((5 * (120 + r)) + k))), (0, .ref (ad 40 0)), (1, .int (jI x)), (2, .int (jI shut)), (3, .int (jI r)), (4, .int (jI (Xa 80 0 r))), (5, .int (jI (X 55 0 (Xa 80 0 r))))]) hx hb dX9_saves_257 hl (k := 8) rfl (jI_add _ _) (by decide) rfl (fun ls hl => ?_)
                        refine lv_goto (tgt := 80) hx hb dX9_saves_260 (by decide) ?_
                        have q265 : Frm [7100, 7200, 7300, 7400, 7500, 8000, 7000, 8100, 7700, 7800, 7900, 7600] X32 Xb := Frm.tr Frm.rf (Frm.mono hGXb (by decide))
                        have q266 : Frm [7100, 7200, 7300, 7400, 7500, 8000, 7000, 8100, 7700, 7800, 7900, 7600] X32 X179 := by rw [hX179]; exact Frm.set q265 (show 7300 ∈ [7100, 7200, 7300, 7400, 7500, 8000, 7000, 8100, 7700, 7800, 7900, 7600] by decide)
                        have q267 : Frm [7100, 7200, 7300, 7400, 7500, 8000, 7000, 8100, 7700, 7800, 7900, 7600] X32 X182 := by rw [hX182]; exact Frm.set q266 (show 7400 ∈ [7100, 7200, 7300, 7400, 7500, 8000, 7000, 8100, 7700, 7800, 7900, 7600] by decide)
                        have q268 : Frm [7100, 7200, 7300, 7400, 7500, 8000, 7000, 8100, 7700, 7800, 7900, 7600] X32 X262 := Frm.tr q267 (Frm.mono hG263 (by decide))
                        have q269 : Frm [7100, 7200, 7300, 7400, 7500, 8000, 7000, 8100, 7700, 7800, 7900, 7600] X32 X264 := by rw [hX264]; exact Frm.set q268 (show 7500 ∈ [7100, 7200, 7300, 7400, 7500, 8000, 7000, 8100, 7700, 7800, 7900, 7600] by decide)
                        have e270 : X264 76 0 4 = Xb 76 0 4 := by rw [hX264, u3_k _ _ _ _ (by decide), hG263 76 0 4 (show 7600 ∉ [8000, 7000] by decide), hX182, u3_k _ _ _ _ (by decide), hX179, u3_k _ _ _ _ (by decide)]
                        have e271 : X264 70 0 4 = X262 70 0 4 := by rw [hX264, u3_k _ _ _ _ (by decide)]
                        have q272 : Frm [7500] X262 X264 := by rw [hX264]; exact Frm.set Frm.rf (show 7500 ∈ [7500] by decide)
                        have hO273 : ordOK X264 := ordOK.of hOX262 q272 (by decide)
                        have q274 : S4 X32 Xb := S4.tr S4.rf h4Xb
                        have q275 : S4 X32 X179 := by rw [hX179]; exact S4.set q274 ⟨by omega, by omega, by omega, by omega, by omega⟩
                        have q276 : S4 X32 X182 := by rw [hX182]; exact S4.set q275 ⟨by omega, by omega, by omega, by omega, by omega⟩
                        have q277 : S4 X32 X262 := S4.tr q276 h4X262
                        have q278 : S4 X32 X264 := by rw [hX264]; exact S4.set q277 ⟨by omega, by omega, by omega, by omega, by omega⟩
                        have e279 : X264 70 0 4 = X262 70 0 4 := (by rw [hX264, u3_k _ _ _ _ (by decide)])
                        have f280 : 0 ≤ X264 70 0 4 ∧ X264 70 0 4 ≤ 30 := hRX264 70 0 4
                        have e281 : X264 74 0 (5 * (120 + r) + k) = (X 46 0 ((5 * (X 55 0 (Xa 80 0 r))) + k)) := (by rw [hX264, u3_k _ _ _ _ (by decide), hG263 74 0 (5 * (120 + r) + k) (show 7400 ∉ [8000, 7000] by decide)]; exact hVX182)
                        have hcq282 : cOK X264 r (k + 1) := cOK.push (cOK.of hcO (by omega) hRX264 (by rw [show X264 40 0 2 = Xb 40 0 2 from (by rw [hX264, u3_k _ _ _ _ (by decide), hG263 40 0 2 (show 4003 ∉ [8000, 7000] by decide), hX182, u3_k _ _ _ _ (by decide), hX179, u3_k _ _ _ _ (by decide)])]; exact Int.le_refl _) (by omega) (fun r1 a b => ⟨(by rw [hX264, u3_k _ _ _ _ (by decide), hG263 71 0 (120 + r1) (show 7100 ∉ [8000, 7000] by decide), hX182, u3_k _ _ _ _ (by decide), hX179, u3_k _ _ _ _ (by decide)]), (by rw [hX264, u3_k _ _ _ _ (by decide), hG263 72 0 (120 + r1) (show 7200 ∉ [8000, 7000] by decide), hX182, u3_k _ _ _ _ (by decide), hX179, u3_k _ _ _ _ (by decide)])⟩) (fun j hj => ⟨(by rw [hX264, u3_k _ _ _ _ (by decide), hG263 74 0 j (show 7400 ∉ [8000, 7000] by decide), hX182, u3_j _ _ _ _ (by omega), hX179, u3_k _ _ _ _ (by decide)]), (by rw [hX264, u3_j _ _ _ _ (by omega), hG263 75 0 j (show 7500 ∉ [8000, 7000] by decide), hX182, u3_k _ _ _ _ (by decide), hX179, u3_k _ _ _ _ (by decide)])⟩) (by omega)) (by unfold ty4; rw [e281, hVX264]; exact ⟨fun _ => by omega, fun _ => by omega, fun _ => by omega⟩)
                        exact ih80 (k + 1) X264 _ _ _ (by omega) hRX264 q269 (by first | omega | (simp only [e270, e271]; omega)) (hO273) (q278) (by first | omega | (simp only [e270, e271]; omega)) (by first | omega | (simp only [e270, e271]; omega)) (hcq282) ((by rw [hX264, u3_k _ _ _ _ (by decide), hG263 71 0 (120 + r) (show 7100 ∉ [8000, 7000] by decide), hX182, u3_k _ _ _ _ (by decide), hX179, u3_k _ _ _ _ (by decide)]; exact h71)) ((by rw [hX264, u3_k _ _ _ _ (by decide), hG263 72 0 (120 + r) (show 7200 ∉ [8000, 7000] by decide), hX182, u3_k _ _ _ _ (by decide), hX179, u3_k _ _ _ _ (by decide)]; exact h72)) hw hS (lv_sub hl [3, 4, 5, 6, 7, 8, 0] rfl)
                    · refine lv_lload hx hb dX9_saves_219 (lv_at hl 0 rfl) ?_
                      refine lv_goto (tgt := 256) hx hb dX9_saves_221 (by decide) ?_
                      refine x_last hx hb hK.1 hw hS (by omega) (by omega) ar_75 (len_E ar_75 (by decide)) (by omega) (by omega) (by omega) dX9_saves_256 (fun H locs hw hS => ?_)
                      obtain ⟨X283, hX283⟩ : ∃ Xq, Xq = u3 X182 75 0 ((5 * (120 + r)) + k) (X 56 0 ((5 * (Xa 80 0 r)) + k)) := ⟨_, rfl⟩
                      rw [← hX283] at hw
                      have hRX283 : Rng X283 := by rw [hX283]; exact rng_set hRX182 (show (-9223372036854775808) ≤ (X 56 0 ((5 * (Xa 80 0 r)) + k)) ∧ (X 56 0 ((5 * (Xa 80 0 r)) + k)) ≤ 9223372036854775807 by omega)
                      have hVX283 : X283 75 0 ((5 * (120 + r)) + k) = (X 56 0 ((5 * (Xa 80 0 r)) + k)) := by rw [hX283]; exact u3_s _ _ _ _ _
                      have hFX283 : Frm [7100, 7200, 7300, 7400, 7500, 8000, 7000, 8100, 7700, 7800, 7900, 7600, 4042, 4043, 4044] X X283 := by rw [hX283]; exact Frm.set hFX182 (show 7500 ∈ [7100, 7200, 7300, 7400, 7500, 8000, 7000, 8100, 7700, 7800, 7900, 7600, 4042, 4043, 4044] by decide)
                      refine lv_iinc (v := jI (k + 1)) (lv' := [(6, .int (jI (k + 1))), (8, .long (jL (X 56 0 ((5 * (Xa 80 0 r)) + k)))), (7, .int (jI ((5 * (120 + r)) + k))), (0, .ref (ad 40 0)), (1, .int (jI x)), (2, .int (jI shut)), (3, .int (jI r)), (4, .int (jI (Xa 80 0 r))), (5, .int (jI (X 55 0 (Xa 80 0 r))))]) hx hb dX9_saves_257 hl (k := 8) rfl (jI_add _ _) (by decide) rfl (fun ls hl => ?_)
                      refine lv_goto (tgt := 80) hx hb dX9_saves_260 (by decide) ?_
                      have q284 : Frm [7100, 7200, 7300, 7400, 7500, 8000, 7000, 8100, 7700, 7800, 7900, 7600] X32 Xb := Frm.tr Frm.rf (Frm.mono hGXb (by decide))
                      have q285 : Frm [7100, 7200, 7300, 7400, 7500, 8000, 7000, 8100, 7700, 7800, 7900, 7600] X32 X179 := by rw [hX179]; exact Frm.set q284 (show 7300 ∈ [7100, 7200, 7300, 7400, 7500, 8000, 7000, 8100, 7700, 7800, 7900, 7600] by decide)
                      have q286 : Frm [7100, 7200, 7300, 7400, 7500, 8000, 7000, 8100, 7700, 7800, 7900, 7600] X32 X182 := by rw [hX182]; exact Frm.set q285 (show 7400 ∈ [7100, 7200, 7300, 7400, 7500, 8000, 7000, 8100, 7700, 7800, 7900, 7600] by decide)
                      have q287 : Frm [7100, 7200, 7300, 7400, 7500, 8000, 7000, 8100, 7700, 7800, 7900, 7600] X32 X283 := by rw [hX283]; exact Frm.set q286 (show 7500 ∈ [7100, 7200, 7300, 7400, 7500, 8000, 7000, 8100, 7700, 7800, 7900, 7600] by decide)
                      have e288 : X283 76 0 4 = Xb 76 0 4 := by rw [hX283, u3_k _ _ _ _ (by decide), hX182, u3_k _ _ _ _ (by decide), hX179, u3_k _ _ _ _ (by decide)]
                      have e289 : X283 70 0 4 = Xb 70 0 4 := by rw [hX283, u3_k _ _ _ _ (by decide), hX182, u3_k _ _ _ _ (by decide), hX179, u3_k _ _ _ _ (by decide)]
                      have q290 : Frm [7300, 7400, 7500] Xb X179 := by rw [hX179]; exact Frm.set Frm.rf (show 7300 ∈ [7300, 7400, 7500] by decide)
                      have q291 : Frm [7300, 7400, 7500] Xb X182 := by rw [hX182]; exact Frm.set q290 (show 7400 ∈ [7300, 7400, 7500] by decide)
                      have q292 : Frm [7300, 7400, 7500] Xb X283 := by rw [hX283]; exact Frm.set q291 (show 7500 ∈ [7300, 7400, 7500] by decide)
                      have hO293 : ordOK X283 := ordOK.of hOb q292 (by decide)
                      have q294 : S4 X32 Xb := S4.tr S4.rf h4Xb
                      have q295 : S4 X32 X179 := by rw [hX179]; exact S4.set q294 ⟨by omega, by omega, by omega, by omega, by omega⟩
                      have q296 : S4 X32 X182 := by rw [hX182]; exact S4.set q295 ⟨by omega, by omega, by omega, by omega, by omega⟩
                      have q297 : S4 X32 X283 := by rw [hX283]; exact S4.set q296 ⟨by omega, by omega, by omega, by omega, by omega⟩
                      have e298 : X283 70 0 4 = Xb 70 0 4 := (by rw [hX283, u3_k _ _ _ _ (by decide), hX182, u3_k _ _ _ _ (by decide), hX179, u3_k _ _ _ _ (by decide)])
                      have f299 : 0 ≤ X283 70 0 4 ∧ X283 70 0 4 ≤ 30 := hRX283 70 0 4
                      have e300 : X283 74 0 (5 * (120 + r) + k) = (X 46 0 ((5 * (X 55 0 (Xa 80 0 r))) + k)) := (by rw [hX283, u3_k _ _ _ _ (by decide)]; exact hVX182)
                      have hcq301 : cOK X283 r (k + 1) := cOK.push (cOK.of hcO (by omega) hRX283 (by rw [show X283 40 0 2 = Xb 40 0 2 from (by rw [hX283, u3_k _ _ _ _ (by decide), hX182, u3_k _ _ _ _ (by decide), hX179, u3_k _ _ _ _ (by decide)])]; exact Int.le_refl _) (by omega) (fun r1 a b => ⟨(by rw [hX283, u3_k _ _ _ _ (by decide), hX182, u3_k _ _ _ _ (by decide), hX179, u3_k _ _ _ _ (by decide)]), (by rw [hX283, u3_k _ _ _ _ (by decide), hX182, u3_k _ _ _ _ (by decide), hX179, u3_k _ _ _ _ (by decide)])⟩) (fun j hj => ⟨(by rw [hX283, u3_k _ _ _ _ (by decide), hX182, u3_j _ _ _ _ (by omega), hX179, u3_k _ _ _ _ (by decide)]), (by rw [hX283, u3_j _ _ _ _ (by omega), hX182, u3_k _ _ _ _ (by decide), hX179, u3_k _ _ _ _ (by decide)])⟩) (by omega)) (by unfold ty4; rw [e300, hVX283]; exact ⟨fun _ => by omega, fun _ => by omega, fun _ => by omega⟩)
                      exact ih80 (k + 1) X283 _ _ _ (by omega) hRX283 q287 (by first | omega | (simp only [e288, e289]; omega)) (hO293) (q297) (by first | omega | (simp only [e288, e289]; omega)) (by first | omega | (simp only [e288, e289]; omega)) (hcq301) ((by rw [hX283, u3_k _ _ _ _ (by decide), hX182, u3_k _ _ _ _ (by decide), hX179, u3_k _ _ _ _ (by decide)]; exact h71)) ((by rw [hX283, u3_k _ _ _ _ (by decide), hX182, u3_k _ _ _ _ (by decide), hX179, u3_k _ _ _ _ (by decide)]; exact h72)) hw hS (lv_sub hl [3, 4, 5, 6, 7, 8, 0] rfl)
                · refine lv_aload_n hx hb dX9_saves_111 rfl (lv_at hl 0 rfl) ?_
                  refine lv_bipush (v := jI 10) hx hb dX9_saves_112 (by decide) ?_
                  refine lv_iload_n hx hb dX9_saves_114 rfl (lv_at hl 3 rfl) ?_
                  refine lv_aload_n hx hb dX9_saves_115 rfl (lv_at hl 0 rfl) ?_
                  refine x_geto hx hb hf9 hw (by omega) (by omega) sl_40_4 lk17 dX9_saves_116 ?_
                  refine lv_iconst (v := jI 5) hx hb dX9_saves_119 rfl ?_
                  refine lv_iload hx hb dX9_saves_120 (lv_at hl 5 rfl) ?_
                  refine x_imul hx hb dX9_saves_122 ?_
                  refine lv_iload hx hb dX9_saves_123 (lv_at hl 6 rfl) ?_
                  refine x_iadd hx hb dX9_saves_125 ?_
                  refine x_iald hx hb hK.1 hw (by omega) (by omega) ar_45 (len_E ar_45 (by decide)) (by omega) (by omega) (by omega) dX9_saves_126 ?_
                  have e302 : ∀ p9 q9 : Int, Xb 45 p9 q9 = X 45 p9 q9 := fun p9 q9 => by rw [hGXb 45 p9 q9 (show 4500 ∉ [7100, 7200, 7300, 7400, 7500, 8000, 7000, 8100, 7700, 7800, 7900, 7600] by decide), hX32, u3_k _ _ _ _ (by decide), hX29, u3_k _ _ _ _ (by decide), hGXa 45 p9 q9 (show 4500 ∉ [7100, 7200, 7300, 7400, 7500, 8000, 7000, 8100, 7700, 7800, 7900, 7600] by decide), hG13 45 p9 q9 (show 4500 ∉ [8000, 7000] by decide), hX2, u3_k _ _ _ _ (by decide), hX1, u3_k _ _ _ _ (by decide)]
                  rw [e302 0 ((5 * (X 55 0 (Xa 80 0 r))) + k)]
                  have f303 : 0 ≤ X 45 0 ((5 * (X 55 0 (Xa 80 0 r))) + k) ∧ X 45 0 ((5 * (X 55 0 (Xa 80 0 r))) + k) ≤ 19 := hR 45 0 ((5 * (X 55 0 (Xa 80 0 r))) + k)
                  refine lv_iconst (v := jI (-1)) hx hb dX9_saves_127 rfl ?_
                  have q304 : S4 X X1 := by rw [hX1]; exact S4.set S4.rf ⟨by omega, by omega, by omega, by omega, by omega⟩
                  have q305 : S4 X X2 := by rw [hX2]; exact S4.set q304 ⟨by omega, by omega, by omega, by omega, by omega⟩
                  have q306 : S4 X X12 := S4.tr q305 h4X12
                  have q307 : S4 X Xa := S4.tr q306 h4Xa
                  have q308 : S4 X X29 := by rw [hX29]; exact S4.set q307 ⟨by omega, by omega, by omega, by omega, by omega⟩
                  have q309 : S4 X X32 := by rw [hX32]; exact S4.set q308 ⟨by omega, by omega, by omega, by omega, by omega⟩
                  have q310 : S4 X Xb := S4.tr q309 h4Xb
                  have hMq311 : MInv Xb := minv_s4 hMI hRXb hFXb q310 (by decide)
                  refine gos_i (run_V (As := [.int (jI 10), .int (jI r), .int (jI (X 45 0 ((5 * (X 55 0 (Xa 80 0 r))) + k))), .int (jI (-1))]) (rest := []) hx hb hml hown hts (c_X9_faulty l D tc base ad cnt Xb Y ln hRXb hFx hMq311 10 r (X 45 0 ((5 * (X 55 0 (Xa 80 0 r))) + k)) (-1) (by omega) (by omega) (by omega) (by omega)) (cwV 4 hts gX9_saves_X9_faulty rfl rfl rfl (by decide +kernel) ⟨Nat.le_of_ble_eq_true rfl, Nat.le_of_ble_eq_true rfl⟩) hK hw (by omega) (by omega) sl_40_0 rfl rfl hl.1 rfl (Nat.le_of_ble_eq_true rfl) dX9_saves_128 ⟨Nat.le_of_ble_eq_true rfl, Nat.le_of_ble_eq_true rfl⟩) hS (fun z312 u313 H locs p314 hw hS => ?_)
                  obtain ⟨X315, eu313, hRX315, hG316, hMIX315, p314⟩ := p314
                  subst eu313
                  have hFX315 : Frm [7100, 7200, 7300, 7400, 7500, 8000, 7000, 8100, 7700, 7800, 7900, 7600, 4042, 4043, 4044] X X315 := Frm.tr hFXb (Frm.mono hG316 (by decide))
                  refine ret_i (mc := 0) (ms := 0) hx hb hr hlocks hw hS (by omega) (by omega) dX9_saves_131 ?_
                  have q317 : S4 X X1 := by rw [hX1]; exact S4.set S4.rf ⟨by omega, by omega, by omega, by omega, by omega⟩
                  have q318 : S4 X X2 := by rw [hX2]; exact S4.set q317 ⟨by omega, by omega, by omega, by omega, by omega⟩
                  have q319 : S4 X X12 := S4.tr q318 h4X12
                  have q320 : S4 X Xa := S4.tr q319 h4Xa
                  have q321 : S4 X X29 := by rw [hX29]; exact S4.set q320 ⟨by omega, by omega, by omega, by omega, by omega⟩
                  have q322 : S4 X X32 := by rw [hX32]; exact S4.set q321 ⟨by omega, by omega, by omega, by omega, by omega⟩
                  have q323 : S4 X Xb := S4.tr q322 h4Xb
                  have q324 : S4 X X315 := S4.tr q323 (S4.frm hG316 (by decide))
                  exact ⟨X315, rfl, hRX315, hFX315, hMIX315, by omega, q324, fun h => absurd h (by omega)⟩
        have e325 : X32 76 0 4 = Xa 76 0 4 := by rw [hX32, u3_k _ _ _ _ (by decide), hX29, u3_k _ _ _ _ (by decide)]
        have e326 : X32 70 0 4 = Xa 70 0 4 := by rw [hX32, u3_k _ _ _ _ (by decide), hX29, u3_k _ _ _ _ (by decide)]
        have q327 : Frm [7100, 7200] Xa X29 := by rw [hX29]; exact Frm.set Frm.rf (show 7100 ∈ [7100, 7200] by decide)
        have q328 : Frm [7100, 7200] Xa X32 := by rw [hX32]; exact Frm.set q327 (show 7200 ∈ [7100, 7200] by decide)
        have hO329 : ordOK X32 := ordOK.of hOa q328 (by decide)
        exact lp80 (5 - 0 : Int).toNat.succ 0 X32 _ _ _ (by omega) hRX32 Frm.rf (by first | omega | (simp only [e325, e326]; omega)) (hO329) (S4.rf) (by first | omega | (simp only [e325, e326]; omega)) (by first | omega | (simp only [e325, e326]; omega)) ((by rw [hX32, hX29]; exact cOK.of hcOa (by omega) (by rw [← hX29, ← hX32]; exact hRX32) (by rw [u3_k _ _ _ _ (by decide), u3_k _ _ _ _ (by decide)]; exact Int.le_refl _) (by rw [u3_k _ _ _ _ (by decide), u3_k _ _ _ _ (by decide)]; exact Int.le_refl _) (fun r1 a b => ⟨by rw [u3_k _ _ _ _ (by decide), u3_j _ _ _ _ (by omega)], by rw [u3_j _ _ _ _ (by omega), u3_k _ _ _ _ (by decide)]⟩) (fun j hj => ⟨by rw [u3_k _ _ _ _ (by decide), u3_k _ _ _ _ (by decide)], by rw [u3_k _ _ _ _ (by decide), u3_k _ _ _ _ (by decide)]⟩) (by omega))) ((by rw [hX32, u3_k _ _ _ _ (by decide)]; rw [hVX29]; exact hyf)) (hVX32) hw hS (lv_sub hl [3, 4, 5, 6, 2, 1, 0] rfl)
  have e330 : X12 76 0 4 = X2 76 0 4 := by rw [hG13 76 0 4 (show 7600 ∉ [8000, 7000] by decide)]
  exact lp23 (30 - 0 : Int).toNat.succ 0 X12 _ _ _ (by omega) hRX12 Frm.rf (by first | omega | (simp only [e330]; omega)) (hOX12) (S4.rf) (by first | omega | (simp only [e330]; omega)) (cOK.nil) hw hS (lv_sub hl [1, 2, 3, 0] rfl)

