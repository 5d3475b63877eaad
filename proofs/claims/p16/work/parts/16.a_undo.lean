set_option maxHeartbeats 4000000 in
set_option maxRecDepth 100000 in
theorem c_X9_undo (l : Launch) (D : va_G) (tc : Nat → ClassId) (base : Nat) (ad : Nat → Int → Nat) (cnt : Nat → Int) (X : Nat → Int → Int → Int) (Y : Nat → Int → Int → Option Int) (ln : Int → Int) (hR : Rng X) (hFx : Fx cnt) (hMI : MInv X)  : KI l D tc base yX9_undo wsX9_undo ({ frames := 0, cells := 0, slots := 0, locals := 0 } : Room) [.ref (ad 40 0)] (ad, cnt, X, Y, ln) 0 0 (fun z u => ∃ X1 : Nat → Int → Int → Int, u = (ad, cnt, X1, Y, ln) ∧ Rng X1 ∧ Frm [4001, 4021, 4023, 5600, 5900] X X1 ∧ MInv X1 ∧ (-2147483648 ≤ z ∧ z ≤ 2147483647) ∧ ((X 40 0 20 = 0 ∧ X1 40 0 20 = 0) ∨ (1 ≤ X 40 0 20 ∧ X1 40 0 20 = X 40 0 20 - 1)) ∧ (X 40 0 20 = 0 → Frm [4001] X X1 ∧ z = -3) ∧ (1 ≤ X 40 0 20 → ∃ V : Nat → Int → Int → Int, Frm [4001, 4021] X V ∧ V 40 0 20 = X 40 0 20 - 1 ∧ X1 40 0 22 ≤ X 62 0 (X 40 0 20 - 1) ∧ (X1 40 0 22 = X 40 0 22 ∨ X 62 0 (X 40 0 20 - 1) ≤ X1 40 0 22) ∧ z = X 40 0 22 - X 62 0 (X 40 0 20 - 1) ∧ uTrM (X 40 0 22) ((X 40 0 22 - X1 40 0 22).toNat) V X1)) := by
  refine K_of (cc := cX9_undo) (maxL := 2) (ret := (some .int)) (by decide) rfl (Nat.le_of_ble_eq_true rfl) ?_
  intro p e s m below meth c ls hx hb hr hml hown hts hlocks hl hK hw hS
  have hown : s.vm.findClass RX9 = some m.cls := hown
  obtain ⟨av9, hav9⟩ : ∃ a9 : Array Value, a9 = ([.ref (ad 40 0)] : List Value).toArray := ⟨_, rfl⟩
  rw [← hav9] at hts ⊢
  obtain ⟨Q9, hQ9⟩ : ∃ q : State → Prop, q = MQ below (QI D tc base (fun z u => ∃ X1 : Nat → Int → Int → Int, u = (ad, cnt, X1, Y, ln) ∧ Rng X1 ∧ Frm [4001, 4021, 4023, 5600, 5900] X X1 ∧ MInv X1 ∧ (-2147483648 ≤ z ∧ z ≤ 2147483647) ∧ ((X 40 0 20 = 0 ∧ X1 40 0 20 = 0) ∨ (1 ≤ X 40 0 20 ∧ X1 40 0 20 = X 40 0 20 - 1)) ∧ (X 40 0 20 = 0 → Frm [4001] X X1 ∧ z = -3) ∧ (1 ≤ X 40 0 20 → ∃ V : Nat → Int → Int → Int, Frm [4001, 4021] X V ∧ V 40 0 20 = X 40 0 20 - 1 ∧ X1 40 0 22 ≤ X 62 0 (X 40 0 20 - 1) ∧ (X1 40 0 22 = X 40 0 22 ∨ X 62 0 (X 40 0 20 - 1) ≤ X1 40 0 22) ∧ z = X 40 0 22 - X 62 0 (X 40 0 20 - 1) ∧ uTrM (X 40 0 22) ((X 40 0 22 - X1 40 0 22).toNat) V X1))) av9 s 0 0 (frA base) := ⟨_, rfl⟩
  rw [← hQ9]
  have hi9 : ∀ w ∈ wsX90, w ∈ wsX9_undo := fun w h => List.mem_cons_of_mem _ (List.mem_append_right _ h)
  have hf9 : fctx s m _ RX9 wsX9_undo D tc RX9 TX9 51 9 := ⟨hts, hi9, hown, hK.1, rfl⟩
  have lk48 := hts (.fieldLink RX9 48 (TX9 15).1 (TX9 15).2.1 (TX9 15).2.2.1) (gj_X9_undo_0 _ (gp_4 (gp_1 gp_h)))
  have lk57 := hts (.fieldLink RX9 57 (TX9 18).1 (TX9 18).2.1 (TX9 18).2.2.1) (gj_X9_undo_0 _ (gp_4 (gp_4 (gp_1 gp_h))))
  have lk63 := hts (.fieldLink RX9 63 (TX9 21).1 (TX9 21).2.1 (TX9 21).2.2.1) (gj_X9_undo_0 _ (gp_1 (gp_1 (gp_1 gp_h))))
  have lk66 := hts (.fieldLink RX9 66 (TX9 23).1 (TX9 23).2.1 (TX9 23).2.2.1) (gj_X9_undo_0 _ (gp_4 (gp_1 (gp_1 gp_h))))
  have lk69 := hts (.fieldLink RX9 69 (TX9 24).1 (TX9 24).2.1 (TX9 24).2.2.1) (gj_X9_undo_0 _ (gp_4 (gp_1 (gp_1 (gp_1 gp_h)))))
  have lk72 := hts (.fieldLink RX9 72 (TX9 25).1 (TX9 25).2.1 (TX9 25).2.2.1) (gj_X9_undo_0 _ (gp_4 (gp_4 (gp_1 (gp_1 gp_h)))))
  have lk75 := hts (.fieldLink RX9 75 (TX9 26).1 (TX9 26).2.1 (TX9 26).2.2.1) (gj_X9_undo_0 _ (gp_4 gp_h))
  have lk78 := hts (.fieldLink RX9 78 (TX9 27).1 (TX9 27).2.1 (TX9 27).2.2.1) (gj_X9_undo_0 _ (gp_4 (gp_4 gp_h)))
  have lk145 := hts (.fieldLink RX9 145 (TX9 0).1 (TX9 0).2.1 (TX9 0).2.2.1) (gj_X9_undo_0 _ (gp_h))
  have lk165 := hts (.fieldLink RX9 165 (TX9 20).1 (TX9 20).2.1 (TX9 20).2.2.1) (gj_X9_undo_0 _ (gp_1 gp_h))
  have lk173 := hts (.fieldLink RX9 173 (TX9 22).1 (TX9 22).2.1 (TX9 22).2.2.1) (gj_X9_undo_0 _ (gp_1 (gp_1 gp_h)))
  have hc40 : cnt 40 = 1 := hFx.at 40 1 (by decide)
  have hc56 : cnt 56 = 1 := hFx.at 56 1 (by decide)
  have hc59 : cnt 59 = 1 := hFx.at 59 1 (by decide)
  have hc62 : cnt 62 = 1 := hFx.at 62 1 (by decide)
  have hc64 : cnt 64 = 1 := hFx.at 64 1 (by decide)
  have hc65 : cnt 65 = 1 := hFx.at 65 1 (by decide)
  have hc66 : cnt 66 = 1 := hFx.at 66 1 (by decide)
  have hc67 : cnt 67 = 1 := hFx.at 67 1 (by decide)
  have hc68 : cnt 68 = 1 := hFx.at 68 1 (by decide)
  have hl : lv_has ls 2 [(0, .ref (ad 40 0))] := hl
  have fstypes : 0 ≤ X 40 0 2 ∧ X 40 0 2 ≤ 8 := hR 40 0 2
  have fsthings : 0 ≤ X 40 0 13 ∧ X 40 0 13 ≤ 30 := hR 40 0 13
  have fsmarks : 0 ≤ X 40 0 20 ∧ X 40 0 20 ≤ 4 := hR 40 0 20
  have fsnotes : 0 ≤ X 40 0 22 ∧ X 40 0 22 ≤ 80 := hR 40 0 22
  refine lv_aload_n hx hb dX9_undo_0 rfl (lv_at hl 0 rfl) ?_
  refine lv_iconst (v := jI 0) hx hb dX9_undo_1 rfl ?_
  refine x_puti (jz := 0) hx hb hf9 ⟨tyX9_ok, nmX9⟩ hw hS (by first | exact Int.le_refl 0 | omega) (by first | exact zlt hc40 | omega) sl_40_0 rfl lk145 rfl (tyX9_ok 0 (by decide)) rfl rfl dX9_undo_2 (fun H locs hw hS => ?_)
  obtain ⟨X1, hX1⟩ : ∃ Xq, Xq = u3 X 40 0 0 0 := ⟨_, rfl⟩
  rw [← hX1] at hw
  have hRX1 : Rng X1 := by rw [hX1]; exact rng_set hR (show (-2147483648) ≤ 0 ∧ 0 ≤ 2147483647 by omega)
  have hVX1 : X1 40 0 0 = 0 := by rw [hX1]; exact u3_s _ _ _ _ _
  have hFX1 : Frm [4001, 4021, 4023, 5600, 5900] X X1 := by rw [hX1]; exact Frm.set Frm.rf (show 4001 ∈ [4001, 4021, 4023, 5600, 5900] by decide)
  refine lv_aload_n hx hb dX9_undo_5 rfl (lv_at hl 0 rfl) ?_
  refine x_geti (jz := 20) hx hb hf9 hw (by first | exact Int.le_refl 0 | omega) (by first | exact zlt hc40 | omega) sl_40_20 rfl lk165 dX9_undo_6 ?_
  have e2 : X1 40 0 20 = X 40 0 20 := by rw [hX1, u3_j _ _ _ _ (by decide)]
  rw [e2]
  have f3 : 0 ≤ X 40 0 20 ∧ X 40 0 20 ≤ 4 := hR 40 0 20
  refine x_if_ne (tgt := 15) hx hb (by omega) dX9_undo_9 (by decide) (fun c4 => ?_) (fun c4 => ?_)
  · refine lv_aload_n hx hb dX9_undo_15 rfl (lv_at hl 0 rfl) ?_
    refine lv_dup hx hb dX9_undo_16 rfl ?_
    refine x_geti (jz := 20) hx hb hf9 hw (by first | exact Int.le_refl 0 | omega) (by first | exact zlt hc40 | omega) sl_40_20 rfl lk165 dX9_undo_17 ?_
    have e5 : X1 40 0 20 = X 40 0 20 := by rw [hX1, u3_j _ _ _ _ (by decide)]
    rw [e5]
    have f6 : 0 ≤ X 40 0 20 ∧ X 40 0 20 ≤ 4 := hR 40 0 20
    refine lv_iconst (v := jI 1) hx hb dX9_undo_20 rfl ?_
    refine x_isub hx hb dX9_undo_21 ?_
    refine x_puti (jz := 20) hx hb hf9 ⟨tyX9_ok, nmX9⟩ hw hS (by first | exact Int.le_refl 0 | omega) (by first | exact zlt hc40 | omega) sl_40_20 rfl lk165 rfl (tyX9_ok 20 (by decide)) rfl rfl dX9_undo_22 (fun H locs hw hS => ?_)
    obtain ⟨X7, hX7⟩ : ∃ Xq, Xq = u3 X1 40 0 20 ((X 40 0 20) - 1) := ⟨_, rfl⟩
    rw [← hX7] at hw
    have hRX7 : Rng X7 := by rw [hX7]; exact rng_set hRX1 (show 0 ≤ ((X 40 0 20) - 1) ∧ ((X 40 0 20) - 1) ≤ 4 by omega)
    have hVX7 : X7 40 0 20 = ((X 40 0 20) - 1) := by rw [hX7]; exact u3_s _ _ _ _ _
    have hFX7 : Frm [4001, 4021, 4023, 5600, 5900] X X7 := by rw [hX7]; exact Frm.set hFX1 (show 4021 ∈ [4001, 4021, 4023, 5600, 5900] by decide)
    refine lv_aload_n hx hb dX9_undo_25 rfl (lv_at hl 0 rfl) ?_
    refine x_geti (jz := 22) hx hb hf9 hw (by first | exact Int.le_refl 0 | omega) (by first | exact zlt hc40 | omega) sl_40_22 rfl lk173 dX9_undo_26 ?_
    have e8 : X7 40 0 22 = X 40 0 22 := by rw [hX7, u3_j _ _ _ _ (by decide), hX1, u3_j _ _ _ _ (by decide)]
    rw [e8]
    have f9 : 0 ≤ X 40 0 22 ∧ X 40 0 22 ≤ 80 := hR 40 0 22
    refine lv_aload_n hx hb dX9_undo_29 rfl (lv_at hl 0 rfl) ?_
    refine x_geto hx hb hf9 hw (by first | exact Int.le_refl 0 | omega) (by first | exact zlt hc40 | omega) sl_40_21 lk63 dX9_undo_30 ?_
    refine lv_aload_n hx hb dX9_undo_33 rfl (lv_at hl 0 rfl) ?_
    refine x_geti (jz := 20) hx hb hf9 hw (by first | exact Int.le_refl 0 | omega) (by first | exact zlt hc40 | omega) sl_40_20 rfl lk165 dX9_undo_34 ?_
    rw [hVX7]
    refine x_iald hx hb hK.1 hw (by first | exact Int.le_refl 0 | omega) (by first | exact zlt hc62 | omega) ar_62 (len_E ar_62 (by decide)) (by omega) (by omega) (by omega) dX9_undo_37 ?_
    have e10 : ∀ p9 q9 : Int, X7 62 p9 q9 = X 62 p9 q9 := fun p9 q9 => by rw [hX7, u3_k _ _ _ _ (by decide), hX1, u3_k _ _ _ _ (by decide)]
    rw [e10 0 ((X 40 0 20) - 1)]
    have f11 : 0 ≤ X 62 0 ((X 40 0 20) - 1) ∧ X 62 0 ((X 40 0 20) - 1) ≤ 80 := hR 62 0 ((X 40 0 20) - 1)
    refine x_isub hx hb dX9_undo_38 ?_
    refine lv_istore_n (lv' := [(1, .int (jI ((X 40 0 22) - (X 62 0 ((X 40 0 20) - 1))))), (0, .ref (ad 40 0))]) hx hb dX9_undo_39 rfl hl (by decide) rfl (fun ls hl => ?_)
    have lp40 : ∀ (nn : Nat)  (Xa : Nat → Int → Int → Int) (H : Heap) (locs : List Loc) (ls : Array Slot), (Xa 40 0 22) < (nn : Int) → (Rng Xa) → (Frm [4023, 5600, 5900] X7 Xa) → (MInv5 Xa) → (uTrM (X 40 0 22) ((X 40 0 22 - Xa 40 0 22).toNat) X7 Xa) → (Xa 40 0 22 ≤ X 40 0 22 ∧ (Xa 40 0 22 = X 40 0 22 ∨ X 62 0 (X 40 0 20 - 1) ≤ Xa 40 0 22)) → wd D tc base (ad, cnt, Xa, Y, ln) H → va_S (frA base) s.heap H locs → lv_has ls 2 [(0, .ref (ad 40 0)), (1, .int (jI ((X 40 0 22) - (X 62 0 ((X 40 0 20) - 1)))))] → W p l e ({ frames := 0, cells := 0, slots := 0, locals := 0 } : Room) s m av9 below meth c H locs 0 0 Q9 (F0 m 40 ls []) := by
      intro nn
      induction nn with
      | zero => intro  Xa H locs ls hm hRXa hGXa hM5 hTr hle hw hS hl; have h9 : 0 ≤ Xa 40 0 22 ∧ Xa 40 0 22 ≤ 80 := hRXa 40 0 22; exfalso; omega
      | succ nn ih40 =>
        intro  Xa H locs ls hm hRXa hGXa hM5 hTr hle hw hS hl
        have hFXa : Frm [4001, 4021, 4023, 5600, 5900] X Xa := Frm.tr hFX7 (Frm.mono hGXa (by decide))
        have e12 : ∀ j : Int, Xa 67 0 j = X 67 0 j := fun j => by rw [hGXa 67 0 j (show 6700 ∉ [4023, 5600, 5900] by decide), hX7, u3_k _ _ _ _ (by decide), hX1, u3_k _ _ _ _ (by decide)]
        have e13 : ∀ j : Int, Xa 64 0 j = X 64 0 j := fun j => by rw [hGXa 64 0 j (show 6400 ∉ [4023, 5600, 5900] by decide), hX7, u3_k _ _ _ _ (by decide), hX1, u3_k _ _ _ _ (by decide)]
        have e14 : ∀ j : Int, Xa 65 0 j = X 65 0 j := fun j => by rw [hGXa 65 0 j (show 6500 ∉ [4023, 5600, 5900] by decide), hX7, u3_k _ _ _ _ (by decide), hX1, u3_k _ _ _ _ (by decide)]
        have e15 : ∀ j : Int, Xa 66 0 j = X 66 0 j := fun j => by rw [hGXa 66 0 j (show 6600 ∉ [4023, 5600, 5900] by decide), hX7, u3_k _ _ _ _ (by decide), hX1, u3_k _ _ _ _ (by decide)]
        have e16 : ∀ j : Int, Xa 68 0 j = X 68 0 j := fun j => by rw [hGXa 68 0 j (show 6800 ∉ [4023, 5600, 5900] by decide), hX7, u3_k _ _ _ _ (by decide), hX1, u3_k _ _ _ _ (by decide)]
        have e17 : ∀ j : Int, Xa 44 0 j = X 44 0 j := fun j => by rw [hGXa 44 0 j (show 4400 ∉ [4023, 5600, 5900] by decide), hX7, u3_k _ _ _ _ (by decide), hX1, u3_k _ _ _ _ (by decide)]
        have e18 : ∀ j : Int, Xa 55 0 j = X 55 0 j := fun j => by rw [hGXa 55 0 j (show 5500 ∉ [4023, 5600, 5900] by decide), hX7, u3_k _ _ _ _ (by decide), hX1, u3_k _ _ _ _ (by decide)]
        have e19 : ∀ j : Int, Xa 46 0 j = X 46 0 j := fun j => by rw [hGXa 46 0 j (show 4600 ∉ [4023, 5600, 5900] by decide), hX7, u3_k _ _ _ _ (by decide), hX1, u3_k _ _ _ _ (by decide)]
        have e20 : Xa 40 0 13 = X 40 0 13 := by rw [hGXa 40 0 13 (show 4014 ∉ [4023, 5600, 5900] by decide), hX7, u3_j _ _ _ _ (by decide), hX1, u3_j _ _ _ _ (by decide)]
        have hD5 := hM5.2.2.2.1
        unfold mD at hD5
        simp only [e12, e13, e14, e15, e16, e17, e18, e19, e20] at hD5
        have hN5 : 0 ≤ Xa 40 0 22 ∧ Xa 40 0 22 ≤ 80 := hRXa 40 0 22
        refine lv_aload_n hx hb dX9_undo_40 rfl (lv_at hl 0 rfl) ?_
        refine x_geti (jz := 22) hx hb hf9 hw (by first | exact Int.le_refl 0 | omega) (by first | exact zlt hc40 | omega) sl_40_22 rfl lk173 dX9_undo_41 ?_
        have f21 : 0 ≤ Xa 40 0 22 ∧ Xa 40 0 22 ≤ 80 := hRXa 40 0 22
        refine lv_aload_n hx hb dX9_undo_44 rfl (lv_at hl 0 rfl) ?_
        refine x_geto hx hb hf9 hw (by first | exact Int.le_refl 0 | omega) (by first | exact zlt hc40 | omega) sl_40_21 lk63 dX9_undo_45 ?_
        refine lv_aload_n hx hb dX9_undo_48 rfl (lv_at hl 0 rfl) ?_
        refine x_geti (jz := 20) hx hb hf9 hw (by first | exact Int.le_refl 0 | omega) (by first | exact zlt hc40 | omega) sl_40_20 rfl lk165 dX9_undo_49 ?_
        have e22 : Xa 40 0 20 = X7 40 0 20 := by rw [hGXa 40 0 20 (show 4021 ∉ [4023, 5600, 5900] by decide)]
        rw [e22]
        rw [hVX7]
        refine x_iald hx hb hK.1 hw (by first | exact Int.le_refl 0 | omega) (by first | exact zlt hc62 | omega) ar_62 (len_E ar_62 (by decide)) (by omega) (by omega) (by omega) dX9_undo_52 ?_
        have e23 : ∀ p9 q9 : Int, Xa 62 p9 q9 = X 62 p9 q9 := fun p9 q9 => by rw [hGXa 62 p9 q9 (show 6200 ∉ [4023, 5600, 5900] by decide), hX7, u3_k _ _ _ _ (by decide), hX1, u3_k _ _ _ _ (by decide)]
        rw [e23 0 ((X 40 0 20) - 1)]
        have f24 : 0 ≤ X 62 0 ((X 40 0 20) - 1) ∧ X 62 0 ((X 40 0 20) - 1) ≤ 80 := hR 62 0 ((X 40 0 20) - 1)
        refine x_icmp_le (tgt := 155) hx hb (by omega) (by omega) dX9_undo_53 (by decide) (fun c25 => ?_) (fun c25 => ?_)
        · refine lv_iload_n hx hb dX9_undo_155 rfl (lv_at hl 1 rfl) ?_
          rw [hQ9]
          refine ret_i (mc := 0) (ms := 0) hx hb hr hlocks hw hS (by first | exact Nat.le_of_ble_eq_true rfl | omega) (by first | exact Nat.le_of_ble_eq_true rfl | omega) dX9_undo_156 ?_
          have q26 : Frm [4001, 4021] X X1 := by rw [hX1]; exact Frm.set Frm.rf (show 4001 ∈ [4001, 4021] by decide)
          have q27 : Frm [4001, 4021] X X7 := by rw [hX7]; exact Frm.set q26 (show 4021 ∈ [4001, 4021] by decide)
          have e28 : Xa 40 0 20 = ((X 40 0 20) - 1) := (by rw [hGXa 40 0 20 (show 4021 ∉ [4023, 5600, 5900] by decide)]; exact hVX7)
          exact ⟨Xa, rfl, hRXa, hFXa, minv_undo_end (m := X 40 0 20 - 1) hMI hM5 (by rw [hGXa 40 0 20 (show 4021 ∉ [4023, 5600, 5900] by decide)]; exact hVX7) (by omega) (by omega) (fun j => (by rw [hGXa 62 0 j (show 6200 ∉ [4023, 5600, 5900] by decide), hX7, u3_k _ _ _ _ (by decide), hX1, u3_k _ _ _ _ (by decide)])) (by omega) (by omega), by omega, (by (try delta Hid at *); omega), fun q => (by exfalso; omega), fun _ => ⟨X7, q27, (by exact hVX7), by omega, by omega, by omega, hTr⟩⟩
        · refine lv_aload_n hx hb dX9_undo_56 rfl (lv_at hl 0 rfl) ?_
          refine lv_dup hx hb dX9_undo_57 rfl ?_
          refine x_geti (jz := 22) hx hb hf9 hw (by first | exact Int.le_refl 0 | omega) (by first | exact zlt hc40 | omega) sl_40_22 rfl lk173 dX9_undo_58 ?_
          have f29 : 0 ≤ Xa 40 0 22 ∧ Xa 40 0 22 ≤ 80 := hRXa 40 0 22
          refine lv_iconst (v := jI 1) hx hb dX9_undo_61 rfl ?_
          refine x_isub hx hb dX9_undo_62 ?_
          refine x_puti (jz := 22) hx hb hf9 ⟨tyX9_ok, nmX9⟩ hw hS (by first | exact Int.le_refl 0 | omega) (by first | exact zlt hc40 | omega) sl_40_22 rfl lk173 rfl (tyX9_ok 22 (by decide)) rfl rfl dX9_undo_63 (fun H locs hw hS => ?_)
          obtain ⟨X30, hX30⟩ : ∃ Xq, Xq = u3 Xa 40 0 22 ((Xa 40 0 22) - 1) := ⟨_, rfl⟩
          rw [← hX30] at hw
          have hRX30 : Rng X30 := by rw [hX30]; exact rng_set hRXa (show 0 ≤ ((Xa 40 0 22) - 1) ∧ ((Xa 40 0 22) - 1) ≤ 80 by omega)
          have hVX30 : X30 40 0 22 = ((Xa 40 0 22) - 1) := by rw [hX30]; exact u3_s _ _ _ _ _
          have hFX30 : Frm [4001, 4021, 4023, 5600, 5900] X X30 := by rw [hX30]; exact Frm.set hFXa (show 4023 ∈ [4001, 4021, 4023, 5600, 5900] by decide)
          have hD6 := hD5 (Xa 40 0 22 - 1) (by omega) (by omega)
          refine lv_aload_n hx hb dX9_undo_66 rfl (lv_at hl 0 rfl) ?_
          refine x_geto hx hb hf9 hw (by first | exact Int.le_refl 0 | omega) (by first | exact zlt hc40 | omega) sl_40_26 lk75 dX9_undo_67 ?_
          refine lv_aload_n hx hb dX9_undo_70 rfl (lv_at hl 0 rfl) ?_
          refine x_geti (jz := 22) hx hb hf9 hw (by first | exact Int.le_refl 0 | omega) (by first | exact zlt hc40 | omega) sl_40_22 rfl lk173 dX9_undo_71 ?_
          rw [hVX30]
          refine x_iald hx hb hK.1 hw (by first | exact Int.le_refl 0 | omega) (by first | exact zlt hc67 | omega) ar_67 (len_E ar_67 (by decide)) (by omega) (by omega) (by omega) dX9_undo_74 ?_
          have e31 : ∀ p9 q9 : Int, X30 67 p9 q9 = X 67 p9 q9 := fun p9 q9 => by rw [hX30, u3_k _ _ _ _ (by decide), hGXa 67 p9 q9 (show 6700 ∉ [4023, 5600, 5900] by decide), hX7, u3_k _ _ _ _ (by decide), hX1, u3_k _ _ _ _ (by decide)]
          rw [e31 0 ((Xa 40 0 22) - 1)]
          have f32 : (-1) ≤ X 67 0 ((Xa 40 0 22) - 1) ∧ X 67 0 ((Xa 40 0 22) - 1) ≤ 11 := hR 67 0 ((Xa 40 0 22) - 1)
          refine x_if_ge (tgt := 116) hx hb (by omega) dX9_undo_75 (by decide) (fun c33 => ?_) (fun c33 => ?_)
          · refine lv_aload_n hx hb dX9_undo_116 rfl (lv_at hl 0 rfl) ?_
            refine x_geto hx hb hf9 hw (by first | exact Int.le_refl 0 | omega) (by first | exact zlt hc40 | omega) sl_40_18 lk57 dX9_undo_117 ?_
            refine lv_bipush (v := jI 12) hx hb dX9_undo_120 (by decide) ?_
            refine lv_aload_n hx hb dX9_undo_122 rfl (lv_at hl 0 rfl) ?_
            refine x_geto hx hb hf9 hw (by first | exact Int.le_refl 0 | omega) (by first | exact zlt hc40 | omega) sl_40_25 lk72 dX9_undo_123 ?_
            refine lv_aload_n hx hb dX9_undo_126 rfl (lv_at hl 0 rfl) ?_
            refine x_geti (jz := 22) hx hb hf9 hw (by first | exact Int.le_refl 0 | omega) (by first | exact zlt hc40 | omega) sl_40_22 rfl lk173 dX9_undo_127 ?_
            rw [hVX30]
            refine x_iald hx hb hK.1 hw (by first | exact Int.le_refl 0 | omega) (by first | exact zlt hc66 | omega) ar_66 (len_E ar_66 (by decide)) (by omega) (by omega) (by omega) dX9_undo_130 ?_
            have e34 : ∀ p9 q9 : Int, X30 66 p9 q9 = X 66 p9 q9 := fun p9 q9 => by rw [hX30, u3_k _ _ _ _ (by decide), hGXa 66 p9 q9 (show 6600 ∉ [4023, 5600, 5900] by decide), hX7, u3_k _ _ _ _ (by decide), hX1, u3_k _ _ _ _ (by decide)]
            rw [e34 0 ((Xa 40 0 22) - 1)]
            have f35 : (-1) ≤ X 66 0 ((Xa 40 0 22) - 1) ∧ X 66 0 ((Xa 40 0 22) - 1) ≤ 399 := hR 66 0 ((Xa 40 0 22) - 1)
            refine x_imul hx hb dX9_undo_131 ?_
            refine lv_aload_n hx hb dX9_undo_132 rfl (lv_at hl 0 rfl) ?_
            refine x_geto hx hb hf9 hw (by first | exact Int.le_refl 0 | omega) (by first | exact zlt hc40 | omega) sl_40_26 lk75 dX9_undo_133 ?_
            refine lv_aload_n hx hb dX9_undo_136 rfl (lv_at hl 0 rfl) ?_
            refine x_geti (jz := 22) hx hb hf9 hw (by first | exact Int.le_refl 0 | omega) (by first | exact zlt hc40 | omega) sl_40_22 rfl lk173 dX9_undo_137 ?_
            rw [hVX30]
            refine x_iald hx hb hK.1 hw (by first | exact Int.le_refl 0 | omega) (by first | exact zlt hc67 | omega) ar_67 (len_E ar_67 (by decide)) (by omega) (by omega) (by omega) dX9_undo_140 ?_
            have e36 : ∀ p9 q9 : Int, X30 67 p9 q9 = X 67 p9 q9 := fun p9 q9 => by rw [hX30, u3_k _ _ _ _ (by decide), hGXa 67 p9 q9 (show 6700 ∉ [4023, 5600, 5900] by decide), hX7, u3_k _ _ _ _ (by decide), hX1, u3_k _ _ _ _ (by decide)]
            rw [e36 0 ((Xa 40 0 22) - 1)]
            have f37 : (-1) ≤ X 67 0 ((Xa 40 0 22) - 1) ∧ X 67 0 ((Xa 40 0 22) - 1) ≤ 11 := hR 67 0 ((Xa 40 0 22) - 1)
            refine x_iadd hx hb dX9_undo_141 ?_
            refine lv_aload_n hx hb dX9_undo_142 rfl (lv_at hl 0 rfl) ?_
            refine x_geto hx hb hf9 hw (by first | exact Int.le_refl 0 | omega) (by first | exact zlt hc40 | omega) sl_40_27 lk78 dX9_undo_143 ?_
            refine lv_aload_n hx hb dX9_undo_146 rfl (lv_at hl 0 rfl) ?_
            refine x_geti (jz := 22) hx hb hf9 hw (by first | exact Int.le_refl 0 | omega) (by first | exact zlt hc40 | omega) sl_40_22 rfl lk173 dX9_undo_147 ?_
            rw [hVX30]
            refine x_lald hx hb hK.1 hw (by first | exact Int.le_refl 0 | omega) (by first | exact zlt hc68 | omega) ar_68 (len_E ar_68 (by decide)) (by omega) (by omega) (by omega) dX9_undo_150 ?_
            have e38 : ∀ p9 q9 : Int, X30 68 p9 q9 = X 68 p9 q9 := fun p9 q9 => by rw [hX30, u3_k _ _ _ _ (by decide), hGXa 68 p9 q9 (show 6800 ∉ [4023, 5600, 5900] by decide), hX7, u3_k _ _ _ _ (by decide), hX1, u3_k _ _ _ _ (by decide)]
            rw [e38 0 ((Xa 40 0 22) - 1)]
            have f39 : (-9223372036854775808) ≤ X 68 0 ((Xa 40 0 22) - 1) ∧ X 68 0 ((Xa 40 0 22) - 1) ≤ 9223372036854775807 := hR 68 0 ((Xa 40 0 22) - 1)
            refine x_last hx hb hK.1 hw hS (by first | exact Int.le_refl 0 | omega) (by first | exact zlt hc59 | omega) ar_59 (len_E ar_59 (by decide)) (by omega) (by omega) (by omega) dX9_undo_151 (fun H locs hw hS => ?_)
            obtain ⟨X40, hX40⟩ : ∃ Xq, Xq = u3 X30 59 0 ((12 * (X 66 0 ((Xa 40 0 22) - 1))) + (X 67 0 ((Xa 40 0 22) - 1))) (X 68 0 ((Xa 40 0 22) - 1)) := ⟨_, rfl⟩
            rw [← hX40] at hw
            have hRX40 : Rng X40 := by rw [hX40]; exact rng_set hRX30 (show (-9223372036854775808) ≤ (X 68 0 ((Xa 40 0 22) - 1)) ∧ (X 68 0 ((Xa 40 0 22) - 1)) ≤ 9223372036854775807 by omega)
            have hVX40 : X40 59 0 ((12 * (X 66 0 ((Xa 40 0 22) - 1))) + (X 67 0 ((Xa 40 0 22) - 1))) = (X 68 0 ((Xa 40 0 22) - 1)) := by rw [hX40]; exact u3_s _ _ _ _ _
            have hFX40 : Frm [4001, 4021, 4023, 5600, 5900] X X40 := by rw [hX40]; exact Frm.set hFX30 (show 5900 ∈ [4001, 4021, 4023, 5600, 5900] by decide)
            refine lv_goto (tgt := 40) hx hb dX9_undo_152 (by decide) ?_
            have q41 : Frm [4023, 5600, 5900] X7 Xa := Frm.tr Frm.rf (Frm.mono hGXa (by decide))
            have q42 : Frm [4023, 5600, 5900] X7 X30 := by rw [hX30]; exact Frm.set q41 (show 4023 ∈ [4023, 5600, 5900] by decide)
            have q43 : Frm [4023, 5600, 5900] X7 X40 := by rw [hX40]; exact Frm.set q42 (show 5900 ∈ [4023, 5600, 5900] by decide)
            have e44 : X40 40 0 22 = X30 40 0 22 := by rw [hX40, u3_k _ _ _ _ (by decide)]
            have q45 : Frm [4001, 4021, 4023, 5600, 5900] X X1 := by rw [hX1]; exact Frm.set Frm.rf (show 4001 ∈ [4001, 4021, 4023, 5600, 5900] by decide)
            have q46 : Frm [4001, 4021, 4023, 5600, 5900] X X7 := by rw [hX7]; exact Frm.set q45 (show 4021 ∈ [4001, 4021, 4023, 5600, 5900] by decide)
            have q47 : Frm [4001, 4021, 4023, 5600, 5900] X Xa := Frm.tr q46 (Frm.mono hGXa (by decide))
            have f48 : Xa 64 = X 64 := Frm.arr q47 64 (by decide +kernel) (by decide)
            have f49 : Xa 65 = X 65 := Frm.arr q47 65 (by decide +kernel) (by decide)
            have f50 : Xa 66 = X 66 := Frm.arr q47 66 (by decide +kernel) (by decide)
            have f51 : Xa 67 = X 67 := Frm.arr q47 67 (by decide +kernel) (by decide)
            have f52 : Xa 68 = X 68 := Frm.arr q47 68 (by decide +kernel) (by decide)
            exact ih40  X40 _ _ _ (by omega) hRX40 q43 (minv5_undo_r hM5 (by omega) hX30 hX40) (uTrM.push hTr (by omega) ⟨by omega, Or.inr ⟨(by rw [f51]; omega), (by rw [f50, f51, f52, hX40, hX30])⟩⟩ (by rw [hX40, u3_k _ _ _ _ (by decide), hX30, u3_s])) (by first | omega | (simp only [e44]; omega)) hw hS (lv_sub hl [0, 1] rfl)
          · refine lv_aload_n hx hb dX9_undo_78 rfl (lv_at hl 0 rfl) ?_
            refine x_geto hx hb hf9 hw (by first | exact Int.le_refl 0 | omega) (by first | exact zlt hc40 | omega) sl_40_15 lk48 dX9_undo_79 ?_
            refine lv_iconst (v := jI 5) hx hb dX9_undo_82 rfl ?_
            refine lv_aload_n hx hb dX9_undo_83 rfl (lv_at hl 0 rfl) ?_
            refine x_geto hx hb hf9 hw (by first | exact Int.le_refl 0 | omega) (by first | exact zlt hc40 | omega) sl_40_23 lk66 dX9_undo_84 ?_
            refine lv_aload_n hx hb dX9_undo_87 rfl (lv_at hl 0 rfl) ?_
            refine x_geti (jz := 22) hx hb hf9 hw (by first | exact Int.le_refl 0 | omega) (by first | exact zlt hc40 | omega) sl_40_22 rfl lk173 dX9_undo_88 ?_
            rw [hVX30]
            refine x_iald hx hb hK.1 hw (by first | exact Int.le_refl 0 | omega) (by first | exact zlt hc64 | omega) ar_64 (len_E ar_64 (by decide)) (by omega) (by omega) (by omega) dX9_undo_91 ?_
            have e53 : ∀ p9 q9 : Int, X30 64 p9 q9 = X 64 p9 q9 := fun p9 q9 => by rw [hX30, u3_k _ _ _ _ (by decide), hGXa 64 p9 q9 (show 6400 ∉ [4023, 5600, 5900] by decide), hX7, u3_k _ _ _ _ (by decide), hX1, u3_k _ _ _ _ (by decide)]
            rw [e53 0 ((Xa 40 0 22) - 1)]
            have f54 : 0 ≤ X 64 0 ((Xa 40 0 22) - 1) ∧ X 64 0 ((Xa 40 0 22) - 1) ≤ 29 := hR 64 0 ((Xa 40 0 22) - 1)
            refine x_imul hx hb dX9_undo_92 ?_
            refine lv_aload_n hx hb dX9_undo_93 rfl (lv_at hl 0 rfl) ?_
            refine x_geto hx hb hf9 hw (by first | exact Int.le_refl 0 | omega) (by first | exact zlt hc40 | omega) sl_40_24 lk69 dX9_undo_94 ?_
            refine lv_aload_n hx hb dX9_undo_97 rfl (lv_at hl 0 rfl) ?_
            refine x_geti (jz := 22) hx hb hf9 hw (by first | exact Int.le_refl 0 | omega) (by first | exact zlt hc40 | omega) sl_40_22 rfl lk173 dX9_undo_98 ?_
            rw [hVX30]
            refine x_iald hx hb hK.1 hw (by first | exact Int.le_refl 0 | omega) (by first | exact zlt hc65 | omega) ar_65 (len_E ar_65 (by decide)) (by omega) (by omega) (by omega) dX9_undo_101 ?_
            have e55 : ∀ p9 q9 : Int, X30 65 p9 q9 = X 65 p9 q9 := fun p9 q9 => by rw [hX30, u3_k _ _ _ _ (by decide), hGXa 65 p9 q9 (show 6500 ∉ [4023, 5600, 5900] by decide), hX7, u3_k _ _ _ _ (by decide), hX1, u3_k _ _ _ _ (by decide)]
            rw [e55 0 ((Xa 40 0 22) - 1)]
            have f56 : 0 ≤ X 65 0 ((Xa 40 0 22) - 1) ∧ X 65 0 ((Xa 40 0 22) - 1) ≤ 4 := hR 65 0 ((Xa 40 0 22) - 1)
            refine x_iadd hx hb dX9_undo_102 ?_
            refine lv_aload_n hx hb dX9_undo_103 rfl (lv_at hl 0 rfl) ?_
            refine x_geto hx hb hf9 hw (by first | exact Int.le_refl 0 | omega) (by first | exact zlt hc40 | omega) sl_40_27 lk78 dX9_undo_104 ?_
            refine lv_aload_n hx hb dX9_undo_107 rfl (lv_at hl 0 rfl) ?_
            refine x_geti (jz := 22) hx hb hf9 hw (by first | exact Int.le_refl 0 | omega) (by first | exact zlt hc40 | omega) sl_40_22 rfl lk173 dX9_undo_108 ?_
            rw [hVX30]
            refine x_lald hx hb hK.1 hw (by first | exact Int.le_refl 0 | omega) (by first | exact zlt hc68 | omega) ar_68 (len_E ar_68 (by decide)) (by omega) (by omega) (by omega) dX9_undo_111 ?_
            have e57 : ∀ p9 q9 : Int, X30 68 p9 q9 = X 68 p9 q9 := fun p9 q9 => by rw [hX30, u3_k _ _ _ _ (by decide), hGXa 68 p9 q9 (show 6800 ∉ [4023, 5600, 5900] by decide), hX7, u3_k _ _ _ _ (by decide), hX1, u3_k _ _ _ _ (by decide)]
            rw [e57 0 ((Xa 40 0 22) - 1)]
            have f58 : (-9223372036854775808) ≤ X 68 0 ((Xa 40 0 22) - 1) ∧ X 68 0 ((Xa 40 0 22) - 1) ≤ 9223372036854775807 := hR 68 0 ((Xa 40 0 22) - 1)
            refine x_last hx hb hK.1 hw hS (by first | exact Int.le_refl 0 | omega) (by first | exact zlt hc56 | omega) ar_56 (len_E ar_56 (by decide)) (by omega) (by omega) (by omega) dX9_undo_112 (fun H locs hw hS => ?_)
            obtain ⟨X59, hX59⟩ : ∃ Xq, Xq = u3 X30 56 0 ((5 * (X 64 0 ((Xa 40 0 22) - 1))) + (X 65 0 ((Xa 40 0 22) - 1))) (X 68 0 ((Xa 40 0 22) - 1)) := ⟨_, rfl⟩
            rw [← hX59] at hw
            have hRX59 : Rng X59 := by rw [hX59]; exact rng_set hRX30 (show (-9223372036854775808) ≤ (X 68 0 ((Xa 40 0 22) - 1)) ∧ (X 68 0 ((Xa 40 0 22) - 1)) ≤ 9223372036854775807 by omega)
            have hVX59 : X59 56 0 ((5 * (X 64 0 ((Xa 40 0 22) - 1))) + (X 65 0 ((Xa 40 0 22) - 1))) = (X 68 0 ((Xa 40 0 22) - 1)) := by rw [hX59]; exact u3_s _ _ _ _ _
            have hFX59 : Frm [4001, 4021, 4023, 5600, 5900] X X59 := by rw [hX59]; exact Frm.set hFX30 (show 5600 ∈ [4001, 4021, 4023, 5600, 5900] by decide)
            refine lv_goto (tgt := 40) hx hb dX9_undo_113 (by decide) ?_
            have q60 : Frm [4023, 5600, 5900] X7 Xa := Frm.tr Frm.rf (Frm.mono hGXa (by decide))
            have q61 : Frm [4023, 5600, 5900] X7 X30 := by rw [hX30]; exact Frm.set q60 (show 4023 ∈ [4023, 5600, 5900] by decide)
            have q62 : Frm [4023, 5600, 5900] X7 X59 := by rw [hX59]; exact Frm.set q61 (show 5600 ∈ [4023, 5600, 5900] by decide)
            have e63 : X59 40 0 22 = X30 40 0 22 := by rw [hX59, u3_k _ _ _ _ (by decide)]
            have q64 : Frm [4001, 4021, 4023, 5600, 5900] X X1 := by rw [hX1]; exact Frm.set Frm.rf (show 4001 ∈ [4001, 4021, 4023, 5600, 5900] by decide)
            have q65 : Frm [4001, 4021, 4023, 5600, 5900] X X7 := by rw [hX7]; exact Frm.set q64 (show 4021 ∈ [4001, 4021, 4023, 5600, 5900] by decide)
            have q66 : Frm [4001, 4021, 4023, 5600, 5900] X Xa := Frm.tr q65 (Frm.mono hGXa (by decide))
            have f67 : Xa 64 = X 64 := Frm.arr q66 64 (by decide +kernel) (by decide)
            have f68 : Xa 65 = X 65 := Frm.arr q66 65 (by decide +kernel) (by decide)
            have f69 : Xa 66 = X 66 := Frm.arr q66 66 (by decide +kernel) (by decide)
            have f70 : Xa 67 = X 67 := Frm.arr q66 67 (by decide +kernel) (by decide)
            have f71 : Xa 68 = X 68 := Frm.arr q66 68 (by decide +kernel) (by decide)
            exact ih40  X59 _ _ _ (by omega) hRX59 q62 (minv5_undo_x hM5 hRX30 (by omega) (by omega) (by rw [hGXa 67 0 (Xa 40 0 22 - 1) (show 6700 ∉ [4023, 5600, 5900] by decide), hX7, u3_k _ _ _ _ (by decide), hX1, u3_k _ _ _ _ (by decide)]; omega) hX30 (by rw [hGXa 64 0 (Xa 40 0 22 - 1) (show 6400 ∉ [4023, 5600, 5900] by decide), hX7, u3_k _ _ _ _ (by decide), hX1, u3_k _ _ _ _ (by decide)]) (by rw [hGXa 65 0 (Xa 40 0 22 - 1) (show 6500 ∉ [4023, 5600, 5900] by decide), hX7, u3_k _ _ _ _ (by decide), hX1, u3_k _ _ _ _ (by decide)]) (by rw [hGXa 68 0 (Xa 40 0 22 - 1) (show 6800 ∉ [4023, 5600, 5900] by decide), hX7, u3_k _ _ _ _ (by decide), hX1, u3_k _ _ _ _ (by decide)]) (hR 64 0 _).1 (hR 65 0 _).1 hX59) (uTrM.push hTr (by omega) ⟨by omega, Or.inl ⟨(by rw [f70]; omega), (by rw [f67, f68, f71, hX59, hX30])⟩⟩ (by rw [hX59, u3_k _ _ _ _ (by decide), hX30, u3_s])) (by first | omega | (simp only [e63]; omega)) hw hS (lv_sub hl [0, 1] rfl)
    have e72 : X7 40 0 22 = X 40 0 22 := by rw [hX7, u3_j _ _ _ _ (by decide), hX1, u3_j _ _ _ _ (by decide)]
    have q73 : Frm [4001, 4021] X X1 := by rw [hX1]; exact Frm.set Frm.rf (show 4001 ∈ [4001, 4021] by decide)
    have q74 : Frm [4001, 4021] X X7 := by rw [hX7]; exact Frm.set q73 (show 4021 ∈ [4001, 4021] by decide)
    exact lp40 (X7 40 0 22 : Int).toNat.succ  X7 _ _ _ (by omega) hRX7 Frm.rf (minv5_frm ⟨hMI.1, hMI.2.1, hMI.2.2.1, hMI.2.2.2.1, hMI.2.2.2.2.2⟩ q74 (by decide)) ((by rw [show (X 40 0 22 - X7 40 0 22).toNat = 0 by (rw [show X7 40 0 22 = X 40 0 22 from (by rw [hX7, u3_j _ _ _ _ (by decide), hX1, u3_j _ _ _ _ (by decide)])]; omega)]; rfl)) (by first | omega | (simp only [e72]; omega)) hw hS (lv_sub hl [1, 0] rfl)
  · refine lv_bipush (v := jI (-3)) hx hb dX9_undo_12 (by decide) ?_
    rw [hQ9]
    refine ret_i (mc := 0) (ms := 0) hx hb hr hlocks hw hS (by first | exact Nat.le_of_ble_eq_true rfl | omega) (by first | exact Nat.le_of_ble_eq_true rfl | omega) dX9_undo_14 ?_
    have q76 : Frm [4001] X X1 := by rw [hX1]; exact Frm.set Frm.rf (show 4001 ∈ [4001] by decide)
    have hMq75 : MInv X1 := minv_frm hMI q76 (by decide)
    have q77 : Frm [4001] X X1 := by rw [hX1]; exact Frm.set Frm.rf (show 4001 ∈ [4001] by decide)
    have e78 : X1 40 0 20 = X 40 0 20 := (by rw [hX1, u3_j _ _ _ _ (by decide)])
    exact ⟨X1, rfl, hRX1, hFX1, hMq75, by omega, (by (try delta Hid at *); omega), fun _ => ⟨q77, by omega⟩, fun q => (by exfalso; omega)⟩

