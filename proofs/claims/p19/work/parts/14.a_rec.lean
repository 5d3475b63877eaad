set_option maxHeartbeats 4000000 in
set_option maxRecDepth 100000 in
theorem c_X9_recordOf (l : Launch) (D : va_G) (tc : Nat → ClassId) (base : Nat) (ad : Nat → Int → Nat) (cnt : Nat → Int) (X : Nat → Int → Int → Int) (Y : Nat → Int → Int → Option Int) (ln : Int → Int) (hR : Rng X) (hFx : Fx cnt) (hMI : MInv X) (x : Int) (hx0 : 0 ≤ x ∧ x ≤ 29) (hxt : x < X 40 0 13) (hO : ordOK X) (sg : Nat → Int → Int) (hsg : rmT X sg) : KI l D tc base yX9_recordOf wsX9_recordOf ({ frames := 0, cells := 0, slots := 0, locals := 0 } : Room) [.ref (ad 40 0), .int (jI 4), .int (jI x)] (ad, cnt, X, Y, ln) 0 0 (fun z u => ∃ X1 : Nat → Int → Int → Int, u = (ad, cnt, X1, Y, ln) ∧ Rng X1 ∧ Frm [8000, 7000] X X1 ∧ MInv X1 ∧ (0 ≤ z ∧ z < X1 70 0 4 ∧ X1 70 0 4 ≤ 30) ∧ S4 X X1 ∧ ordOK X1 ∧ X 70 0 4 ≤ X1 70 0 4 ∧ z = (if nmAt (sg 1) x (sg 0 0).toNat = -1 then sg 0 0 else nmAt (sg 1) x (sg 0 0).toNat) ∧ rmT X1 (if nmAt (sg 1) x (sg 0 0).toNat = -1 then u2 (u2 sg 1 (sg 0 0) x) 0 0 (sg 0 0 + 1) else sg)) := by
  refine K_of (cc := cX9_recordOf) (maxL := 4) (ret := (some .int)) (by decide) rfl (Nat.le_of_ble_eq_true rfl) ?_
  intro p e s m below meth c ls hx hb hr hml hown hts hlocks hl hK hw hS
  have hown : s.vm.findClass RX9 = some m.cls := hown
  obtain ⟨av9, hav9⟩ : ∃ a9 : Array Value, a9 = ([.ref (ad 40 0), .int (jI 4), .int (jI x)] : List Value).toArray := ⟨_, rfl⟩
  rw [← hav9] at hts ⊢
  obtain ⟨Q9, hQ9⟩ : ∃ q9Q : State → Prop, q9Q = MQ below (QI D tc base (fun z u => ∃ X1 : Nat → Int → Int → Int, u = (ad, cnt, X1, Y, ln) ∧ Rng X1 ∧ Frm [8000, 7000] X X1 ∧ MInv X1 ∧ (0 ≤ z ∧ z < X1 70 0 4 ∧ X1 70 0 4 ≤ 30) ∧ S4 X X1 ∧ ordOK X1 ∧ X 70 0 4 ≤ X1 70 0 4 ∧ z = (if nmAt (sg 1) x (sg 0 0).toNat = -1 then sg 0 0 else nmAt (sg 1) x (sg 0 0).toNat) ∧ rmT X1 (if nmAt (sg 1) x (sg 0 0).toNat = -1 then u2 (u2 sg 1 (sg 0 0) x) 0 0 (sg 0 0 + 1) else sg))) av9 s 0 0 (frA base) := ⟨_, rfl⟩
  rw [← hQ9]
  have hi9 : ∀ w ∈ wsX90, w ∈ wsX9_recordOf := fun w h => List.mem_cons_of_mem _ (List.mem_append_right _ h)
  have hf9 : fctx s m _ RX9 wsX9_recordOf D tc RX9 TX9 51 9 := ⟨hts, hi9, hown, hK.1, rfl⟩
  have lk81 := hts (.fieldLink RX9 81 (TX9 29).1 (TX9 29).2.1 (TX9 29).2.2.1) (gj_X9_recordOf_0 _ (gp_h))
  have lk111 := hts (.fieldLink RX9 111 (TX9 39).1 (TX9 39).2.1 (TX9 39).2.2.1) (gj_X9_recordOf_0 _ (gp_1 gp_h))
  have hc40 : cnt 40 = 1 := hFx.at 40 1 (by decide)
  have hc70 : cnt 70 = 1 := hFx.at 70 1 (by decide)
  have hc80 : cnt 80 = 1 := hFx.at 80 1 (by decide)
  have hl : lv_has ls 4 [(0, .ref (ad 40 0)), (1, .int (jI 4)), (2, .int (jI x))] := hl
  have fstypes : 0 ≤ X 40 0 2 ∧ X 40 0 2 ≤ 8 := hR 40 0 2
  have fsthings : 0 ≤ X 40 0 13 ∧ X 40 0 13 ≤ 30 := hR 40 0 13
  have fsmarks : 0 ≤ X 40 0 20 ∧ X 40 0 20 ≤ 4 := hR 40 0 20
  have fsnotes : 0 ≤ X 40 0 22 ∧ X 40 0 22 ≤ 80 := hR 40 0 22
  have hsg1 : X 70 0 4 = sg 0 0 := hsg.1
  have hsg0 : 0 ≤ X 70 0 4 ∧ X 70 0 4 ≤ 30 := hR 70 0 4
  refine lv_iconst (v := jI 0) hx hb dX9_recordOf_0 rfl ?_
  refine lv_istore_n (lv' := [(3, .int (jI 0)), (0, .ref (ad 40 0)), (1, .int (jI 4)), (2, .int (jI x))]) hx hb dX9_recordOf_1 rfl hl (by decide) rfl (fun ls hl => ?_)
  have lp2 : ∀ (nn : Nat) (r : Int) (H : Heap) (locs : List Loc) (ls : Array Slot), (30 - r) < (nn : Int) → (0 ≤ r ∧ r ≤ 30) → (∀ j, 0 ≤ j → j < r → X 80 0 j ≠ x) → wd D tc base (ad, cnt, X, Y, ln) H → va_S (frA base) s.heap H locs → lv_has ls 4 [(0, .ref (ad 40 0)), (1, .int (jI 4)), (2, .int (jI x)), (3, .int (jI r))] → W p l e ({ frames := 0, cells := 0, slots := 0, locals := 0 } : Room) s m av9 below meth c H locs 0 0 Q9 (F0 m 2 ls []) := by
    intro nn
    induction nn with
    | zero => intro r H locs ls hm hr0 hne hw hS hl; exfalso; omega
    | succ nn ih2 =>
      intro r H locs ls hm hr0 hne hw hS hl
      refine lv_iload_n hx hb dX9_recordOf_2 rfl (lv_at hl 3 rfl) ?_
      refine lv_aload_n hx hb dX9_recordOf_3 rfl (lv_at hl 0 rfl) ?_
      refine x_geto hx hb hf9 hw (by first | exact Int.le_refl 0 | omega) (by first | exact zlt hc40 | omega) sl_40_29 lk81 dX9_recordOf_4 ?_
      refine lv_iload_n hx hb dX9_recordOf_7 rfl (lv_at hl 1 rfl) ?_
      refine x_iald hx hb hK.1 hw (by first | exact Int.le_refl 0 | omega) (by first | exact zlt hc70 | omega) ar_70 (len_E ar_70 (by first | exact Nat.ne_of_beq_eq_false rfl | decide)) (by omega) (by omega) (by omega) dX9_recordOf_8 ?_
      have f1 : 0 ≤ X 70 0 4 ∧ X 70 0 4 ≤ 30 := hR 70 0 4
      refine x_icmp_ge (tgt := 30) hx hb (by omega) (by omega) dX9_recordOf_9 (by decide) (fun c2 => ?_) (fun c2 => ?_)
      · have hO30 := hO.room hR (by omega) hxt (fun j a b => hne j a (by omega))
        refine lv_aload_n hx hb dX9_recordOf_30 rfl (lv_at hl 0 rfl) ?_
        refine x_geto hx hb hf9 hw (by first | exact Int.le_refl 0 | omega) (by first | exact zlt hc40 | omega) sl_40_39 lk111 dX9_recordOf_31 ?_
        refine lv_aload_n hx hb dX9_recordOf_34 rfl (lv_at hl 0 rfl) ?_
        refine x_geto hx hb hf9 hw (by first | exact Int.le_refl 0 | omega) (by first | exact zlt hc40 | omega) sl_40_29 lk81 dX9_recordOf_35 ?_
        refine lv_iload_n hx hb dX9_recordOf_38 rfl (lv_at hl 1 rfl) ?_
        refine x_iald hx hb hK.1 hw (by first | exact Int.le_refl 0 | omega) (by first | exact zlt hc70 | omega) ar_70 (len_E ar_70 (by first | exact Nat.ne_of_beq_eq_false rfl | decide)) (by omega) (by omega) (by omega) dX9_recordOf_39 ?_
        have f3 : 0 ≤ X 70 0 4 ∧ X 70 0 4 ≤ 30 := hR 70 0 4
        refine lv_iload_n hx hb dX9_recordOf_40 rfl (lv_at hl 2 rfl) ?_
        refine x_iast hx hb hK.1 hw hS (by first | exact Int.le_refl 0 | omega) (by first | exact zlt hc80 | omega) ar_80 (len_E ar_80 (by first | exact Nat.ne_of_beq_eq_false rfl | decide)) (by omega) (by omega) (by omega) dX9_recordOf_41 (fun H locs hw hS => ?_)
        obtain ⟨X4, hX4⟩ : ∃ Xq, Xq = u3 X 80 0 (X 70 0 4) x := ⟨_, rfl⟩
        rw [← hX4] at hw
        have hRX4 : Rng X4 := by rw [hX4]; exact rng_set hR (show 0 ≤ x ∧ x ≤ 29 by omega)
        have hVX4 : X4 80 0 (X 70 0 4) = x := by rw [hX4]; exact u3_s _ _ _ _ _
        have hFX4 : Frm [8000, 7000] X X4 := by rw [hX4]; exact Frm.set Frm.rf (show 8000 ∈ [8000, 7000] by first | exact nlm_in rfl | decide)
        refine lv_aload_n hx hb dX9_recordOf_42 rfl (lv_at hl 0 rfl) ?_
        refine x_geto hx hb hf9 hw (by first | exact Int.le_refl 0 | omega) (by first | exact zlt hc40 | omega) sl_40_29 lk81 dX9_recordOf_43 ?_
        refine lv_iload_n hx hb dX9_recordOf_46 rfl (lv_at hl 1 rfl) ?_
        refine lv_dup2_11 hx hb dX9_recordOf_47 rfl rfl ?_
        refine x_iald hx hb hK.1 hw (by first | exact Int.le_refl 0 | omega) (by first | exact zlt hc70 | omega) ar_70 (len_E ar_70 (by first | exact Nat.ne_of_beq_eq_false rfl | decide)) (by omega) (by omega) (by omega) dX9_recordOf_48 ?_
        have e5 : ∀ p9 q9 : Int, X4 70 p9 q9 = X 70 p9 q9 := fun p9 q9 => by rw [hX4, u3_k _ _ _ _ (by first | exact Nat.ne_of_beq_eq_false rfl | decide)]
        rw [e5 0 4]
        have f6 : 0 ≤ X 70 0 4 ∧ X 70 0 4 ≤ 30 := hR 70 0 4
        refine lv_iconst (v := jI 1) hx hb dX9_recordOf_49 rfl ?_
        refine x_iadd hx hb dX9_recordOf_50 ?_
        refine x_iast hx hb hK.1 hw hS (by first | exact Int.le_refl 0 | omega) (by first | exact zlt hc70 | omega) ar_70 (len_E ar_70 (by first | exact Nat.ne_of_beq_eq_false rfl | decide)) (by omega) (by omega) (by omega) dX9_recordOf_51 (fun H locs hw hS => ?_)
        obtain ⟨X7, hX7⟩ : ∃ Xq, Xq = u3 X4 70 0 4 ((X 70 0 4) + 1) := ⟨_, rfl⟩
        rw [← hX7] at hw
        have hRX7 : Rng X7 := by rw [hX7]; exact rng_set hRX4 (show 0 ≤ ((X 70 0 4) + 1) ∧ ((X 70 0 4) + 1) ≤ 30 by omega)
        have hVX7 : X7 70 0 4 = ((X 70 0 4) + 1) := by rw [hX7]; exact u3_s _ _ _ _ _
        have hFX7 : Frm [8000, 7000] X X7 := by rw [hX7]; exact Frm.set hFX4 (show 7000 ∈ [8000, 7000] by first | exact nlm_in rfl | decide)
        refine lv_aload_n hx hb dX9_recordOf_52 rfl (lv_at hl 0 rfl) ?_
        refine x_geto hx hb hf9 hw (by first | exact Int.le_refl 0 | omega) (by first | exact zlt hc40 | omega) sl_40_29 lk81 dX9_recordOf_53 ?_
        refine lv_iload_n hx hb dX9_recordOf_56 rfl (lv_at hl 1 rfl) ?_
        refine x_iald hx hb hK.1 hw (by first | exact Int.le_refl 0 | omega) (by first | exact zlt hc70 | omega) ar_70 (len_E ar_70 (by first | exact Nat.ne_of_beq_eq_false rfl | decide)) (by omega) (by omega) (by omega) dX9_recordOf_57 ?_
        rw [hVX7]
        refine lv_iconst (v := jI 1) hx hb dX9_recordOf_58 rfl ?_
        refine x_isub hx hb dX9_recordOf_59 ?_
        rw [hQ9]
        refine ret_i (mc := 0) (ms := 0) hx hb hr hlocks hw hS (by first | exact Nat.le_of_ble_eq_true rfl | omega) (by first | exact Nat.le_of_ble_eq_true rfl | omega) dX9_recordOf_60 ?_
        have q8 : S4 X X4 := by rw [hX4]; exact S4.set S4.rf ⟨by first | exact fun h => absurd h (Nat.ne_of_beq_eq_false rfl) | omega, by first | exact fun h => absurd h (Nat.ne_of_beq_eq_false rfl) | omega, by first | exact fun h => absurd h (Nat.ne_of_beq_eq_false rfl) | omega, by first | exact fun h => absurd h (Nat.ne_of_beq_eq_false rfl) | omega, by first | exact fun h => absurd h (Nat.ne_of_beq_eq_false rfl) | omega⟩
        have q9 : S4 X X7 := by rw [hX7]; exact S4.set q8 ⟨by first | exact fun h => absurd h (Nat.ne_of_beq_eq_false rfl) | omega, by first | exact fun h => absurd h (Nat.ne_of_beq_eq_false rfl) | omega, by first | exact fun h => absurd h (Nat.ne_of_beq_eq_false rfl) | omega, by first | exact fun h => absurd h (Nat.ne_of_beq_eq_false rfl) | omega, by first | exact fun h => absurd h (Nat.ne_of_beq_eq_false rfl) | omega⟩
        have q10 : S4 X X4 := by rw [hX4]; exact S4.set S4.rf ⟨by first | exact fun h => absurd h (Nat.ne_of_beq_eq_false rfl) | omega, by first | exact fun h => absurd h (Nat.ne_of_beq_eq_false rfl) | omega, by first | exact fun h => absurd h (Nat.ne_of_beq_eq_false rfl) | omega, by first | exact fun h => absurd h (Nat.ne_of_beq_eq_false rfl) | omega, by first | exact fun h => absurd h (Nat.ne_of_beq_eq_false rfl) | omega⟩
        have q11 : S4 X X7 := by rw [hX7]; exact S4.set q10 ⟨by first | exact fun h => absurd h (Nat.ne_of_beq_eq_false rfl) | omega, by first | exact fun h => absurd h (Nat.ne_of_beq_eq_false rfl) | omega, by first | exact fun h => absurd h (Nat.ne_of_beq_eq_false rfl) | omega, by first | exact fun h => absurd h (Nat.ne_of_beq_eq_false rfl) | omega, by first | exact fun h => absurd h (Nat.ne_of_beq_eq_false rfl) | omega⟩
        have hm12 : nmAt (sg 1) x (sg 0 0).toNat = -1 := nmAt_no (fun j a b => by rw [← hsg.2 j a (by omega)]; exact hne j a (by omega)) (by omega)
        refine ⟨X7, rfl, hRX7, hFX7, ?g9p273, ?g9p274, q11, ?g9p275, ?g9p276, ?g9p277, ?g9p278⟩
        case g9p273 => exact minv_s4 hMI hRX7 hFX7 q9 (by decide)
        case g9p274 => omega
        case g9p275 => exact ordOK.push hO hxt (fun j a b => hne j a (by omega)) hX4 hX7
        case g9p276 => rw [hX7, u3_s]; omega
        case g9p277 => rw [hm12, if_pos rfl]; omega
        case g9p278 => rw [hm12, if_pos rfl]; exact rmT.push hsg (by omega) (by rw [hX7, u3_s]) (by rw [hX7, u3_k _ _ _ _ (by first | exact Nat.ne_of_beq_eq_false rfl | decide), hX4, u3_s]) (fun j hj => by rw [hX7, u3_k _ _ _ _ (by first | exact Nat.ne_of_beq_eq_false rfl | decide), hX4, u3_j _ _ _ _ hj])
      · refine lv_aload_n hx hb dX9_recordOf_12 rfl (lv_at hl 0 rfl) ?_
        refine x_geto hx hb hf9 hw (by first | exact Int.le_refl 0 | omega) (by first | exact zlt hc40 | omega) sl_40_39 lk111 dX9_recordOf_13 ?_
        refine lv_iload_n hx hb dX9_recordOf_16 rfl (lv_at hl 3 rfl) ?_
        refine x_iald hx hb hK.1 hw (by first | exact Int.le_refl 0 | omega) (by first | exact zlt hc80 | omega) ar_80 (len_E ar_80 (by first | exact Nat.ne_of_beq_eq_false rfl | decide)) (by omega) (by omega) (by omega) dX9_recordOf_17 ?_
        have f13 : 0 ≤ X 80 0 r ∧ X 80 0 r ≤ 29 := hR 80 0 r
        refine lv_iload_n hx hb dX9_recordOf_18 rfl (lv_at hl 2 rfl) ?_
        refine x_icmp_ne (tgt := 24) hx hb (by omega) (by omega) dX9_recordOf_19 (by decide) (fun c14 => ?_) (fun c14 => ?_)
        · refine lv_iinc (v := jI (r + 1)) (lv' := [(3, .int (jI (r + 1))), (0, .ref (ad 40 0)), (1, .int (jI 4)), (2, .int (jI x))]) hx hb dX9_recordOf_24 hl (k := 3) rfl (jI_add _ _) (by decide) rfl (fun ls hl => ?_)
          refine lv_goto (tgt := 2) hx hb dX9_recordOf_27 (by decide) ?_
          exact ih2 (r + 1) _ _ _ (by omega) (by omega) (fun j a b => if hj : j = r then (by rw [hj]; omega) else hne j a (by omega)) hw hS (lv_sub hl [1, 2, 3, 0] rfl)
        · refine lv_iload_n hx hb dX9_recordOf_22 rfl (lv_at hl 3 rfl) ?_
          rw [hQ9]
          refine ret_i (mc := 0) (ms := 0) hx hb hr hlocks hw hS (by first | exact Nat.le_of_ble_eq_true rfl | omega) (by first | exact Nat.le_of_ble_eq_true rfl | omega) dX9_recordOf_23 ?_
          have hm15 : nmAt (sg 1) x (sg 0 0).toNat = r := nmAt_yes (fun j a b => by rw [← hsg.2 j a (by omega)]; exact hne j a b) ⟨by omega, by omega⟩ (by rw [← hsg.2 r (by omega) (by omega)]; omega)
          exact ⟨X, rfl, hR, Frm.rf, hMI, by omega, S4.rf, hO, Int.le_refl _, (by rw [hm15, if_neg (by omega)]), (by rw [hm15, if_neg (by omega)]; exact hsg)⟩
  exact lp2 (30 - 0 : Int).toNat.succ 0 _ _ _ (by omega) (by omega) (fun j a b => by omega) hw hS (lv_sub hl [1, 2, 3, 0] rfl)

set_option maxHeartbeats 4000000 in
set_option maxRecDepth 100000 in
theorem c_X9_rowOf (l : Launch) (D : va_G) (tc : Nat → ClassId) (base : Nat) (ad : Nat → Int → Nat) (cnt : Nat → Int) (X : Nat → Int → Int → Int) (Y : Nat → Int → Int → Option Int) (ln : Int → Int) (hR : Rng X) (hFx : Fx cnt) (hMI : MInv X) (row : Int) (hrow : 0 ≤ row ∧ row ≤ 399) (hsr : X 76 0 4 ≤ 149) (sg : Nat → Int → Int) (hsg : rmR X sg) (yy kk : Int) (hrw : row = mRid X yy kk) : KI l D tc base yX9_rowOf wsX9_rowOf ({ frames := 0, cells := 0, slots := 0, locals := 0 } : Room) [.ref (ad 40 0), .int (jI 4), .int (jI row)] (ad, cnt, X, Y, ln) 0 0 (fun z u => ∃ X1 : Nat → Int → Int → Int, u = (ad, cnt, X1, Y, ln) ∧ Rng X1 ∧ Frm [8100, 7700, 7800, 7900, 7600] X X1 ∧ MInv X1 ∧ (0 ≤ z ∧ z ≤ 149) ∧ X1 76 0 4 ≤ X 76 0 4 + 1 ∧ z = (if nmAt (fun q => mRid X (sg 3 q) (sg 4 q)) row (sg 2 0).toNat = -1 then sg 2 0 else nmAt (fun q => mRid X (sg 3 q) (sg 4 q)) row (sg 2 0).toNat) ∧ rmR X1 (if nmAt (fun q => mRid X (sg 3 q) (sg 4 q)) row (sg 2 0).toNat = -1 then u2 (u2 (u2 sg 3 (sg 2 0) yy) 4 (sg 2 0) kk) 2 0 (sg 2 0 + 1) else sg) ∧ S5 X X1) := by
  refine K_of (cc := cX9_rowOf) (maxL := 5) (ret := (some .int)) (by decide) rfl (Nat.le_of_ble_eq_true rfl) ?_
  intro p e s m below meth c ls hx hb hr hml hown hts hlocks hl hK hw hS
  have hown : s.vm.findClass RX9 = some m.cls := hown
  obtain ⟨av9, hav9⟩ : ∃ a9 : Array Value, a9 = ([.ref (ad 40 0), .int (jI 4), .int (jI row)] : List Value).toArray := ⟨_, rfl⟩
  rw [← hav9] at hts ⊢
  obtain ⟨Q9, hQ9⟩ : ∃ q9Q : State → Prop, q9Q = MQ below (QI D tc base (fun z u => ∃ X1 : Nat → Int → Int → Int, u = (ad, cnt, X1, Y, ln) ∧ Rng X1 ∧ Frm [8100, 7700, 7800, 7900, 7600] X X1 ∧ MInv X1 ∧ (0 ≤ z ∧ z ≤ 149) ∧ X1 76 0 4 ≤ X 76 0 4 + 1 ∧ z = (if nmAt (fun q => mRid X (sg 3 q) (sg 4 q)) row (sg 2 0).toNat = -1 then sg 2 0 else nmAt (fun q => mRid X (sg 3 q) (sg 4 q)) row (sg 2 0).toNat) ∧ rmR X1 (if nmAt (fun q => mRid X (sg 3 q) (sg 4 q)) row (sg 2 0).toNat = -1 then u2 (u2 (u2 sg 3 (sg 2 0) yy) 4 (sg 2 0) kk) 2 0 (sg 2 0 + 1) else sg) ∧ S5 X X1)) av9 s 0 0 (frA base) := ⟨_, rfl⟩
  rw [← hQ9]
  have hi9 : ∀ w ∈ wsX90, w ∈ wsX9_rowOf := fun w h => List.mem_cons_of_mem _ (List.mem_append_right _ h)
  have hf9 : fctx s m _ RX9 wsX9_rowOf D tc RX9 TX9 51 9 := ⟨hts, hi9, hown, hK.1, rfl⟩
  have lk51 := hts (.fieldLink RX9 51 (TX9 16).1 (TX9 16).2.1 (TX9 16).2.2.1) (gj_X9_rowOf_0 _ (gp_1 (gp_1 (gp_1 gp_h))))
  have lk54 := hts (.fieldLink RX9 54 (TX9 17).1 (TX9 17).2.1 (TX9 17).2.2.1) (gj_X9_rowOf_0 _ (gp_4 (gp_1 gp_h)))
  have lk57 := hts (.fieldLink RX9 57 (TX9 18).1 (TX9 18).2.1 (TX9 18).2.2.1) (gj_X9_rowOf_0 _ (gp_4 (gp_1 (gp_1 (gp_1 gp_h)))))
  have lk99 := hts (.fieldLink RX9 99 (TX9 35).1 (TX9 35).2.1 (TX9 35).2.2.1) (gj_X9_rowOf_0 _ (gp_h))
  have lk102 := hts (.fieldLink RX9 102 (TX9 36).1 (TX9 36).2.1 (TX9 36).2.2.1) (gj_X9_rowOf_0 _ (gp_1 (gp_1 gp_h)))
  have lk105 := hts (.fieldLink RX9 105 (TX9 37).1 (TX9 37).2.1 (TX9 37).2.2.1) (gj_X9_rowOf_0 _ (gp_4 gp_h))
  have lk108 := hts (.fieldLink RX9 108 (TX9 38).1 (TX9 38).2.1 (TX9 38).2.2.1) (gj_X9_rowOf_0 _ (gp_4 (gp_1 (gp_1 gp_h))))
  have lk114 := hts (.fieldLink RX9 114 (TX9 40).1 (TX9 40).2.1 (TX9 40).2.2.1) (gj_X9_rowOf_0 _ (gp_1 gp_h))
  have hc40 : cnt 40 = 1 := hFx.at 40 1 (by decide)
  have hc57 : cnt 57 = 1 := hFx.at 57 1 (by decide)
  have hc58 : cnt 58 = 1 := hFx.at 58 1 (by decide)
  have hc59 : cnt 59 = 1 := hFx.at 59 1 (by decide)
  have hc76 : cnt 76 = 1 := hFx.at 76 1 (by decide)
  have hc77 : cnt 77 = 1 := hFx.at 77 1 (by decide)
  have hc78 : cnt 78 = 1 := hFx.at 78 1 (by decide)
  have hc79 : cnt 79 = 1 := hFx.at 79 1 (by decide)
  have hc81 : cnt 81 = 1 := hFx.at 81 1 (by decide)
  have hl : lv_has ls 5 [(0, .ref (ad 40 0)), (1, .int (jI 4)), (2, .int (jI row))] := hl
  have fstypes : 0 ≤ X 40 0 2 ∧ X 40 0 2 ≤ 8 := hR 40 0 2
  have fsthings : 0 ≤ X 40 0 13 ∧ X 40 0 13 ≤ 30 := hR 40 0 13
  have fsmarks : 0 ≤ X 40 0 20 ∧ X 40 0 20 ≤ 4 := hR 40 0 20
  have fsnotes : 0 ≤ X 40 0 22 ∧ X 40 0 22 ≤ 80 := hR 40 0 22
  have hsg1 : X 76 0 4 = sg 2 0 := hsg.1
  have hsg0 : 0 ≤ X 76 0 4 ∧ X 76 0 4 ≤ 150 := hR 76 0 4
  refine lv_iconst (v := jI 0) hx hb dX9_rowOf_0 rfl ?_
  refine lv_istore_n (lv' := [(3, .int (jI 0)), (0, .ref (ad 40 0)), (1, .int (jI 4)), (2, .int (jI row))]) hx hb dX9_rowOf_1 rfl hl (by decide) rfl (fun ls hl => ?_)
  have lp2 : ∀ (nn : Nat) (r : Int) (H : Heap) (locs : List Loc) (ls : Array Slot), (150 - r) < (nn : Int) → (0 ≤ r ∧ r ≤ 150) → (∀ j, 0 ≤ j → j < r → X 81 0 j ≠ row) → wd D tc base (ad, cnt, X, Y, ln) H → va_S (frA base) s.heap H locs → lv_has ls 5 [(0, .ref (ad 40 0)), (1, .int (jI 4)), (2, .int (jI row)), (3, .int (jI r))] → W p l e ({ frames := 0, cells := 0, slots := 0, locals := 0 } : Room) s m av9 below meth c H locs 0 0 Q9 (F0 m 2 ls []) := by
    intro nn
    induction nn with
    | zero => intro r H locs ls hm hr0 hne hw hS hl; exfalso; omega
    | succ nn ih2 =>
      intro r H locs ls hm hr0 hne hw hS hl
      refine lv_iload_n hx hb dX9_rowOf_2 rfl (lv_at hl 3 rfl) ?_
      refine lv_aload_n hx hb dX9_rowOf_3 rfl (lv_at hl 0 rfl) ?_
      refine x_geto hx hb hf9 hw (by first | exact Int.le_refl 0 | omega) (by first | exact zlt hc40 | omega) sl_40_35 lk99 dX9_rowOf_4 ?_
      refine lv_iload_n hx hb dX9_rowOf_7 rfl (lv_at hl 1 rfl) ?_
      refine x_iald hx hb hK.1 hw (by first | exact Int.le_refl 0 | omega) (by first | exact zlt hc76 | omega) ar_76 (len_E ar_76 (by first | exact Nat.ne_of_beq_eq_false rfl | decide)) (by omega) (by omega) (by omega) dX9_rowOf_8 ?_
      have f1 : 0 ≤ X 76 0 4 ∧ X 76 0 4 ≤ 150 := hR 76 0 4
      refine x_icmp_ge (tgt := 30) hx hb (by omega) (by omega) dX9_rowOf_9 (by decide) (fun c2 => ?_) (fun c2 => ?_)
      · refine lv_aload_n hx hb dX9_rowOf_30 rfl (lv_at hl 0 rfl) ?_
        refine x_geto hx hb hf9 hw (by first | exact Int.le_refl 0 | omega) (by first | exact zlt hc40 | omega) sl_40_35 lk99 dX9_rowOf_31 ?_
        refine lv_iload_n hx hb dX9_rowOf_34 rfl (lv_at hl 1 rfl) ?_
        refine x_iald hx hb hK.1 hw (by first | exact Int.le_refl 0 | omega) (by first | exact zlt hc76 | omega) ar_76 (len_E ar_76 (by first | exact Nat.ne_of_beq_eq_false rfl | decide)) (by omega) (by omega) (by omega) dX9_rowOf_35 ?_
        have f3 : 0 ≤ X 76 0 4 ∧ X 76 0 4 ≤ 150 := hR 76 0 4
        refine lv_istore_n (lv' := [(3, .int (jI (X 76 0 4))), (0, .ref (ad 40 0)), (1, .int (jI 4)), (2, .int (jI row))]) hx hb dX9_rowOf_36 rfl hl (by decide) rfl (fun ls hl => ?_)
        refine lv_aload_n hx hb dX9_rowOf_37 rfl (lv_at hl 1 rfl) ?_
        refine x_geto hx hb hf9 hw (by first | exact Int.le_refl 0 | omega) (by first | exact zlt hc40 | omega) sl_40_40 lk114 dX9_rowOf_38 ?_
        refine lv_iload_n hx hb dX9_rowOf_41 rfl (lv_at hl 0 rfl) ?_
        refine lv_iload_n hx hb dX9_rowOf_42 rfl (lv_at hl 3 rfl) ?_
        refine x_iast hx hb hK.1 hw hS (by first | exact Int.le_refl 0 | omega) (by first | exact zlt hc81 | omega) ar_81 (len_E ar_81 (by first | exact Nat.ne_of_beq_eq_false rfl | decide)) (by omega) (by omega) (by omega) dX9_rowOf_43 (fun H locs hw hS => ?_)
        obtain ⟨X4, hX4⟩ : ∃ Xq, Xq = u3 X 81 0 (X 76 0 4) row := ⟨_, rfl⟩
        rw [← hX4] at hw
        have hRX4 : Rng X4 := by rw [hX4]; exact rng_set hR (show 0 ≤ row ∧ row ≤ 399 by omega)
        have hVX4 : X4 81 0 (X 76 0 4) = row := by rw [hX4]; exact u3_s _ _ _ _ _
        have hFX4 : Frm [8100, 7700, 7800, 7900, 7600] X X4 := by rw [hX4]; exact Frm.set Frm.rf (show 8100 ∈ [8100, 7700, 7800, 7900, 7600] by first | exact nlm_in rfl | decide)
        refine lv_aload_n hx hb dX9_rowOf_44 rfl (lv_at hl 1 rfl) ?_
        refine x_geto hx hb hf9 hw (by first | exact Int.le_refl 0 | omega) (by first | exact zlt hc40 | omega) sl_40_36 lk102 dX9_rowOf_45 ?_
        refine lv_sipush (v := jI 150) hx hb dX9_rowOf_48 (by decide) ?_
        refine lv_iload_n hx hb dX9_rowOf_51 rfl (lv_at hl 2 rfl) ?_
        refine x_imul hx hb dX9_rowOf_52 ?_
        refine lv_iload_n hx hb dX9_rowOf_53 rfl (lv_at hl 0 rfl) ?_
        refine x_iadd hx hb dX9_rowOf_54 ?_
        refine lv_aload_n hx hb dX9_rowOf_55 rfl (lv_at hl 1 rfl) ?_
        refine x_geto hx hb hf9 hw (by first | exact Int.le_refl 0 | omega) (by first | exact zlt hc40 | omega) sl_40_16 lk51 dX9_rowOf_56 ?_
        refine lv_iload_n hx hb dX9_rowOf_59 rfl (lv_at hl 3 rfl) ?_
        refine x_iald hx hb hK.1 hw (by first | exact Int.le_refl 0 | omega) (by first | exact zlt hc57 | omega) ar_57 (len_E ar_57 (by first | exact Nat.ne_of_beq_eq_false rfl | decide)) (by omega) (by omega) (by omega) dX9_rowOf_60 ?_
        have e5 : ∀ p9 q9 : Int, X4 57 p9 q9 = X 57 p9 q9 := fun p9 q9 => by rw [hX4, u3_k _ _ _ _ (by first | exact Nat.ne_of_beq_eq_false rfl | decide)]
        rw [e5 0 row]
        have f6 : 0 ≤ X 57 0 row ∧ X 57 0 row ≤ 5 := hR 57 0 row
        refine x_iast hx hb hK.1 hw hS (by first | exact Int.le_refl 0 | omega) (by first | exact zlt hc77 | omega) ar_77 (len_E ar_77 (by first | exact Nat.ne_of_beq_eq_false rfl | decide)) (by omega) (by omega) (by omega) dX9_rowOf_61 (fun H locs hw hS => ?_)
        obtain ⟨X7, hX7⟩ : ∃ Xq, Xq = u3 X4 77 0 ((150 * 4) + (X 76 0 4)) (X 57 0 row) := ⟨_, rfl⟩
        rw [← hX7] at hw
        have hRX7 : Rng X7 := by rw [hX7]; exact rng_set hRX4 (show 0 ≤ (X 57 0 row) ∧ (X 57 0 row) ≤ 5 by omega)
        have hVX7 : X7 77 0 ((150 * 4) + (X 76 0 4)) = (X 57 0 row) := by rw [hX7]; exact u3_s _ _ _ _ _
        have hFX7 : Frm [8100, 7700, 7800, 7900, 7600] X X7 := by rw [hX7]; exact Frm.set hFX4 (show 7700 ∈ [8100, 7700, 7800, 7900, 7600] by first | exact nlm_in rfl | decide)
        refine lv_aload_n hx hb dX9_rowOf_62 rfl (lv_at hl 1 rfl) ?_
        refine x_geto hx hb hf9 hw (by first | exact Int.le_refl 0 | omega) (by first | exact zlt hc40 | omega) sl_40_37 lk105 dX9_rowOf_63 ?_
        refine lv_sipush (v := jI 150) hx hb dX9_rowOf_66 (by decide) ?_
        refine lv_iload_n hx hb dX9_rowOf_69 rfl (lv_at hl 2 rfl) ?_
        refine x_imul hx hb dX9_rowOf_70 ?_
        refine lv_iload_n hx hb dX9_rowOf_71 rfl (lv_at hl 0 rfl) ?_
        refine x_iadd hx hb dX9_rowOf_72 ?_
        refine lv_aload_n hx hb dX9_rowOf_73 rfl (lv_at hl 1 rfl) ?_
        refine x_geto hx hb hf9 hw (by first | exact Int.le_refl 0 | omega) (by first | exact zlt hc40 | omega) sl_40_17 lk54 dX9_rowOf_74 ?_
        refine lv_iload_n hx hb dX9_rowOf_77 rfl (lv_at hl 3 rfl) ?_
        refine x_iald hx hb hK.1 hw (by first | exact Int.le_refl 0 | omega) (by first | exact zlt hc58 | omega) ar_58 (len_E ar_58 (by first | exact Nat.ne_of_beq_eq_false rfl | decide)) (by omega) (by omega) (by omega) dX9_rowOf_78 ?_
        have e8 : ∀ p9 q9 : Int, X7 58 p9 q9 = X 58 p9 q9 := fun p9 q9 => by rw [hX7, u3_k _ _ _ _ (by first | exact Nat.ne_of_beq_eq_false rfl | decide), hX4, u3_k _ _ _ _ (by first | exact Nat.ne_of_beq_eq_false rfl | decide)]
        rw [e8 0 row]
        have f9 : 0 ≤ X 58 0 row ∧ X 58 0 row ≤ 12 := hR 58 0 row
        refine x_iast hx hb hK.1 hw hS (by first | exact Int.le_refl 0 | omega) (by first | exact zlt hc78 | omega) ar_78 (len_E ar_78 (by first | exact Nat.ne_of_beq_eq_false rfl | decide)) (by omega) (by omega) (by omega) dX9_rowOf_79 (fun H locs hw hS => ?_)
        obtain ⟨X10, hX10⟩ : ∃ Xq, Xq = u3 X7 78 0 ((150 * 4) + (X 76 0 4)) (X 58 0 row) := ⟨_, rfl⟩
        rw [← hX10] at hw
        have hRX10 : Rng X10 := by rw [hX10]; exact rng_set hRX7 (show 0 ≤ (X 58 0 row) ∧ (X 58 0 row) ≤ 12 by omega)
        have hVX10 : X10 78 0 ((150 * 4) + (X 76 0 4)) = (X 58 0 row) := by rw [hX10]; exact u3_s _ _ _ _ _
        have hFX10 : Frm [8100, 7700, 7800, 7900, 7600] X X10 := by rw [hX10]; exact Frm.set hFX7 (show 7800 ∈ [8100, 7700, 7800, 7900, 7600] by first | exact nlm_in rfl | decide)
        refine lv_iconst (v := jI 0) hx hb dX9_rowOf_80 rfl ?_
        refine lv_istore (lv' := [(4, .int (jI 0)), (3, .int (jI (X 76 0 4))), (0, .ref (ad 40 0)), (1, .int (jI 4)), (2, .int (jI row))]) hx hb dX9_rowOf_81 hl (by decide) rfl (fun ls hl => ?_)
        have lp83 : ∀ (nn : Nat) (k : Int) (Xa : Nat → Int → Int → Int) (H : Heap) (locs : List Loc) (ls : Array Slot), (12 - k) < (nn : Int) → (Rng Xa) → (Frm [7900] X10 Xa) → (0 ≤ k ∧ k ≤ 12) → (∀ j, 0 ≤ j → j < k → Xa 79 0 (12 * (600 + X 76 0 4) + j) = X 59 0 (12 * row + j)) → (∀ j, j < 12 * (600 + X 76 0 4) → Xa 79 0 j = X 79 0 j) → (S5 X10 Xa) → wd D tc base (ad, cnt, Xa, Y, ln) H → va_S (frA base) s.heap H locs → lv_has ls 5 [(0, .ref (ad 40 0)), (1, .int (jI 4)), (2, .int (jI row)), (3, .int (jI (X 76 0 4))), (4, .int (jI k))] → W p l e ({ frames := 0, cells := 0, slots := 0, locals := 0 } : Room) s m av9 below meth c H locs 0 0 Q9 (F0 m 83 ls []) := by
          intro nn
          induction nn with
          | zero => intro k Xa H locs ls hm hRXa hGXa hk hcp hcl9 h5Xa hw hS hl; exfalso; omega
          | succ nn ih83 =>
            intro k Xa H locs ls hm hRXa hGXa hk hcp hcl9 h5Xa hw hS hl
            have hFXa : Frm [8100, 7700, 7800, 7900, 7600] X Xa := Frm.tr hFX10 (Frm.mono hGXa (by first | exact nls_of rfl | decide))
            refine lv_iload hx hb dX9_rowOf_83 (lv_at hl 4 rfl) ?_
            refine lv_bipush (v := jI 12) hx hb dX9_rowOf_85 (by decide) ?_
            refine x_icmp_ge (tgt := 126) hx hb (by omega) (by omega) dX9_rowOf_87 (by decide) (fun c11 => ?_) (fun c11 => ?_)
            · refine lv_aload_n hx hb dX9_rowOf_126 rfl (lv_at hl 0 rfl) ?_
              refine x_geto hx hb hf9 hw (by first | exact Int.le_refl 0 | omega) (by first | exact zlt hc40 | omega) sl_40_35 lk99 dX9_rowOf_127 ?_
              refine lv_iload_n hx hb dX9_rowOf_130 rfl (lv_at hl 1 rfl) ?_
              refine lv_dup2_11 hx hb dX9_rowOf_131 rfl rfl ?_
              refine x_iald hx hb hK.1 hw (by first | exact Int.le_refl 0 | omega) (by first | exact zlt hc76 | omega) ar_76 (len_E ar_76 (by first | exact Nat.ne_of_beq_eq_false rfl | decide)) (by omega) (by omega) (by omega) dX9_rowOf_132 ?_
              have e12 : ∀ p9 q9 : Int, Xa 76 p9 q9 = X 76 p9 q9 := fun p9 q9 => by rw [hGXa 76 p9 q9 (show 7600 ∉ [7900] by first | exact nlm_ni rfl | decide), hX10, u3_k _ _ _ _ (by first | exact Nat.ne_of_beq_eq_false rfl | decide), hX7, u3_k _ _ _ _ (by first | exact Nat.ne_of_beq_eq_false rfl | decide), hX4, u3_k _ _ _ _ (by first | exact Nat.ne_of_beq_eq_false rfl | decide)]
              rw [e12 0 4]
              have f13 : 0 ≤ X 76 0 4 ∧ X 76 0 4 ≤ 150 := hR 76 0 4
              refine lv_iconst (v := jI 1) hx hb dX9_rowOf_133 rfl ?_
              refine x_iadd hx hb dX9_rowOf_134 ?_
              refine x_iast hx hb hK.1 hw hS (by first | exact Int.le_refl 0 | omega) (by first | exact zlt hc76 | omega) ar_76 (len_E ar_76 (by first | exact Nat.ne_of_beq_eq_false rfl | decide)) (by omega) (by omega) (by omega) dX9_rowOf_135 (fun H locs hw hS => ?_)
              obtain ⟨X14, hX14⟩ : ∃ Xq, Xq = u3 Xa 76 0 4 ((X 76 0 4) + 1) := ⟨_, rfl⟩
              rw [← hX14] at hw
              have hRX14 : Rng X14 := by rw [hX14]; exact rng_set hRXa (show 0 ≤ ((X 76 0 4) + 1) ∧ ((X 76 0 4) + 1) ≤ 150 by omega)
              have hVX14 : X14 76 0 4 = ((X 76 0 4) + 1) := by rw [hX14]; exact u3_s _ _ _ _ _
              have hFX14 : Frm [8100, 7700, 7800, 7900, 7600] X X14 := by rw [hX14]; exact Frm.set hFXa (show 7600 ∈ [8100, 7700, 7800, 7900, 7600] by first | exact nlm_in rfl | decide)
              refine lv_iload_n hx hb dX9_rowOf_136 rfl (lv_at hl 3 rfl) ?_
              rw [hQ9]
              refine ret_i (mc := 0) (ms := 0) hx hb hr hlocks hw hS (by first | exact Nat.le_of_ble_eq_true rfl | omega) (by first | exact Nat.le_of_ble_eq_true rfl | omega) dX9_rowOf_137 ?_
              have q16 : Frm [7600, 7700, 7800, 7900, 8100] X X4 := by rw [hX4]; exact Frm.set Frm.rf (show 8100 ∈ [7600, 7700, 7800, 7900, 8100] by first | exact nlm_in rfl | decide)
              have q17 : Frm [7600, 7700, 7800, 7900, 8100] X X7 := by rw [hX7]; exact Frm.set q16 (show 7700 ∈ [7600, 7700, 7800, 7900, 8100] by first | exact nlm_in rfl | decide)
              have q18 : Frm [7600, 7700, 7800, 7900, 8100] X X10 := by rw [hX10]; exact Frm.set q17 (show 7800 ∈ [7600, 7700, 7800, 7900, 8100] by first | exact nlm_in rfl | decide)
              have q19 : Frm [7600, 7700, 7800, 7900, 8100] X Xa := Frm.tr q18 (Frm.mono hGXa (by first | exact nls_of rfl | decide))
              have q20 : Frm [7600, 7700, 7800, 7900, 8100] X X14 := by rw [hX14]; exact Frm.set q19 (show 7600 ∈ [7600, 7700, 7800, 7900, 8100] by first | exact nlm_in rfl | decide)
              have hMq15 : MInv X14 := minv_frm hMI q20 (by decide)
              have hm21 : nmAt (fun q => mRid X (sg 3 q) (sg 4 q)) row (sg 2 0).toNat = -1 := nmAt_no (f := fun q => mRid X (sg 3 q) (sg 4 q)) (fun j a b => by show mRid X (sg 3 j) (sg 4 j) ≠ row; rw [← (hsg.2 j a (by omega)).1]; exact hne j a (by omega)) (by omega)
              have q22 : Frm [7600, 7700, 7800, 7900, 8100] X X4 := by rw [hX4]; exact Frm.set Frm.rf (show 8100 ∈ [7600, 7700, 7800, 7900, 8100] by first | exact nlm_in rfl | decide)
              have q23 : Frm [7600, 7700, 7800, 7900, 8100] X X7 := by rw [hX7]; exact Frm.set q22 (show 7700 ∈ [7600, 7700, 7800, 7900, 8100] by first | exact nlm_in rfl | decide)
              have q24 : Frm [7600, 7700, 7800, 7900, 8100] X X10 := by rw [hX10]; exact Frm.set q23 (show 7800 ∈ [7600, 7700, 7800, 7900, 8100] by first | exact nlm_in rfl | decide)
              have q25 : Frm [7600, 7700, 7800, 7900, 8100] X Xa := Frm.tr q24 (Frm.mono hGXa (by first | exact nls_of rfl | decide))
              have q26 : Frm [7600, 7700, 7800, 7900, 8100] X X14 := by rw [hX14]; exact Frm.set q25 (show 7600 ∈ [7600, 7700, 7800, 7900, 8100] by first | exact nlm_in rfl | decide)
              have q27 : S5 X X4 := by rw [hX4]; exact S5.set S5.rf ⟨by first | exact fun h => absurd h (Nat.ne_of_beq_eq_false rfl) | omega, by first | exact fun h => absurd h (Nat.ne_of_beq_eq_false rfl) | omega, by first | exact fun h => absurd h (Nat.ne_of_beq_eq_false rfl) | omega, by first | exact fun h => absurd h (Nat.ne_of_beq_eq_false rfl) | omega, by first | exact fun h => absurd h (Nat.ne_of_beq_eq_false rfl) | omega⟩
              have q28 : S5 X X7 := by rw [hX7]; exact S5.set q27 ⟨by first | exact fun h => absurd h (Nat.ne_of_beq_eq_false rfl) | omega, by first | exact fun h => absurd h (Nat.ne_of_beq_eq_false rfl) | omega, by first | exact fun h => absurd h (Nat.ne_of_beq_eq_false rfl) | omega, by first | exact fun h => absurd h (Nat.ne_of_beq_eq_false rfl) | omega, by first | exact fun h => absurd h (Nat.ne_of_beq_eq_false rfl) | omega⟩
              have q29 : S5 X X10 := by rw [hX10]; exact S5.set q28 ⟨by first | exact fun h => absurd h (Nat.ne_of_beq_eq_false rfl) | omega, by first | exact fun h => absurd h (Nat.ne_of_beq_eq_false rfl) | omega, by first | exact fun h => absurd h (Nat.ne_of_beq_eq_false rfl) | omega, by first | exact fun h => absurd h (Nat.ne_of_beq_eq_false rfl) | omega, by first | exact fun h => absurd h (Nat.ne_of_beq_eq_false rfl) | omega⟩
              have q30 : S5 X Xa := S5.tr q29 h5Xa
              have q31 : S5 X X14 := by rw [hX14]; exact S5.set q30 ⟨by first | exact fun h => absurd h (Nat.ne_of_beq_eq_false rfl) | omega, by first | exact fun h => absurd h (Nat.ne_of_beq_eq_false rfl) | omega, by first | exact fun h => absurd h (Nat.ne_of_beq_eq_false rfl) | omega, by first | exact fun h => absurd h (Nat.ne_of_beq_eq_false rfl) | omega, by first | exact fun h => absurd h (Nat.ne_of_beq_eq_false rfl) | omega⟩
              refine ⟨X14, rfl, hRX14, hFX14, hMq15, ?g9p279, ?g9p280, ?g9p281, ?g9p282, q31⟩
              case g9p279 => omega
              case g9p280 => rw [hX14, u3_s]; omega
              case g9p281 => rw [hm21, if_pos rfl]; omega
              case g9p282 => rw [hm21, if_pos rfl]; exact rmR.push hsg (by omega) (by rw [hVX14]) (by rw [← hrw]; exact (by rw [hX14, u3_k _ _ _ _ (by first | exact Nat.ne_of_beq_eq_false rfl | decide), hGXa 81 0 (X 76 0 4) (show 8100 ∉ [7900] by first | exact nlm_ni rfl | decide), hX10, u3_k _ _ _ _ (by first | exact Nat.ne_of_beq_eq_false rfl | decide), hX7, u3_k _ _ _ _ (by first | exact Nat.ne_of_beq_eq_false rfl | decide)]; exact hVX4)) (fun j hj => (by rw [hX14, u3_k _ _ _ _ (by first | exact Nat.ne_of_beq_eq_false rfl | decide), hGXa 81 0 j (show 8100 ∉ [7900] by first | exact nlm_ni rfl | decide), hX10, u3_k _ _ _ _ (by first | exact Nat.ne_of_beq_eq_false rfl | decide), hX7, u3_k _ _ _ _ (by first | exact Nat.ne_of_beq_eq_false rfl | decide), hX4, u3_j _ _ _ _ hj])) ⟨(by rw [← hrw]; exact (by rw [hX14, u3_k _ _ _ _ (by first | exact Nat.ne_of_beq_eq_false rfl | decide), hGXa 77 0 (600 + X 76 0 4) (show 7700 ∉ [7900] by first | exact nlm_ni rfl | decide), hX10, u3_k _ _ _ _ (by first | exact Nat.ne_of_beq_eq_false rfl | decide)]; exact hVX7)), (by rw [← hrw]; exact (by rw [hX14, u3_k _ _ _ _ (by first | exact Nat.ne_of_beq_eq_false rfl | decide), hGXa 78 0 (600 + X 76 0 4) (show 7800 ∉ [7900] by first | exact nlm_ni rfl | decide)]; exact hVX10))⟩ (fun j hj => ⟨(by rw [hX14, u3_k _ _ _ _ (by first | exact Nat.ne_of_beq_eq_false rfl | decide), hGXa 77 0 j (show 7700 ∉ [7900] by first | exact nlm_ni rfl | decide), hX10, u3_k _ _ _ _ (by first | exact Nat.ne_of_beq_eq_false rfl | decide), hX7, u3_j _ _ _ _ (by omega), hX4, u3_k _ _ _ _ (by first | exact Nat.ne_of_beq_eq_false rfl | decide)]), (by rw [hX14, u3_k _ _ _ _ (by first | exact Nat.ne_of_beq_eq_false rfl | decide), hGXa 78 0 j (show 7800 ∉ [7900] by first | exact nlm_ni rfl | decide), hX10, u3_j _ _ _ _ (by omega), hX7, u3_k _ _ _ _ (by first | exact Nat.ne_of_beq_eq_false rfl | decide), hX4, u3_k _ _ _ _ (by first | exact Nat.ne_of_beq_eq_false rfl | decide)])⟩) (fun j a b => by rw [← hrw, hX14, u3_k _ _ _ _ (by first | exact Nat.ne_of_beq_eq_false rfl | decide)]; exact hcp j a (by omega)) (fun j hj => by rw [hX14, u3_k _ _ _ _ (by first | exact Nat.ne_of_beq_eq_false rfl | decide)]; exact hcl9 j hj) (fun q9 hq9 => by simp only [List.mem_cons, List.not_mem_nil, or_false] at hq9; rcases hq9 with rfl | rfl | rfl | rfl <;> exact Frm.arr q26 _ (by decide +kernel) (by decide))
            · refine lv_aload_n hx hb dX9_rowOf_90 rfl (lv_at hl 0 rfl) ?_
              refine x_geto hx hb hf9 hw (by first | exact Int.le_refl 0 | omega) (by first | exact zlt hc40 | omega) sl_40_38 lk108 dX9_rowOf_91 ?_
              refine lv_bipush (v := jI 12) hx hb dX9_rowOf_94 (by decide) ?_
              refine lv_sipush (v := jI 150) hx hb dX9_rowOf_96 (by decide) ?_
              refine lv_iload_n hx hb dX9_rowOf_99 rfl (lv_at hl 1 rfl) ?_
              refine x_imul hx hb dX9_rowOf_100 ?_
              refine lv_iload_n hx hb dX9_rowOf_101 rfl (lv_at hl 3 rfl) ?_
              refine x_iadd hx hb dX9_rowOf_102 ?_
              refine x_imul hx hb dX9_rowOf_103 ?_
              refine lv_iload hx hb dX9_rowOf_104 (lv_at hl 4 rfl) ?_
              refine x_iadd hx hb dX9_rowOf_106 ?_
              refine lv_aload_n hx hb dX9_rowOf_107 rfl (lv_at hl 0 rfl) ?_
              refine x_geto hx hb hf9 hw (by first | exact Int.le_refl 0 | omega) (by first | exact zlt hc40 | omega) sl_40_18 lk57 dX9_rowOf_108 ?_
              refine lv_bipush (v := jI 12) hx hb dX9_rowOf_111 (by decide) ?_
              refine lv_iload_n hx hb dX9_rowOf_113 rfl (lv_at hl 2 rfl) ?_
              refine x_imul hx hb dX9_rowOf_114 ?_
              refine lv_iload hx hb dX9_rowOf_115 (lv_at hl 4 rfl) ?_
              refine x_iadd hx hb dX9_rowOf_117 ?_
              refine x_lald hx hb hK.1 hw (by first | exact Int.le_refl 0 | omega) (by first | exact zlt hc59 | omega) ar_59 (len_E ar_59 (by first | exact Nat.ne_of_beq_eq_false rfl | decide)) (by omega) (by omega) (by omega) dX9_rowOf_118 ?_
              have e32 : ∀ p9 q9 : Int, Xa 59 p9 q9 = X 59 p9 q9 := fun p9 q9 => by rw [hGXa 59 p9 q9 (show 5900 ∉ [7900] by first | exact nlm_ni rfl | decide), hX10, u3_k _ _ _ _ (by first | exact Nat.ne_of_beq_eq_false rfl | decide), hX7, u3_k _ _ _ _ (by first | exact Nat.ne_of_beq_eq_false rfl | decide), hX4, u3_k _ _ _ _ (by first | exact Nat.ne_of_beq_eq_false rfl | decide)]
              rw [e32 0 ((12 * row) + k)]
              have f33 : (-9223372036854775808) ≤ X 59 0 ((12 * row) + k) ∧ X 59 0 ((12 * row) + k) ≤ 9223372036854775807 := hR 59 0 ((12 * row) + k)
              refine x_last hx hb hK.1 hw hS (by first | exact Int.le_refl 0 | omega) (by first | exact zlt hc79 | omega) ar_79 (len_E ar_79 (by first | exact Nat.ne_of_beq_eq_false rfl | decide)) (by omega) (by omega) (by omega) dX9_rowOf_119 (fun H locs hw hS => ?_)
              obtain ⟨X34, hX34⟩ : ∃ Xq, Xq = u3 Xa 79 0 ((12 * ((150 * 4) + (X 76 0 4))) + k) (X 59 0 ((12 * row) + k)) := ⟨_, rfl⟩
              rw [← hX34] at hw
              have hRX34 : Rng X34 := by rw [hX34]; exact rng_set hRXa (show (-9223372036854775808) ≤ (X 59 0 ((12 * row) + k)) ∧ (X 59 0 ((12 * row) + k)) ≤ 9223372036854775807 by omega)
              have hVX34 : X34 79 0 ((12 * ((150 * 4) + (X 76 0 4))) + k) = (X 59 0 ((12 * row) + k)) := by rw [hX34]; exact u3_s _ _ _ _ _
              have hFX34 : Frm [8100, 7700, 7800, 7900, 7600] X X34 := by rw [hX34]; exact Frm.set hFXa (show 7900 ∈ [8100, 7700, 7800, 7900, 7600] by first | exact nlm_in rfl | decide)
              refine lv_iinc (v := jI (k + 1)) (lv' := [(4, .int (jI (k + 1))), (0, .ref (ad 40 0)), (1, .int (jI 4)), (2, .int (jI row)), (3, .int (jI (X 76 0 4)))]) hx hb dX9_rowOf_120 hl (k := 4) rfl (jI_add _ _) (by decide) rfl (fun ls hl => ?_)
              refine lv_goto (tgt := 83) hx hb dX9_rowOf_123 (by decide) ?_
              have q35 : Frm [7900] X10 Xa := Frm.tr Frm.rf (Frm.mono hGXa (by first | exact nls_of rfl | decide))
              have q36 : Frm [7900] X10 X34 := by rw [hX34]; exact Frm.set q35 (show 7900 ∈ [7900] by first | exact nlm_in rfl | decide)
              have q37 : S5 X10 Xa := S5.tr S5.rf h5Xa
              have q38 : S5 X10 X34 := by rw [hX34]; exact S5.set q37 ⟨by first | exact fun h => absurd h (Nat.ne_of_beq_eq_false rfl) | omega, by first | exact fun h => absurd h (Nat.ne_of_beq_eq_false rfl) | omega, by first | exact fun h => absurd h (Nat.ne_of_beq_eq_false rfl) | omega, by first | exact fun h => absurd h (Nat.ne_of_beq_eq_false rfl) | omega, by first | exact fun h => absurd h (Nat.ne_of_beq_eq_false rfl) | omega⟩
              exact ih83 (k + 1) X34 _ _ _ (by omega) hRX34 q36 (by omega) (fun j a b => if hj : j = k then (by rw [hj]; exact hVX34) else (by rw [hX34, u3_j _ _ _ _ (by omega)]; exact hcp j a (by omega))) (fun j hj => (by rw [hX34, u3_j _ _ _ _ (by omega)]; exact hcl9 j hj)) (q38) hw hS (lv_sub hl [1, 2, 3, 4, 0] rfl)
        exact lp83 (12 - 0 : Int).toNat.succ 0 X10 _ _ _ (by omega) hRX10 Frm.rf (by omega) (fun j a b => by omega) (fun j hj => (by rw [hX10, u3_k _ _ _ _ (by first | exact Nat.ne_of_beq_eq_false rfl | decide), hX7, u3_k _ _ _ _ (by first | exact Nat.ne_of_beq_eq_false rfl | decide), hX4, u3_k _ _ _ _ (by first | exact Nat.ne_of_beq_eq_false rfl | decide)])) (S5.rf) hw hS (lv_sub hl [2, 3, 4, 1, 0] rfl)
      · refine lv_aload_n hx hb dX9_rowOf_12 rfl (lv_at hl 0 rfl) ?_
        refine x_geto hx hb hf9 hw (by first | exact Int.le_refl 0 | omega) (by first | exact zlt hc40 | omega) sl_40_40 lk114 dX9_rowOf_13 ?_
        refine lv_iload_n hx hb dX9_rowOf_16 rfl (lv_at hl 3 rfl) ?_
        refine x_iald hx hb hK.1 hw (by first | exact Int.le_refl 0 | omega) (by first | exact zlt hc81 | omega) ar_81 (len_E ar_81 (by first | exact Nat.ne_of_beq_eq_false rfl | decide)) (by omega) (by omega) (by omega) dX9_rowOf_17 ?_
        have f39 : 0 ≤ X 81 0 r ∧ X 81 0 r ≤ 399 := hR 81 0 r
        refine lv_iload_n hx hb dX9_rowOf_18 rfl (lv_at hl 2 rfl) ?_
        refine x_icmp_ne (tgt := 24) hx hb (by omega) (by omega) dX9_rowOf_19 (by decide) (fun c40 => ?_) (fun c40 => ?_)
        · refine lv_iinc (v := jI (r + 1)) (lv' := [(3, .int (jI (r + 1))), (0, .ref (ad 40 0)), (1, .int (jI 4)), (2, .int (jI row))]) hx hb dX9_rowOf_24 hl (k := 3) rfl (jI_add _ _) (by decide) rfl (fun ls hl => ?_)
          refine lv_goto (tgt := 2) hx hb dX9_rowOf_27 (by decide) ?_
          exact ih2 (r + 1) _ _ _ (by omega) (by omega) (fun j a b => if hj : j = r then (by rw [hj]; omega) else hne j a (by omega)) hw hS (lv_sub hl [1, 2, 3, 0] rfl)
        · refine lv_iload_n hx hb dX9_rowOf_22 rfl (lv_at hl 3 rfl) ?_
          rw [hQ9]
          refine ret_i (mc := 0) (ms := 0) hx hb hr hlocks hw hS (by first | exact Nat.le_of_ble_eq_true rfl | omega) (by first | exact Nat.le_of_ble_eq_true rfl | omega) dX9_rowOf_23 ?_
          have hm41 : nmAt (fun q => mRid X (sg 3 q) (sg 4 q)) row (sg 2 0).toNat = r := nmAt_yes (f := fun q => mRid X (sg 3 q) (sg 4 q)) (fun j a b => by show mRid X (sg 3 j) (sg 4 j) ≠ row; rw [← (hsg.2 j a (by omega)).1]; exact hne j a b) ⟨by omega, by omega⟩ (by show mRid X (sg 3 r) (sg 4 r) = row; rw [← (hsg.2 r (by omega) (by omega)).1]; omega)
          exact ⟨X, rfl, hR, Frm.rf, hMI, by omega, by omega, (by rw [hm41, if_neg (by omega)]), (by rw [hm41, if_neg (by omega)]; exact hsg), S5.rf⟩
  exact lp2 (150 - 0 : Int).toNat.succ 0 _ _ _ (by omega) (by omega) (fun j a b => by omega) hw hS (lv_sub hl [1, 2, 3, 0] rfl)

