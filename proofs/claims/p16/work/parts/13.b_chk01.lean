set_option maxHeartbeats 4000000 in
set_option maxRecDepth 100000 in
theorem c_X9_judged (l : Launch) (D : va_G) (tc : Nat → ClassId) (base : Nat) (ad : Nat → Int → Nat) (cnt : Nat → Int) (X : Nat → Int → Int → Int) (Y : Nat → Int → Int → Option Int) (ln : Int → Int) (hR : Rng X) (hFx : Fx cnt) (hMI : MInv X) (x : Int) (hx0 : 0 ≤ x ∧ x ≤ 29) (hxt : x < X 40 0 13) : KI l D tc base yX9_judged wsX9_judged ({ frames := 3, cells := 0, slots := 0, locals := 78 } : Room) [.ref (ad 40 0), .int (jI x)] (ad, cnt, X, Y, ln) 0 0 (fun z u => ∃ X1 : Nat → Int → Int → Int, u = (ad, cnt, X1, Y, ln) ∧ Rng X1 ∧ Frm [4029] X X1 ∧ MInv X1 ∧ (0 ≤ z ∧ z ≤ 10) ∧ jdM X x z) := by
  refine K_of (cc := cX9_judged) (maxL := 5) (ret := (some .int)) (by decide) rfl (Nat.le_of_ble_eq_true rfl) ?_
  intro p e s m below meth c ls hx hb hr hml hown hts hlocks hl hK hw hS
  have hown : s.vm.findClass RX9 = some m.cls := hown
  obtain ⟨av9, hav9⟩ : ∃ a9 : Array Value, a9 = ([.ref (ad 40 0), .int (jI x)] : List Value).toArray := ⟨_, rfl⟩
  rw [← hav9] at hts ⊢
  obtain ⟨Q9, hQ9⟩ : ∃ q9Q : State → Prop, q9Q = MQ below (QI D tc base (fun z u => ∃ X1 : Nat → Int → Int → Int, u = (ad, cnt, X1, Y, ln) ∧ Rng X1 ∧ Frm [4029] X X1 ∧ MInv X1 ∧ (0 ≤ z ∧ z ≤ 10) ∧ jdM X x z)) av9 s 0 0 (frA base) := ⟨_, rfl⟩
  rw [← hQ9]
  have hi9 : ∀ w ∈ wsX90, w ∈ wsX9_judged := fun w h => List.mem_cons_of_mem _ (List.mem_append_right _ h)
  have hf9 : fctx s m _ RX9 wsX9_judged D tc RX9 TX9 51 9 := ⟨hts, hi9, hown, hK.1, rfl⟩
  have lk30 := hts (.fieldLink RX9 30 (TX9 8).1 (TX9 8).2.1 (TX9 8).2.2.1) (gj_X9_judged_0 _ (gp_1 gp_h))
  have lk45 := hts (.fieldLink RX9 45 (TX9 14).1 (TX9 14).2.1 (TX9 14).2.2.1) (gj_X9_judged_0 _ (gp_h))
  have lk206 := hts (.fieldLink RX9 206 (TX9 28).1 (TX9 28).2.1 (TX9 28).2.2.1) (gj_X9_judged_0 _ (gp_1 (gp_1 gp_h)))
  have hc40 : cnt 40 = 1 := hFx.at 40 1 (by decide)
  have hc49 : cnt 49 = 1 := hFx.at 49 1 (by decide)
  have hc55 : cnt 55 = 1 := hFx.at 55 1 (by decide)
  have hl : lv_has ls 5 [(0, .ref (ad 40 0)), (1, .int (jI x))] := hl
  have fstypes : 0 ≤ X 40 0 2 ∧ X 40 0 2 ≤ 8 := hR 40 0 2
  have fsthings : 0 ≤ X 40 0 13 ∧ X 40 0 13 ≤ 30 := hR 40 0 13
  have fsmarks : 0 ≤ X 40 0 20 ∧ X 40 0 20 ≤ 4 := hR 40 0 20
  have fsnotes : 0 ≤ X 40 0 22 ∧ X 40 0 22 ≤ 80 := hR 40 0 22
  refine lv_aload_n hx hb dX9_judged_0 rfl (lv_at hl 0 rfl) ?_
  refine x_geto hx hb hf9 hw (by first | exact Int.le_refl 0 | omega) (by first | exact zlt hc40 | omega) sl_40_14 lk45 dX9_judged_1 ?_
  refine lv_iload_n hx hb dX9_judged_4 rfl (lv_at hl 1 rfl) ?_
  refine x_iald hx hb hK.1 hw (by first | exact Int.le_refl 0 | omega) (by first | exact zlt hc55 | omega) ar_55 (len_E ar_55 (by decide)) (by omega) (by omega) (by omega) dX9_judged_5 ?_
  have f1 : 0 ≤ X 55 0 x ∧ X 55 0 x ≤ 7 := hR 55 0 x
  refine lv_istore_n (lv' := [(2, .int (jI (X 55 0 x))), (0, .ref (ad 40 0)), (1, .int (jI x))]) hx hb dX9_judged_6 rfl hl (by decide) rfl (fun ls hl => ?_)
  refine lv_iconst (v := jI 0) hx hb dX9_judged_7 rfl ?_
  refine lv_istore_n (lv' := [(3, .int (jI 0)), (2, .int (jI (X 55 0 x))), (0, .ref (ad 40 0)), (1, .int (jI x))]) hx hb dX9_judged_8 rfl hl (by decide) rfl (fun ls hl => ?_)
  have lp9 : ∀ (nn : Nat) (cz : Int) (H : Heap) (locs : List Loc) (ls : Array Slot), (4 - cz) < (nn : Int) → (0 ≤ cz ∧ cz ≤ 4) → (∀ c', 0 ≤ c' → c' < cz → ckM X x (4 * X 55 0 x + c') = 0) → wd D tc base (ad, cnt, X, Y, ln) H → va_S (frA base) s.heap H locs → lv_has ls 5 [(0, .ref (ad 40 0)), (1, .int (jI x)), (2, .int (jI (X 55 0 x))), (3, .int (jI cz))] → W p l e ({ frames := 3, cells := 0, slots := 0, locals := 78 } : Room) s m av9 below meth c H locs 0 0 Q9 (F0 m 9 ls []) := by
    intro nn
    induction nn with
    | zero => intro cz H locs ls hm hcz hcl hw hS hl; exfalso; omega
    | succ nn ih9 =>
      intro cz H locs ls hm hcz hcl hw hS hl
      refine lv_iload_n hx hb dX9_judged_9 rfl (lv_at hl 3 rfl) ?_
      refine lv_aload_n hx hb dX9_judged_10 rfl (lv_at hl 0 rfl) ?_
      refine x_geto hx hb hf9 hw (by first | exact Int.le_refl 0 | omega) (by first | exact zlt hc40 | omega) sl_40_8 lk30 dX9_judged_11 ?_
      refine lv_iload_n hx hb dX9_judged_14 rfl (lv_at hl 2 rfl) ?_
      refine x_iald hx hb hK.1 hw (by first | exact Int.le_refl 0 | omega) (by first | exact zlt hc49 | omega) ar_49 (len_E ar_49 (by decide)) (by omega) (by omega) (by omega) dX9_judged_15 ?_
      have f2 : 0 ≤ X 49 0 (X 55 0 x) ∧ X 49 0 (X 55 0 x) ≤ 4 := hR 49 0 (X 55 0 x)
      refine x_icmp_ge (tgt := 50) hx hb (by omega) (by omega) dX9_judged_16 (by decide) (fun c3 => ?_) (fun c3 => ?_)
      · refine lv_iconst (v := jI 0) hx hb dX9_judged_50 rfl ?_
        rw [hQ9]
        refine ret_i (mc := 0) (ms := 0) hx hb hr hlocks hw hS (by first | exact Nat.le_of_ble_eq_true rfl | omega) (by first | exact Nat.le_of_ble_eq_true rfl | omega) dX9_judged_51 ?_
        exact ⟨X, rfl, hR, Frm.rf, hMI, by omega, Or.inl ⟨by omega, fun c a b => hcl c a (by omega)⟩⟩
      · refine lv_aload_n hx hb dX9_judged_19 rfl (lv_at hl 0 rfl) ?_
        refine lv_iload_n hx hb dX9_judged_20 rfl (lv_at hl 1 rfl) ?_
        refine lv_iconst (v := jI 4) hx hb dX9_judged_21 rfl ?_
        refine lv_iload_n hx hb dX9_judged_22 rfl (lv_at hl 2 rfl) ?_
        refine x_imul hx hb dX9_judged_23 ?_
        refine lv_iload_n hx hb dX9_judged_24 rfl (lv_at hl 3 rfl) ?_
        refine x_iadd hx hb dX9_judged_25 ?_
        refine gos_i (run_V (As := [.int (jI x), .int (jI ((4 * (X 55 0 x)) + cz))]) (rest := []) hx hb hml hown hts (c_X9_checked l D tc base ad cnt X Y ln hR hFx hMI x ((4 * (X 55 0 x)) + cz) (by omega) (by omega) (by omega)) (cwV 2 hts gX9_judged_X9_checked rfl rfl rfl (by first | exact hd_X9_checked | decide +kernel) ⟨Nat.le_of_ble_eq_true rfl, Nat.le_of_ble_eq_true rfl⟩) hK hw (by first | exact Int.le_refl 0 | omega) (by first | exact zlt hc40 | omega) sl_40_0 rfl rfl hl.1 rfl (Nat.le_of_ble_eq_true rfl) dX9_judged_26 ⟨Nat.le_of_ble_eq_true rfl, Nat.le_of_ble_eq_true rfl⟩) hS (fun z4 u5 H locs p6 hw hS => ?_)
        obtain ⟨eu5, p6⟩ := p6
        subst eu5
        refine lv_istore (lv' := [(4, .int (jI z4)), (0, .ref (ad 40 0)), (1, .int (jI x)), (2, .int (jI (X 55 0 x))), (3, .int (jI cz))]) hx hb dX9_judged_29 hl (by decide) rfl (fun ls hl => ?_)
        refine lv_iload hx hb dX9_judged_31 (lv_at hl 0 rfl) ?_
        refine x_if_eq (tgt := 44) hx hb (by omega) dX9_judged_33 (by decide) (fun c7 => ?_) (fun c7 => ?_)
        · refine lv_iinc (v := jI (cz + 1)) (lv' := [(3, .int (jI (cz + 1))), (4, .int (jI z4)), (0, .ref (ad 40 0)), (1, .int (jI x)), (2, .int (jI (X 55 0 x)))]) hx hb dX9_judged_44 hl (k := 4) rfl (jI_add _ _) (by decide) rfl (fun ls hl => ?_)
          refine lv_goto (tgt := 9) hx hb dX9_judged_47 (by decide) ?_
          exact ih9 (cz + 1) _ _ _ (by omega) (by omega) (fun c a b => if hc : c = cz then (by rw [hc]; omega) else hcl c a (by omega)) hw hS (lv_sub hl [2, 3, 4, 0] rfl)
        · refine lv_aload_n hx hb dX9_judged_36 rfl (lv_at hl 1 rfl) ?_
          refine lv_iload_n hx hb dX9_judged_37 rfl (lv_at hl 4 rfl) ?_
          refine x_puti (jz := 28) hx hb hf9 ⟨tyX9_ok, nmX9⟩ hw hS (by first | exact Int.le_refl 0 | omega) (by first | exact zlt hc40 | omega) sl_40_28 rfl lk206 rfl (tyX9_ok 28 (by decide)) rfl rfl dX9_judged_38 (fun H locs hw hS => ?_)
          obtain ⟨X8, hX8⟩ : ∃ Xq, Xq = u3 X 40 0 28 cz := ⟨_, rfl⟩
          rw [← hX8] at hw
          have hRX8 : Rng X8 := by rw [hX8]; exact rng_set hR (show 0 ≤ cz ∧ cz ≤ 3 by omega)
          have hVX8 : X8 40 0 28 = cz := by rw [hX8]; exact u3_s _ _ _ _ _
          have hFX8 : Frm [4029] X X8 := by rw [hX8]; exact Frm.set Frm.rf (show 4029 ∈ [4029] by decide)
          refine lv_iload hx hb dX9_judged_41 (lv_at hl 0 rfl) ?_
          rw [hQ9]
          refine ret_i (mc := 0) (ms := 0) hx hb hr hlocks hw hS (by first | exact Nat.le_of_ble_eq_true rfl | omega) (by first | exact Nat.le_of_ble_eq_true rfl | omega) dX9_judged_43 ?_
          have q10 : Frm [4029] X X8 := by rw [hX8]; exact Frm.set Frm.rf (show 4029 ∈ [4029] by decide)
          have hMq9 : MInv X8 := minv_frm hMI q10 (by decide)
          exact ⟨X8, rfl, hRX8, hFX8, hMq9, by omega, Or.inr ⟨by omega, cz, by omega, by omega, hcl, by omega⟩⟩
  exact lp9 (4 - 0 : Int).toNat.succ 0 _ _ _ (by omega) (by omega) (fun c a b => by omega) hw hS (lv_sub hl [2, 3, 1, 0] rfl)
