/-! the journal is made -/
def JI (n : Int) (h0 : Nat) (ad : Nat → Int → Nat) (cnt : Nat → Int) (X : Nat → Int → Int → Int) (Y : Nat → Int → Int → Option Int) (ad1 : Nat → Int → Nat) (cnt1 : Nat → Int) (Y1 : Nat → Int → Int → Option Int) : Prop :=
  ad1 29 0 = h0 ∧ (∀ k i, k ∉ [28, 29, 30, 31] → ad1 k i = ad k i) ∧ (cnt1 28 = n ∧ cnt1 29 = 1 ∧ cnt1 30 = 1 ∧ cnt1 31 = 1) ∧ (∀ k, k ∉ [28, 29, 30, 31] → cnt1 k = cnt k) ∧ (∀ q, 0 ≤ q → q < n → Y1 30 0 q = some q) ∧ (∀ k i j, k ≠ 30 → Y1 k i j = Y k i j) ∧ Own cnt1 ∧ Zr cnt1 X Y1
set_option maxHeartbeats 4000000 in
set_option maxRecDepth 100000 in
theorem c_X2_init (l : Launch) (D : va_G) (tc : Nat → ClassId) (base : Nat) (ad : Nat → Int → Nat) (cnt : Nat → Int) (X : Nat → Int → Int → Int) (Y : Nat → Int → Int → Option Int) (ln : Int → Int) (E : va_W) (h0 : Nat) (hOw : Own cnt) (hz : Zr cnt X Y) (h28 : cnt 28 = 0) (h29 : cnt 29 = 0) (h30 : cnt 30 = 0) (h31 : cnt 31 = 0) :
    KC l D tc base yX2_init wsX2_init ({ frames := 2, cells := 82, slots := 404, locals := 32 } : Room) [.ref h0] (ad, cnt, X, Y, ln) (E ++ [(h0, .inr (2, [.null, .int 0, .null, .int 0]))]) 82 404 (fun u' E' => ∃ (ad1 : Nat → Int → Nat) (cnt1 : Nat → Int) (Y1 : Nat → Int → Int → Option Int), u' = (ad1, cnt1, X, Y1, ln) ∧ E' = E ∧ JI 80 h0 ad cnt X Y ad1 cnt1 Y1) := by
  refine KC_of (cc := cX2_init) (maxL := 2) (ret := none) (by decide) rfl (Nat.le_of_ble_eq_true rfl) ?_
  intro p e s m below meth c ls hx hb hr hml hown hts hlocks hnm hl hK hw hS
  have hnm : meth.name = "<init>" := hnm
  have hown : s.vm.findClass RX2 = some m.cls := hown
  have hbs : base ≤ s.heap.size := hw.2.2
  have hi2 : ∀ w ∈ wsX20, w ∈ wsX2_init := fun w h => List.mem_cons_of_mem _ (List.mem_append_left _ (List.mem_append_right _ h))
  have hi3 : ∀ w ∈ wsX30, w ∈ wsX2_init := fun w h => List.mem_cons_of_mem _ (List.mem_append_right _ h)
  have hf2 : fctx s m _ RX2 wsX2_init D tc RX2 TX2 4 2 := ⟨hts, hi2, hown, hK.1, rfl⟩
  have hf3 : fctx s m _ RX2 wsX2_init D tc RX3 TX3 4 3 := ⟨hts, hi3, hown, hK.1, rfl⟩
  have lk11 := hts (.fieldLink RX2 11 "StateRecords$Journal" "notes" "[LStateRecords$Note;") (by decide +kernel)
  have lk17 := hts (.fieldLink RX2 17 "StateRecords$Journal" "starts" "[I") (by decide +kernel)
  have hl : lv_has ls 2 [(0, .ref h0)] := hl
  refine lv_aload_n hx hb dX2_init_0 rfl (lv_at hl 0 rfl) ?_
  refine W.objInit hx hb hown (hts (.methodLink RX2 3 objectInit) (by decide +kernel)) (hts (.instanceMethod objectInit) (by decide +kernel)) (hts _ (List.mem_cons_of_mem _ (List.mem_append_left _ (List.mem_append_left _ (List.mem_of_getElem? (i := 2) rfl))))) rfl (by rw [hml]; exact hl.1) rfl dX2_init_1 (Nat.le_of_ble_eq_true rfl) (Nat.le_of_ble_eq_true rfl) ?_
  refine W.eq (g2 := F0 m 4 ls []) rfl ?_
  refine lv_aload_n hx hb dX2_init_4 rfl (lv_at hl 0 rfl) ?_
  refine lv_bipush (v := jI 80) hx hb dX2_init_5 (by decide) ?_
  refine g_newq (t := 4) (z := 80) hx hb hown (hts (.classLink RX2 9 RX3) (by decide +kernel)) hK.2.2.2.2.2.2.1 hK.1 rfl hw hS hbs (by omega) (by omega) (show 0 + 1 ≤ 82 by omega) (show 0 + (80 : Int).toNat ≤ 404 by omega) dX2_init_7 (fun q1 H hw hS => ?_)
  have hw : wx D tc base (ad, cnt, X, Y, ln) (E ++ [(h0, .inr (2, [.null, .int 0, .null, .int 0])), (q1, .inl (tc 4, (80 : Int).toNat, .inr (.inr (.inr (.inr (fun _ => none))))))]) H := hw
  refine W.widen (k := 1) (n := 80) (by omega) (by omega) ?_
  refine g_putF (ci := 2) hx hb hf2 ⟨tyX2_ok, nmX2⟩ hw hS 0 rfl 0 (by decide) lk11 rfl hnm rfl (tyX2_ok 0 (by decide)) rfl rfl (Nat.le_of_ble_eq_true rfl) dX2_init_10 (fun H locs hw hS => ?_)
  have hw : wx D tc base (ad, cnt, X, Y, ln) (E ++ [(h0, .inr (2, [.ref q1, .int 0, .null, .int 0])), (q1, .inl (tc 4, (80 : Int).toNat, .inr (.inr (.inr (.inr (fun _ => none))))))]) H := hw
  refine lv_aload_n hx hb dX2_init_13 rfl (lv_at hl 0 rfl) ?_
  refine lv_iconst (v := jI 4) hx hb dX2_init_14 rfl ?_
  refine g_newa (t := 0) (z := 4) (a0 := ((4 : Int).toNat, .inl (fun _ => 0))) (atype := .int) hx hb (hts (.arrayClass .int) (by decide +kernel)) rfl hK.1 rfl hw hS hbs (fun _ => rfl) (by omega) (by omega) (by decide) (show 1 + 1 ≤ 82 by omega) (show 80 + (4 : Int).toNat ≤ 404 by omega) dX2_init_15 (fun q2 H hw hS => ?_)
  have hw : wx D tc base (ad, cnt, X, Y, ln) (E ++ [(h0, .inr (2, [.ref q1, .int 0, .null, .int 0])), (q1, .inl (tc 4, (80 : Int).toNat, .inr (.inr (.inr (.inr (fun _ => none)))))), (q2, .inl (tc 0, (4 : Int).toNat, .inl (fun _ => 0)))]) H := hw
  refine W.widen (k := 2) (n := 84) (by omega) (by omega) ?_
  refine g_putF (ci := 2) hx hb hf2 ⟨tyX2_ok, nmX2⟩ hw hS 0 rfl 2 (by decide) lk17 rfl hnm rfl (tyX2_ok 2 (by decide)) rfl rfl (Nat.le_of_ble_eq_true rfl) dX2_init_17 (fun H locs hw hS => ?_)
  have hw : wx D tc base (ad, cnt, X, Y, ln) (E ++ [(h0, .inr (2, [.ref q1, .int 0, .ref q2, .int 0])), (q1, .inl (tc 4, (80 : Int).toNat, .inr (.inr (.inr (.inr (fun _ => none)))))), (q2, .inl (tc 0, (4 : Int).toNat, .inl (fun _ => 0)))]) H := hw
  have hw := growz (KS := [29, 30, 31]) (n := 0) (f := fun k => if k = 29 then h0 else if k = 30 then q1 else q2) hw (by omega) (fun k hk => by
    simp only [List.mem_cons, List.not_mem_nil, or_false] at hk
    rcases hk with rfl | rfl | rfl
    · exact h29
    · exact h30
    · exact h31) (by decide) hOw hz rfl
  have hJ : JI 0 h0 ad cnt X Y (up2 ad [29, 30, 31] 0 (fun k => if k = 29 then h0 else if k = 30 then q1 else q2)) (upc cnt [29, 30, 31]) Y := by
    refine ⟨by rw [up2_s (by decide)]; rfl, fun k i hk => by rw [up2_k (fun q => hk (List.mem_cons_of_mem _ q))], ⟨by rw [upc_k (by decide), h28], by rw [upc_s (by decide), h29]; rfl, by rw [upc_s (by decide), h30]; rfl, by rw [upc_s (by decide), h31]; rfl⟩, fun k hk => upc_k (fun q => hk (List.mem_cons_of_mem _ q)), fun q g0 g1 => by omega, fun _ _ _ _ => rfl, hOw.up (by decide +kernel) (by decide +kernel), hz.up⟩
  generalize up2 ad [29, 30, 31] 0 (fun k => if k = 29 then h0 else if k = 30 then q1 else q2) = ad1 at hw hJ
  generalize upc cnt [29, 30, 31] = cnt1 at hw hJ
  refine lv_iconst (v := jI 0) hx hb dX2_init_20 rfl ?_
  refine lv_istore_n (lv' := [(1, .int (jI 0)), (0, .ref h0)]) hx hb dX2_init_21 rfl hl (by decide) rfl (fun ls hl => ?_)
  have lp : ∀ (nn : Nat) (n : Int) (ad1 : Nat → Int → Nat) (cnt1 : Nat → Int) (Y1 : Nat → Int → Int → Option Int) (cl sl : Nat) (H : Heap) (locs : List Loc) (ls : Array Slot), 80 - n < (nn : Int) → 0 ≤ n ∧ n ≤ 80 → JI n h0 ad cnt X Y ad1 cnt1 Y1 → (cl : Int) ≤ 2 + n ∧ (sl : Int) ≤ 84 + 4 * n → wx D tc base (ad1, cnt1, X, Y1, ln) E H → va_S (frA base) s.heap H locs → lv_has ls 2 [(1, .int (jI n)), (0, .ref h0)] →
      W p l e ({ frames := 2, cells := 82, slots := 404, locals := 32 } : Room) s m ([.ref h0] : List Value).toArray below meth c H locs cl sl (MQ below (QX D tc base (fun u' E' => ∃ (ad1 : Nat → Int → Nat) (cnt1 : Nat → Int) (Y1 : Nat → Int → Int → Option Int), u' = (ad1, cnt1, X, Y1, ln) ∧ E' = E ∧ JI 80 h0 ad cnt X Y ad1 cnt1 Y1)) ([.ref h0] : List Value).toArray s 82 404 (frA base)) (F0 m 22 ls []) := by
    intro nn
    induction nn with
    | zero => intro n ad1 cnt1 Y1 cl sl H locs ls hm hn; exfalso; omega
    | succ nn ih =>
      intro n ad1 cnt1 Y1 cl sl H locs ls hm hn hJ hcl hw hS hl
      obtain ⟨j1, j2, ⟨c28, c29, c30, c31⟩, j4, j5, j6, j7, j8⟩ := hJ
      refine lv_iload_n hx hb dX2_init_22 rfl (lv_at hl 0 rfl) ?_
      refine lv_bipush (v := jI 80) hx hb dX2_init_23 (by decide) ?_
      refine x_icmp_ge (tgt := 47) hx hb (by omega) (by omega) dX2_init_25 (by decide) (fun hc => ?_) (fun hc => ?_)
      · have e80 : n = 80 := by omega
        subst e80
        exact ret_x hx hb hr hlocks hw hS (by omega) (by omega) dX2_init_47 ⟨ad1, cnt1, Y1, rfl, rfl, j1, j2, ⟨c28, c29, c30, c31⟩, j4, j5, j6, j7, j8⟩
      · refine lv_aload_n hx hb dX2_init_28 rfl (lv_at hl 1 rfl) ?_
        refine W.eq (g2 := F0 m 29 ls [.ref (ad1 29 0)]) (by rw [j1]) ?_
        refine x_geto hx hb hf2 (wx_wd hw) (by omega) (by omega) sl_29_0 lk11 dX2_init_29 ?_
        refine lv_iload_n hx hb dX2_init_32 rfl (lv_at hl 0 rfl) ?_
        refine nx_new (ci := 3) (fs := [.null, .int 0, .long 0, .null]) hx hb hf3 ⟨tyX3_ok, nmX3⟩ (hts (.classLink RX2 9 RX3) (by decide +kernel)) (hts (.instantiable RX3 4) (by decide +kernel)) (hts (.initialized RX3) (by decide +kernel)) hw hS hbs (fun j hj => by rcases (show j = 0 ∨ j = 1 ∨ j = 2 ∨ j = 3 by omega) with rfl | rfl | rfl | rfl <;> rfl) (by show _ ≤ (82 : Nat); omega) (by show _ ≤ (404 : Nat); omega) dX2_init_33 (fun q H hw hS => ?_)
        refine lv_dup hx hb dX2_init_36 rfl ?_
        refine gos_x (run_IN (As := []) (rest := [.ref q, .int (jI n), .ref (ad1 30 0)]) (host := RX8) hx hb hml hown hts (c_X3_init l D tc base (ad1, cnt1, X, Y1, ln) E q) ⟨va_cnB 0 hts gX2_init_X3_init_n21 rfl rfl rfl hK.2.2.2.2.1.2.2.2 (hts (.initialized RX3) (by decide +kernel)) (by decide +kernel) ⟨Nat.le_of_ble_eq_true rfl, Nat.le_of_ble_eq_true rfl⟩, rfl, hts (.instanceMethod yX3_init) (by decide +kernel)⟩ hK hw rfl hl.1 rfl (Nat.le_of_ble_eq_true rfl) dX2_init_37 ⟨by show _ ≤ (82 : Nat); omega, by show _ ≤ (404 : Nat); omega⟩) hS (fun u9 E9 H locs p9 hw hS => ?_)
        obtain ⟨rfl, rfl⟩ := p9
        have hw := growz (KS := [28]) (n := n) (f := fun _ => q) hw (by omega) (fun k hk => by rw [List.mem_singleton.mp hk]; exact c28) (by decide) j7 j8 rfl
        have ha : up2 ad1 [28] n (fun _ => q) 28 n = q := up2_s (by decide)
        have hb30 : up2 ad1 [28] n (fun _ => q) 30 0 = ad1 30 0 := by rw [up2_k (by decide)]
        refine W.eq (g2 := F0 m 40 ls [.ref (up2 ad1 [28] n (fun _ => q) 28 n), .int (jI n), .ref (up2 ad1 [28] n (fun _ => q) 30 0)]) (by rw [ha, hb30]) ?_
        have k28 : upc cnt1 [28] 28 = n + 1 := by rw [upc_s (by decide), c28]
        have k30 : upc cnt1 [28] 30 = 1 := by rw [upc_k (by decide), c30]
        refine nx_aast hx hb hK.1 hw hS hbs (by omega) (by omega) ar_30 rfl rfl sl_28_0 (len_E ar_30 (by decide)) (by omega) (by omega) (by omega) (by omega) (by omega) dX2_init_40 (fun H locs hw hS => ?_)
        refine lv_iinc (v := jI (n + 1)) (lv' := [(1, .int (jI (n + 1))), (0, .ref h0)]) hx hb dX2_init_41 hl (k := 0) rfl (jI_add _ _) (by decide) rfl (fun ls hl => ?_)
        refine lv_goto (tgt := 22) hx hb dX2_init_44 (by decide) ?_
        refine ih (n + 1) _ _ _ _ _ _ _ _ (by omega) (by omega) ⟨?_, fun k i hk => ?_, ⟨k28, by rw [upc_k (by decide), c29], k30, by rw [upc_k (by decide), c31]⟩, fun k hk => ?_, fun q' g0 g1 => ?_, fun k i j hk => ?_, j7.up (by decide +kernel) (by decide +kernel), j8.up.setY (by omega) (by omega)⟩ (by omega) hw hS hl
        · rw [up2_k (by decide)]; exact j1
        · rw [up2_k (fun q => hk (by rw [List.mem_singleton.mp q]; decide))]; exact j2 k i hk
        · rw [upc_k (fun q => hk (by rw [List.mem_singleton.mp q]; decide))]; exact j4 k hk
        · by_cases hq : q' = n
          · rw [hq]; exact u3_s _ _ _ _ _
          · rw [u3_j _ _ _ _ hq]; exact j5 q' g0 (by omega)
        · rw [u3_k _ _ _ _ hk]; exact j6 k i j hk
  exact lp 81 0 ad1 cnt1 Y 2 84 _ _ _ (by omega) (by omega) hJ (by omega) hw hS hl
