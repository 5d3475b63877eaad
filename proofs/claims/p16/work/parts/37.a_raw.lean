section
/-! new cells hold nothing: what is there before anything was written -/
def Zr (cnt : Nat → Int) (X : Nat → Int → Int → Int) (Y : Nat → Int → Int → Option Int) : Prop := ∀ k i j, (i < 0 ∨ cnt k ≤ i) → X k i j = 0 ∧ Y k i j = none
def rawV (g : Nat → Nat) (c : Nat × Nat) : Value := if c.1 = 0 then .int 0 else if c.1 = 1 then .long 0 else if c.1 = 3 then .ref (g c.2) else .null
def rawE (tc : Nat → ClassId) (g : Nat → Nat) (k : Nat) : va_E :=
  if (lay k).1 = 0 then
    (if (lay k).2.2.1.1 = 0 then .inl (tc (lay k).2.2.1.2.1, ((lay k).2.2.2).toNat, .inl (fun _ => 0))
    else if (lay k).2.2.1.1 = 1 then .inl (tc (lay k).2.2.1.2.1, ((lay k).2.2.2).toNat, .inr (.inl (fun _ => 0)))
    else .inl (tc (lay k).2.2.1.2.1, ((lay k).2.2.2).toNat, .inr (.inr (.inr (.inr (fun _ => none))))))
  else .inr ((lay k).1 - 1, (List.range (lay k).2.1.length).map (fun j => rawV g (slo k j)))
section RW
variable {D : va_G} {tc : Nat → ClassId} {base : Nat} {E F : va_W} {H : Heap} {ad ad1 : Nat → Int → Nat} {cnt : Nat → Int} {X : Nat → Int → Int → Int} {Y : Nat → Int → Int → Option Int} {ln : Int → Int} {KS : List Nat} {n : Int} {f : Nat → Nat} {k : Nat}
theorem ceE_raw (hk : k ≠ 27) (hX : ∀ j, X k n j = 0) (hY : ∀ j, Y k n j = none) : ceE tc ad X Y ln k n = rawE tc (fun t => ad t n) k := by
  have hX2 : X k n = fun _ => 0 := funext hX
  have hY2 : Y k n = fun _ => none := funext hY
  unfold ceE rawE lenE
  rw [if_neg hk, hX2, hY2]
  split
  · split
    · rfl
    · split
      · rfl
      · rfl
  · congr 2
    refine List.map_congr_left (fun j hj => ?_)
    unfold slV rawV
    rw [hX2, hY2]
    rfl
theorem growz (hw : wx D tc base (ad, cnt, X, Y, ln) (E ++ F) H) (h0 : 0 ≤ n) (hn : ∀ k ∈ KS, cnt k = n) (h27 : 27 ∉ KS) (ho : Own cnt) (hz : Zr cnt X Y) (hF : F = KS.map fun k => (f k, rawE tc (fun t => up2 ad KS n f t n) k)) : wx D tc base (up2 ad KS n f, upc cnt KS, X, Y, ln) E H := by
  have hrf := wd_ref (wx_wd hw)
  refine adopt (NL := KS.map fun k => (k, n)) hw ?_ (fun k i g0 g1 => ?_) ho (fun k i => ?_) ?_
  · rw [hF]
    unfold wlE
    rw [List.map_map]
    refine List.map_congr_left (fun k hk => ?_)
    have h1 := hz k n
    rw [Function.comp]
    show (f k, rawE tc (fun t => up2 ad KS n f t n) k) = (up2 ad KS n f k n, ceE tc (up2 ad KS n f) X Y ln k n)
    rw [ceE_raw (fun q => h27 (q ▸ hk)) (fun j => (h1 j (Or.inr (by rw [hn k hk]; omega))).1) (fun j => (h1 j (Or.inr (by rw [hn k hk]; omega))).2), up2_s hk]
  · have hne : ¬ (k ∈ KS ∧ i = n) := fun q => by have := hn k q.1; omega
    exact ⟨by simp only [up2, if_neg hne], rfl, rfl, fun _ => rfl⟩
  · simp only [upc]
    by_cases hk : k ∈ KS
    · have := hn k hk
      rw [if_pos hk]
      constructor
      · intro h
        by_cases hi : i = n
        · exact Or.inr (List.mem_map.mpr ⟨k, hk, by rw [hi]⟩)
        · exact Or.inl (by omega)
      · rintro (h | h)
        · omega
        · obtain ⟨k', -, e⟩ := List.mem_map.mp h
          cases e
          omega
    · rw [if_neg hk]
      constructor
      · exact fun h => Or.inl h
      · rintro (h | h)
        · exact h
        · obtain ⟨k', hk', e⟩ := List.mem_map.mp h
          cases e
          exact absurd hk' hk
  · intro k i j t r g0 g1 hr e
    by_cases hm : k ∈ KS
    · by_cases hi : i = n
      · have := (hz k i j (Or.inr (by rw [hn k hm]; omega))).2
        rw [this] at e
        cases e
      · rw [upc_s hm] at g1
        have h5 := hn k hm
        have := hrf k i j t r g0 (by omega) hr e
        have h2 : cnt t ≤ upc cnt KS t := upc_le
        omega
    · rw [upc_k hm] at g1
      have := hrf k i j t r g0 g1 hr e
      have h2 : cnt t ≤ upc cnt KS t := upc_le
      omega
theorem Zr.up (hz : Zr cnt X Y) : Zr (upc cnt KS) X Y := fun k i j h => hz k i j (by have : cnt k ≤ upc cnt KS k := upc_le; omega)
theorem Zr.setX {i j v : Int} (hz : Zr cnt X Y) (h0 : 0 ≤ i) (h1 : i < cnt k) : Zr cnt (u3 X k i j v) Y := fun k' i' j' h => by
  refine ⟨?_, (hz k' i' j' h).2⟩
  simp only [u3]
  rw [if_neg (fun q => by obtain ⟨rfl, rfl, rfl⟩ := q; omega)]
  exact (hz k' i' j' h).1
theorem Zr.setY {i j : Int} {v : Option Int} (hz : Zr cnt X Y) (h0 : 0 ≤ i) (h1 : i < cnt k) : Zr cnt X (u3 Y k i j v) := fun k' i' j' h => by
  refine ⟨(hz k' i' j' h).1, ?_⟩
  simp only [u3]
  rw [if_neg (fun q => by obtain ⟨rfl, rfl, rfl⟩ := q; omega)]
  exact (hz k' i' j' h).2
theorem Own.up (h : Own cnt) (h1 : ∀ p ∈ ownL, p.1 ∈ KS → p.2 ∈ KS) (h2 : ∀ k ∈ KS, ¬ ((lay k).1 = 0 ∧ (lay k).2.2.1.1 = 9)) : Own (upc cnt KS) := by
  refine ⟨fun p hp => ?_, fun k g1 g2 => by rw [upc_k (fun q => h2 k q ⟨g1, g2⟩)]; exact h.2 k g1 g2⟩
  have h3 := h.1 p hp
  by_cases hm : p.1 ∈ KS
  · rw [upc_s hm, upc_s (h1 p hp hm)]
    omega
  · rw [upc_k hm]
    have : cnt p.2 ≤ upc cnt KS p.2 := upc_le
    omega
end RW
end
section
/-! a store beside cells that are being made -/
theorem wx_pos {D : va_G} {tc : Nat → ClassId} {base : Nat} {ad : Nat → Int → Nat} {cnt : Nat → Int} {X : Nat → Int → Int → Int} {R : Nat → Int → Int → Option Int} {ln : Int → Int} {E : va_W} {H : Heap} {k : Nat} {i : Int}
    (hw : wx D tc base (ad, cnt, X, R, ln) E H) (h0 : 0 ≤ i) (h1 : i < cnt k) : ∃ (ws : va_W) (q0 : Nat), va_P D vwCl ws H ∧ va_D (fun q => base ≤ q) ws ∧ ws[q0]? = some (ad k i, ceE tc ad X R ln k i) ∧
      (∀ (k' : Nat) (i' : Int), 0 ≤ i' → i' < cnt k' → ∃ q1 : Nat, ws[q1]? = some (ad k' i', ceE tc ad X R ln k' i')) ∧
      ∀ (X' : Nat → Int → Int → Int) (R' : Nat → Int → Int → Option Int) (H' : Heap), base ≤ H'.size → (∀ k' i', ¬ (k' = k ∧ i' = i) → X' k' i' = X k' i' ∧ R' k' i' = R k' i') → RefOK cnt R' → va_P D vwCl (ws.set q0 (ad k i, ceE tc ad X' R' ln k i)) H' → va_D (fun q => base ≤ q) (ws.set q0 (ad k i, ceE tc ad X' R' ln k i)) → wx D tc base (ad, cnt, X', R', ln) E H' := by
  obtain ⟨⟨RL, hRL, hP, hD⟩, -, -⟩ := hw
  have hget : ∀ (k' : Nat) (i' : Int), 0 ≤ i' → i' < cnt k' → ∃ q1 : Nat, RL[q1]? = some (k', i') ∧ (wlE tc ad X R ln RL ++ E)[q1]? = some (ad k' i', ceE tc ad X R ln k' i') := by
    intro k' i' g0 g1
    obtain ⟨q1, hq1⟩ := List.getElem?_of_mem ((hRL k' i').mpr ⟨g0, g1⟩)
    have hlt : q1 < (wlE tc ad X R ln RL).length := by
      have := (List.getElem?_eq_some_iff.mp hq1).1
      simpa [wlE] using this
    exact ⟨q1, hq1, by rw [List.getElem?_append_left hlt]; simp [wlE, hq1]⟩
  obtain ⟨q0, hr, hq⟩ := hget k i h0 h1
  have hq0 : q0 < (wlE tc ad X R ln RL).length := by
    have := (List.getElem?_eq_some_iff.mp hr).1
    simpa [wlE] using this
  refine ⟨wlE tc ad X R ln RL ++ E, q0, hP, hD, hq, fun k' i' g0 g1 => by obtain ⟨q1, -, h⟩ := hget k' i' g0 g1; exact ⟨q1, h⟩, ?_⟩
  intro X' R' H' hb hne hrf hP' hD'
  have hset : (wlE tc ad X R ln RL ++ E).set q0 (ad k i, ceE tc ad X' R' ln k i) = wlE tc ad X' R' ln RL ++ E := by
    rw [List.set_append_left _ _ hq0]
    congr 1
    apply List.ext_getElem?
    intro p
    by_cases hp : p = q0
    · subst hp
      rw [List.getElem?_set_self hq0]
      simp [wlE, hr]
    · rw [List.getElem?_set_ne (Ne.symm hp)]
      simp only [wlE, List.getElem?_map]
      cases hb2 : RL[p]? with
      | none => rfl
      | some r =>
        obtain ⟨rk, ri⟩ := r
        have hn : ¬ (rk = k ∧ ri = i) := by
          rintro ⟨rfl, rfl⟩
          have hlt : p < (wlE tc ad X R ln RL).length := by
            have := (List.getElem?_eq_some_iff.mp hb2).1
            simpa [wlE] using this
          have h2 : (wlE tc ad X R ln RL ++ E)[p]? = some (ad rk ri, ceE tc ad X R ln rk ri) := by rw [List.getElem?_append_left hlt]; simp [wlE, hb2]
          exact hp (hD.1 p q0 _ _ h2 hq rfl)
        have h3 := hne rk ri hn
        simp only [Option.map_some]
        rw [ceE_congr h3.1 h3.2]
  rw [hset] at hP' hD'
  exact ⟨⟨RL, hRL, hP', hD'⟩, hrf, hb⟩
theorem nx_aast {p : Program} {l : Launch} {e : Env} {R : Room} {s : State} {m : MethodId} {args : Array Value} {below : List Frame} {meth : Method} {c : Code} {H H0 : Heap} {locs : List Loc} {cells slots : Nat} {Q : State → Prop}
    {cc : ByteArray} {pc : Nat} {ls : Array Slot} {rest : List Value} {D : va_G} {tc : Nat → ClassId} {base : Nat} {ad : Nat → Int → Nat} {cnt : Nat → Int} {X : Nat → Int → Int → Int} {Y : Nat → Int → Int → Option Int} {ln : Int → Int} {E : va_W} {k tgt : Nat} {i z len : Int}
    (hx : p.tables.exec = Jvm.exec) (hb : c.code = cc) (hK : va_K D vwCl (tysL tc) s) (hw : wx D tc base (ad, cnt, X, Y, ln) E H) (hS : va_S (fun q => base ≤ q) H0 H locs) (hbs : base ≤ H0.size) (h0 : 0 ≤ i) (h1 : i < cnt k) {t0 cj j1 c1 t1 : Nat} {r : Int} {cl1 : vw_C} (hs : AR k 4 t0 tgt len) (ht : (tysL tc)[t0]? = some (tc t0, .object cl1.1)) (hc : vwCl[cj]? = some cl1) {N1 : Nat} (ho : SL tgt j1 cj c1 t1 N1) (hl : lenE ln k i = len) (z0 : 0 ≤ z) (z1 : z < len) (z2 : z ≤ 2147483647) (g0 : 0 ≤ r) (g1 : r < cnt tgt) (hdg : decode cc pc = .ok (.aastore, 1))
    (kk : ∀ (H1 : Heap) (locs1 : List Loc), wx D tc base (ad, cnt, X, u3 Y k i z (some r), ln) E H1 → va_S (fun q => base ≤ q) H0 H1 locs1 → W p l e R s m args below meth c H1 locs1 cells slots Q (F0 m (pc + 1) ls rest)) : W p l e R s m args below meth c H locs cells slots Q (F0 m pc ls (.ref (ad tgt r) :: .int (jI z) :: .ref (ad k i) :: rest)) := by
  obtain ⟨ws, q0, hP, hD, hq, hall, hset⟩ := wx_pos hw h0 h1
  obtain ⟨q1, hq1⟩ := hall tgt r g0 g1
  rw [ob_E ho] at hq1
  rw [ar_rE hs, hl] at hq
  refine va_astq hx hb hK hP hD hS q0 t0 q1 cj hq ht hq1 hc (jI_in z0 (by omega) z2) hdg (fun H1 locs1 hP1 hD1 hS1 => ?_)
  have he : ceE tc ad X (u3 Y k i z (some r)) ln k i = .inl (tc t0, len.toNat, .inr (.inr (.inr (.inr (va_up (fun q : Nat => (Y k i q).map (ad tgt)) (jI z).toNatClampNeg (some (ad tgt r))))))) := by
    rw [ar_rE hs, hl]
    congr 7
    funext q
    have e1 := jI_cl z0 z2
    by_cases hq2 : q = (jI z).toNatClampNeg
    · subst hq2
      simp [va_up, u3, e1]
    · have hq3 : ¬ ((q : Int) = z) := by omega
      simp [va_up, u3, hq2, hq3]
  rw [← he] at hP1 hD1
  refine kk H1 locs1 (hset X (u3 Y k i z (some r)) H1 (Nat.le_trans hbs hS1.1) (fun k' i' hne => ⟨rfl, u3_ne Y k k' i i' z _ hne⟩) (refOK_s (t := tgt) (wd_ref (wx_wd hw)) ?_ g0 g1) hP1 hD1) hS1
  intro j' t' ej hr
  rcases hr with ⟨-, -, z2⟩ | ⟨z1, -⟩
  · rw [hs.2.1] at z2; exact z2.symm
  · exact absurd hs.1 z1
end
section
/-! the journal is made -/
def JI (n : Int) (h0 : Nat) (ad : Nat → Int → Nat) (cnt : Nat → Int) (X : Nat → Int → Int → Int) (Y : Nat → Int → Int → Option Int) (ad1 : Nat → Int → Nat) (cnt1 : Nat → Int) (Y1 : Nat → Int → Int → Option Int) : Prop :=
  ad1 29 0 = h0 ∧ (∀ k i, k ∉ [28, 29, 30, 31] → ad1 k i = ad k i) ∧ (cnt1 28 = n ∧ cnt1 29 = 1 ∧ cnt1 30 = 1 ∧ cnt1 31 = 1) ∧ (∀ k, k ∉ [28, 29, 30, 31] → cnt1 k = cnt k) ∧ (∀ q, 0 ≤ q → q < n → Y1 30 0 q = some q) ∧ (∀ k i j, k ≠ 30 → Y1 k i j = Y k i j) ∧ Own cnt1 ∧ Zr cnt1 X Y1
set_option maxHeartbeats 4000000 in
set_option maxRecDepth 100000 in
theorem c_X2_init (l : Launch) (D : va_G) (tc : Nat → ClassId) (base : Nat) (ad : Nat → Int → Nat) (cnt : Nat → Int) (X : Nat → Int → Int → Int) (Y : Nat → Int → Int → Option Int) (ln : Int → Int) (E : va_W) (h0 : Nat) (hOw : Own cnt) (hz : Zr cnt X Y) (h28 : cnt 28 = 0) (h29 : cnt 29 = 0) (h30 : cnt 30 = 0) (h31 : cnt 31 = 0) :
    KC l D tc base yX2_init wsX2_init ({ frames := 2, cells := 82, slots := 404, locals := 32 } : Room) [.ref h0] (ad, cnt, X, Y, ln) (E ++ [(h0, .inr (2, [.null, .int 0, .null, .int 0]))]) 82 404 (fun u' E' => ∃ (ad1 : Nat → Int → Nat) (cnt1 : Nat → Int) (Y1 : Nat → Int → Int → Option Int), u' = (ad1, cnt1, X, Y1, ln) ∧ E' = E ∧ JI 80 h0 ad cnt X Y ad1 cnt1 Y1) := by
  refine KC_of (cc := cX2_init) (maxL := 2) (ret := none) (by decide) rfl (Nat.le_of_ble_eq_true rfl) ?_
  intro p e s m below meth c ls hx hb hr hml hown hts hlocks hnm hl hK hw hS
  have hnm : meth.name = "<init>" := hnm
  have hown : s.vm.findClass RX2 = some m.cls := hown
  have hbs : base ≤ s.heap.size := hw.2.2
  have hi2 : ∀ w ∈ wsX20, w ∈ wsX2_init := fun w h => List.mem_cons_of_mem _ (List.mem_append_left _ (List.mem_append_right _ h))
  have hi3 : ∀ w ∈ wsX30, w ∈ wsX2_init := fun w h => List.mem_cons_of_mem _ (List.mem_append_right _ h)
  have hf2 : fctx s m _ RX2 wsX2_init D tc RX2 TX2 4 2 := ⟨hts, hi2, hown, hK.1, rfl⟩
  have hf3 : fctx s m _ RX2 wsX2_init D tc RX3 TX3 4 3 := ⟨hts, hi3, hown, hK.1, rfl⟩
  have lk11 := hts (.fieldLink RX2 11 (TX2 0).1 (TX2 0).2.1 (TX2 0).2.2.1) (gj_X2_init_0 _ (gp_4 gp_h))
  have lk17 := hts (.fieldLink RX2 17 (TX2 2).1 (TX2 2).2.1 (TX2 2).2.2.1) (gj_X2_init_0 _ (gp_4 (gp_1 (gp_1 gp_h))))
  have hl : lv_has ls 2 [(0, .ref h0)] := hl
  refine lv_aload_n hx hb dX2_init_0 rfl (lv_at hl 0 rfl) ?_
  refine W.objInit hx hb hown (hts (.methodLink RX2 3 objectInit) (by first | exact gj_X2_init_0 _ (gp_h) | decide +kernel)) (hts (.instanceMethod objectInit) (by first | exact gj_X2_init_0 _ (gp_1 gp_h) | decide +kernel)) (hts _ (List.mem_cons_of_mem _ (List.mem_append_left _ (List.mem_append_left _ (List.mem_of_getElem? (i := 2) rfl))))) rfl (by rw [hml]; exact hl.1) rfl dX2_init_1 (Nat.le_of_ble_eq_true rfl) (Nat.le_of_ble_eq_true rfl) ?_
  refine W.eq (g2 := F0 m 4 ls []) rfl ?_
  refine lv_aload_n hx hb dX2_init_4 rfl (lv_at hl 0 rfl) ?_
  refine lv_bipush (v := jI 80) hx hb dX2_init_5 (by decide) ?_
  refine g_newq (t := 4) (z := 80) hx hb hown (hts (.classLink RX2 9 RX3) (by first | exact gj_X2_init_0 _ (gp_1 (gp_1 (gp_1 gp_h))) | decide +kernel)) hK.2.2.2.2.2.2.1 hK.1 rfl hw hS hbs (by omega) (by omega) (show 0 + 1 ≤ 82 by omega) (show 0 + (80 : Int).toNat ≤ 404 by omega) dX2_init_7 (fun q1 H hw hS => ?_)
  have hw : wx D tc base (ad, cnt, X, Y, ln) (E ++ [(h0, .inr (2, [.null, .int 0, .null, .int 0])), (q1, .inl (tc 4, (80 : Int).toNat, .inr (.inr (.inr (.inr (fun _ => none))))))]) H := hw
  refine W.widen (k := 1) (n := 80) (by omega) (by omega) ?_
  refine g_putF (ci := 2) hx hb hf2 ⟨tyX2_ok, nmX2⟩ hw hS 0 rfl 0 (by decide) lk11 rfl hnm rfl (tyX2_ok 0 (by decide)) rfl rfl (Nat.le_of_ble_eq_true rfl) dX2_init_10 (fun H locs hw hS => ?_)
  have hw : wx D tc base (ad, cnt, X, Y, ln) (E ++ [(h0, .inr (2, [.ref q1, .int 0, .null, .int 0])), (q1, .inl (tc 4, (80 : Int).toNat, .inr (.inr (.inr (.inr (fun _ => none))))))]) H := hw
  refine lv_aload_n hx hb dX2_init_13 rfl (lv_at hl 0 rfl) ?_
  refine lv_iconst (v := jI 4) hx hb dX2_init_14 rfl ?_
  refine g_newa (t := 0) (z := 4) (a0 := ((4 : Int).toNat, .inl (fun _ => 0))) (atype := .int) hx hb (hts (.arrayClass .int) (by first | exact gj_X2_init_0 _ (gp_4 (gp_1 gp_h)) | decide +kernel)) rfl hK.1 rfl hw hS hbs (fun _ => rfl) (by omega) (by omega) (by decide) (show 1 + 1 ≤ 82 by omega) (show 80 + (4 : Int).toNat ≤ 404 by omega) dX2_init_15 (fun q2 H hw hS => ?_)
  have hw : wx D tc base (ad, cnt, X, Y, ln) (E ++ [(h0, .inr (2, [.ref q1, .int 0, .null, .int 0])), (q1, .inl (tc 4, (80 : Int).toNat, .inr (.inr (.inr (.inr (fun _ => none)))))), (q2, .inl (tc 0, (4 : Int).toNat, .inl (fun _ => 0)))]) H := hw
  refine W.widen (k := 2) (n := 84) (by omega) (by omega) ?_
  refine g_putF (ci := 2) hx hb hf2 ⟨tyX2_ok, nmX2⟩ hw hS 0 rfl 2 (by decide) lk17 rfl hnm rfl (tyX2_ok 2 (by decide)) rfl rfl (Nat.le_of_ble_eq_true rfl) dX2_init_17 (fun H locs hw hS => ?_)
  have hw : wx D tc base (ad, cnt, X, Y, ln) (E ++ [(h0, .inr (2, [.ref q1, .int 0, .ref q2, .int 0])), (q1, .inl (tc 4, (80 : Int).toNat, .inr (.inr (.inr (.inr (fun _ => none)))))), (q2, .inl (tc 0, (4 : Int).toNat, .inl (fun _ => 0)))]) H := hw
  have hw := growz (KS := [29, 30, 31]) (n := 0) (f := fun k => if k = 29 then h0 else if k = 30 then q1 else q2) hw (by omega) (fun k hk => by
    simp only [List.mem_cons, List.not_mem_nil, or_false] at hk
    rcases hk with rfl | rfl | rfl
    · exact h29
    · exact h30
    · exact h31) (by decide) hOw hz rfl
  have hJ : JI 0 h0 ad cnt X Y (up2 ad [29, 30, 31] 0 (fun k => if k = 29 then h0 else if k = 30 then q1 else q2)) (upc cnt [29, 30, 31]) Y := by
    refine ⟨by rw [up2_s (by decide)]; rfl, fun k i hk => by rw [up2_k (fun q => hk (List.mem_cons_of_mem _ q))], ⟨by rw [upc_k (by decide), h28], by rw [upc_s (by decide), h29]; rfl, by rw [upc_s (by decide), h30]; rfl, by rw [upc_s (by decide), h31]; rfl⟩, fun k hk => upc_k (fun q => hk (List.mem_cons_of_mem _ q)), fun q g0 g1 => by omega, fun _ _ _ _ => rfl, hOw.up (by decide +kernel) (by decide +kernel), hz.up⟩
  generalize up2 ad [29, 30, 31] 0 (fun k => if k = 29 then h0 else if k = 30 then q1 else q2) = ad1 at hw hJ
  generalize upc cnt [29, 30, 31] = cnt1 at hw hJ
  refine lv_iconst (v := jI 0) hx hb dX2_init_20 rfl ?_
  refine lv_istore_n (lv' := [(1, .int (jI 0)), (0, .ref h0)]) hx hb dX2_init_21 rfl hl (by decide) rfl (fun ls hl => ?_)
  have lp : ∀ (nn : Nat) (n : Int) (ad1 : Nat → Int → Nat) (cnt1 : Nat → Int) (Y1 : Nat → Int → Int → Option Int) (cl sl : Nat) (H : Heap) (locs : List Loc) (ls : Array Slot), 80 - n < (nn : Int) → 0 ≤ n ∧ n ≤ 80 → JI n h0 ad cnt X Y ad1 cnt1 Y1 → (cl : Int) ≤ 2 + n ∧ (sl : Int) ≤ 84 + 4 * n → wx D tc base (ad1, cnt1, X, Y1, ln) E H → va_S (frA base) s.heap H locs → lv_has ls 2 [(1, .int (jI n)), (0, .ref h0)] →
      W p l e ({ frames := 2, cells := 82, slots := 404, locals := 32 } : Room) s m ([.ref h0] : List Value).toArray below meth c H locs cl sl (MQ below (QX D tc base (fun u' E' => ∃ (ad1 : Nat → Int → Nat) (cnt1 : Nat → Int) (Y1 : Nat → Int → Int → Option Int), u' = (ad1, cnt1, X, Y1, ln) ∧ E' = E ∧ JI 80 h0 ad cnt X Y ad1 cnt1 Y1)) ([.ref h0] : List Value).toArray s 82 404 (frA base)) (F0 m 22 ls []) := by
    intro nn
    induction nn with
    | zero => intro n ad1 cnt1 Y1 cl sl H locs ls hm hn; exfalso; omega
    | succ nn ih =>
      intro n ad1 cnt1 Y1 cl sl H locs ls hm hn hJ hcl hw hS hl
      obtain ⟨j1, j2, ⟨c28, c29, c30, c31⟩, j4, j5, j6, j7, j8⟩ := hJ
      refine lv_iload_n hx hb dX2_init_22 rfl (lv_at hl 0 rfl) ?_
      refine lv_bipush (v := jI 80) hx hb dX2_init_23 (by decide) ?_
      refine x_icmp_ge (tgt := 47) hx hb (by omega) (by omega) dX2_init_25 (by decide) (fun hc => ?_) (fun hc => ?_)
      · have e80 : n = 80 := by omega
        subst e80
        exact ret_x hx hb hr hlocks hw hS (by omega) (by omega) dX2_init_47 ⟨ad1, cnt1, Y1, rfl, rfl, j1, j2, ⟨c28, c29, c30, c31⟩, j4, j5, j6, j7, j8⟩
      · refine lv_aload_n hx hb dX2_init_28 rfl (lv_at hl 1 rfl) ?_
        refine W.eq (g2 := F0 m 29 ls [.ref (ad1 29 0)]) (by rw [j1]) ?_
        refine x_geto hx hb hf2 (wx_wd hw) (by omega) (by omega) sl_29_0 lk11 dX2_init_29 ?_
        refine lv_iload_n hx hb dX2_init_32 rfl (lv_at hl 0 rfl) ?_
        refine nx_new (ci := 3) (fs := [.null, .int 0, .long 0, .null]) hx hb hf3 ⟨tyX3_ok, nmX3⟩ (hts (.classLink RX2 9 RX3) (by first | exact gj_X2_init_0 _ (gp_1 (gp_1 (gp_1 gp_h))) | decide +kernel)) (hts (.instantiable RX3 4) (by first | exact gj_X2_init_0 _ (gp_4 (gp_1 (gp_1 (gp_1 gp_h)))) | decide +kernel)) (hts (.initialized RX3) (by first | exact gj_X2_init_0 _ (gp_4 (gp_4 gp_h)) | decide +kernel)) hw hS hbs (fun j hj => by rcases (show j = 0 ∨ j = 1 ∨ j = 2 ∨ j = 3 by omega) with rfl | rfl | rfl | rfl <;> rfl) (by show _ ≤ (82 : Nat); omega) (by show _ ≤ (404 : Nat); omega) dX2_init_33 (fun q H hw hS => ?_)
        refine lv_dup hx hb dX2_init_36 rfl ?_
        refine gos_x (run_IN (As := []) (rest := [.ref q, .int (jI n), .ref (ad1 30 0)]) (host := RX8) hx hb hml hown hts (c_X3_init l D tc base (ad1, cnt1, X, Y1, ln) E q) ⟨va_cnB 0 hts gX2_init_X3_init_n21 rfl rfl rfl hK.2.2.2.2.1.2.2.2 (hts (.initialized RX3) (by first | exact gj_X2_init_0 _ (gp_4 (gp_4 gp_h)) | decide +kernel)) (by decide +kernel) ⟨Nat.le_of_ble_eq_true rfl, Nat.le_of_ble_eq_true rfl⟩, rfl, hts (.instanceMethod yX3_init) (by first | exact gj_X2_init_0 _ (gp_4 (gp_4 (gp_1 gp_h))) | decide +kernel)⟩ hK hw rfl hl.1 rfl (Nat.le_of_ble_eq_true rfl) dX2_init_37 ⟨by show _ ≤ (82 : Nat); omega, by show _ ≤ (404 : Nat); omega⟩) hS (fun u9 E9 H locs p9 hw hS => ?_)
        obtain ⟨rfl, rfl⟩ := p9
        have hw := growz (KS := [28]) (n := n) (f := fun _ => q) hw (by omega) (fun k hk => by rw [List.mem_singleton.mp hk]; exact c28) (by decide) j7 j8 rfl
        have ha : up2 ad1 [28] n (fun _ => q) 28 n = q := up2_s (by decide)
        have hb30 : up2 ad1 [28] n (fun _ => q) 30 0 = ad1 30 0 := by rw [up2_k (by decide)]
        refine W.eq (g2 := F0 m 40 ls [.ref (up2 ad1 [28] n (fun _ => q) 28 n), .int (jI n), .ref (up2 ad1 [28] n (fun _ => q) 30 0)]) (by rw [ha, hb30]) ?_
        have k28 : upc cnt1 [28] 28 = n + 1 := by rw [upc_s (by decide), c28]
        have k30 : upc cnt1 [28] 30 = 1 := by rw [upc_k (by decide), c30]
        refine nx_aast hx hb hK.1 hw hS hbs (by omega) (by omega) ar_30 rfl rfl sl_28_0 (len_E ar_30 (by decide)) (by omega) (by omega) (by omega) (by omega) (by omega) dX2_init_40 (fun H locs hw hS => ?_)
        refine lv_iinc (v := jI (n + 1)) (lv' := [(1, .int (jI (n + 1))), (0, .ref h0)]) hx hb dX2_init_41 hl (k := 0) rfl (jI_add _ _) (by decide) rfl (fun ls hl => ?_)
        refine lv_goto (tgt := 22) hx hb dX2_init_44 (by decide) ?_
        refine ih (n + 1) _ _ _ _ _ _ _ _ (by omega) (by omega) ⟨?_, fun k i hk => ?_, ⟨k28, by rw [upc_k (by decide), c29], k30, by rw [upc_k (by decide), c31]⟩, fun k hk => ?_, fun q' g0 g1 => ?_, fun k i j hk => ?_, j7.up (by decide +kernel) (by decide +kernel), j8.up.setY (by omega) (by omega)⟩ (by omega) hw hS hl
        · rw [up2_k (by decide)]; exact j1
        · rw [up2_k (fun q => hk (by rw [List.mem_singleton.mp q]; decide))]; exact j2 k i hk
        · rw [upc_k (fun q => hk (by rw [List.mem_singleton.mp q]; decide))]; exact j4 k hk
        · by_cases hq : q' = n
          · rw [hq]; exact u3_s _ _ _ _ _
          · rw [u3_j _ _ _ _ hq]; exact j5 q' g0 (by omega)
        · rw [u3_k _ _ _ _ hk]; exact j6 k i j hk
  exact lp 81 0 ad1 cnt1 Y 2 84 _ _ _ (by omega) (by omega) hJ (by omega) hw hS hl
end
section
/-! new cells, told by their own addresses -/
section RW2
variable {D : va_G} {tc : Nat → ClassId} {base : Nat} {E F : va_W} {H : Heap} {ad : Nat → Int → Nat} {cnt : Nat → Int} {X : Nat → Int → Int → Int} {Y : Nat → Int → Int → Option Int} {ln : Int → Int} {KS : List Nat} {n : Int} {f : Nat → Nat} {k : Nat}
theorem rawE_congr {g g' : Nat → Nat} (h : ∀ t, (k, t) ∈ ownL → g t = g' t) : rawE tc g k = rawE tc g' k := by
  unfold rawE
  split
  · rfl
  · congr 2
    refine List.map_congr_left (fun j hj => ?_)
    unfold rawV
    split
    · rfl
    · split
      · rfl
      · split
        · rename_i h3
          rw [h (slo k j).2 (own_mem (j := j) (by rw [← h3]))]
        · rfl
theorem growz2 (hw : wx D tc base (ad, cnt, X, Y, ln) (E ++ F) H) (h0 : 0 ≤ n) (hn : ∀ k ∈ KS, cnt k = n) (h27 : 27 ∉ KS) (ho : Own cnt) (hz : Zr cnt X Y) (hcl : ∀ p ∈ ownL, p.1 ∈ KS → p.2 ∈ KS) (hF : F = KS.map fun k => (f k, rawE tc f k)) : wx D tc base (up2 ad KS n f, upc cnt KS, X, Y, ln) E H := by
  refine growz hw h0 hn h27 ho hz ?_
  rw [hF]
  refine List.map_congr_left (fun k hk => ?_)
  rw [rawE_congr (g' := fun t => up2 ad KS n f t n) (fun t ht => (up2_s (hcl (k, t) ht hk)).symm)]
end RW2
end
