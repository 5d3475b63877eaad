/-! verdicts, saves, likeness, differences: both sides -/
section JS2
variable {cnt cnt1 : Nat → Int} {X X1 X2 : Nat → Int → Int → Int} {Y Y1 : Nat → Int → Int → Option Int} {ln ln1 : Int → Int} {c c1 : Int} {L N K : List Nat}
theorem J_judge {z z2 x : Int} (h : RC cnt X Y ln) (hMI : MInv X) (hR : Rng X) (hR1 : Rng X1) (hLn : LnL ln) (hN9 : 0 ≤ cnt 25 ∧ 0 ≤ cnt 26) (hF : Frm [] X X1) (p : ((¬ (0 ≤ x ∧ x < X 0 0 3) ∧ z = -1) ∨ ((0 ≤ x ∧ x < X 0 0 3) ∧ ∃ how, jdC X Y ln x how ∧ ((how = 0 ∧ z = 1) ∨ (how ≠ 0 ∧ z = -10 - how)))) ∧ X1 = X) (hG : Frm [4001, 4029] X1 X2) (hM2 : MInv X2) (q : ((¬ (0 ≤ x ∧ x < X1 40 0 13) ∧ z2 = -1) ∨ ((0 ≤ x ∧ x < X1 40 0 13) ∧ ∃ how, jdM X1 x how ∧ ((how = 0 ∧ z2 = 1) ∨ (how ≠ 0 ∧ z2 = -10 - how))))) (hCI : CInv cnt X Y ln) : RC cnt X2 Y ln ∧ z = z2 := by
  obtain ⟨⟨hT, hM, hW, hC, hf⟩, hB, hK, hS, h6, hN⟩ := id h
  obtain ⟨p, eX⟩ := p
  rw [eX] at hG q
  refine ⟨RC_of (L := []) (N := []) (X1 := X) h Frm.rf Frm.rf hG (by decide) (by decide) (by decide) (Int.le_refl _) (hB.mdl hG (by decide) (by decide)), ?_⟩
  have h3 := hB.1.1.1
  have hty : ∀ t, 0 ≤ t → t < X 0 0 1 → X 19 t 0 = t := fun t a b => (hCI.2.2.2.1.2 t a b).2
  rcases p with ⟨p1, p2⟩ | ⟨p1, how, p3, p4⟩ <;> rcases q with ⟨q1, q2⟩ | ⟨q1, how2, q3, q4⟩
  · omega
  · omega
  · omega
  · have e := jd_eq hB.1 hT hf hC hK hMI hR hLn hty q1 p3 q3
    omega
theorem J_save {z z2 sv x : Int} (h : RC cnt X Y ln) (hMI : MInv X) (hR : Rng X) (hR1 : Rng X1) (hLn : LnL ln) (hN9 : 0 ≤ cnt 25 ∧ 0 ≤ cnt 26) (hF : Frm [701, 707, 800, 900, 1000, 1100, 1200, 1300, 1400, 1504, 2602, 3201, 3202, 3203, 3204] X X1) (hH : Frm [500, 400, 7] Y Y1) (p : cRv X1 ∧ ((¬ ((0 ≤ sv ∧ sv < 4) ∧ (0 ≤ x ∧ x < X 0 0 3)) ∧ z = -1 ∧ X1 = X ∧ Y1 = Y) ∨ (((0 ≤ sv ∧ sv < 4) ∧ (0 ≤ x ∧ x < X 0 0 3)) ∧ ∃ (q : Int) (W : Nat → Int → Int → Int) (V : Nat → Int → Int → Option Int) (zs : Int), Y 0 0 6 = some q ∧ (0 ≤ q ∧ q < 6) ∧ rcT W V q (recR (cFc X Y) (cLa X Y) (cVl X Y) (cRid Y) x 30) ∧ rcR W V ln q (recR (cFc X Y) (cLa X Y) (cVl X Y) (cRid Y) x 30) ∧ rcV W V q (recR (cFc X Y) (cLa X Y) (cVl X Y) (cRid Y) x 30) (recR (cFc X Y) (cLa X Y) (cVl X Y) (cRid Y) x 30 0 0) 0 ∧ gK q X W ∧ Frm [701, 707, 800, 900, 1000, 1100, 1200, 1300, 1400, 1504, 2602] X W ∧ Frm [500] Y V ∧ ((zs = -1 ∧ ∀ r x k, 0 ≤ r → r < W 7 q 0 → V 5 0 r = some x → 0 ≤ k → k < cFc W V x → W 23 (tyo (V 15 x 0)) k = 0) ∨ (0 ≤ zs ∧ ∃ r x k, 0 ≤ r ∧ r < W 7 q 0 ∧ V 5 0 r = some x ∧ 0 ≤ k ∧ k < cFc W V x ∧ W 23 (tyo (V 15 x 0)) k ≠ 0)) ∧ ((0 ≤ zs ∧ z = -20 ∧ Frm [3201, 3202, 3203, 3204] W X1 ∧ Y1 = V) ∨ (zs = -1 ∧ z = W 7 q 0 ∧ X1 = W ∧ ∃ q2, Y 4 0 sv = some q2 ∧ Y1 = u3 (u3 V 4 0 sv (some q)) 0 0 6 (some q2)))))) (hG : Frm [4001, 7100, 7200, 7300, 7400, 7500, 8000, 7000, 8100, 7700, 7800, 7900, 7600, 4042, 4043, 4044] X1 X2) (hM2 : MInv X2) (q : ((¬ ((0 ≤ sv ∧ sv < 4) ∧ (0 ≤ x ∧ x < X1 40 0 13)) ∧ z2 = -1 ∧ Frm [4001] X1 X2) ∨ (((0 ≤ sv ∧ sv < 4) ∧ (0 ≤ x ∧ x < X1 40 0 13)) ∧ z2 = -20 ∧ (∃ r k, 0 ≤ r ∧ r < recR (fcM X1) (lnM X1) (mRid X1) (mRid X1) x 30 0 0 ∧ 0 ≤ k ∧ k < fcM X1 (recR (fcM X1) (lnM X1) (mRid X1) (mRid X1) x 30 1 r) ∧ X1 48 0 (5 * X1 55 0 (recR (fcM X1) (lnM X1) (mRid X1) (mRid X1) x 30 1 r) + k) ≠ 0) ∧ S4 X1 X2 ∧ S5 X1 X2) ∨ (((0 ≤ sv ∧ sv < 4) ∧ (0 ≤ x ∧ x < X1 40 0 13)) ∧ z2 = recR (fcM X1) (lnM X1) (mRid X1) (mRid X1) x 30 0 0 ∧ 0 ≤ z2 ∧ (∀ r k, 0 ≤ r → r < recR (fcM X1) (lnM X1) (mRid X1) (mRid X1) x 30 0 0 → 0 ≤ k → k < fcM X1 (recR (fcM X1) (lnM X1) (mRid X1) (mRid X1) x 30 1 r) → X1 48 0 (5 * X1 55 0 (recR (fcM X1) (lnM X1) (mRid X1) (mRid X1) x 30 1 r) + k) = 0) ∧ ∃ E : Nat → Int → Int → Int, rmT E (recR (fcM X1) (lnM X1) (mRid X1) (mRid X1) x 30) ∧ rmR E (recR (fcM X1) (lnM X1) (mRid X1) (mRid X1) x 30) ∧ rmV E (recR (fcM X1) (lnM X1) (mRid X1) (mRid X1) x 30) (recR (fcM X1) (lnM X1) (mRid X1) (mRid X1) x 30 0 0) 0 ∧ S4 X1 E ∧ S5 X1 E ∧ mSt X1 E ∧ E 57 = X1 57 ∧ E 58 = X1 58 ∧ E 59 = X1 59 ∧ E 56 = X1 56 ∧ svC E X2 sv))) (hR2 : Rng X2) : RC cnt X2 Y1 ln ∧ z = z2 := by
  obtain ⟨⟨hT, hM, hW, hC, hf⟩, hB, hK, hS, h6, hN⟩ := id h
  have hi := hF.hi (by decide)
  have e40 := hi 40 (by decide)
  have h3 := hB.1.1.1
  obtain ⟨-, p⟩ := p
  have fin : rS X2 Y1 X2 → rA6 Y1 → RC cnt X2 Y1 ln := fun a b => ⟨⟨(hT.frm hF (by decide)).frm hG (by decide), (hM.frm hF (by decide)).frm hG (by decide), (hW.frm hF (by decide)).frm hG (by decide), (hC.frm hF (by decide)).frm hG (by decide), (hf.frm hF (by decide)).frm hG (by decide)⟩, (hB.cls hF hH (by decide) (by decide) (by decide)).mdl hG (by decide) (by decide), (hK.frm hF hH (by decide) (by decide) (Int.le_refl _)).frm (N := []) hG Frm.rf (by decide) (by decide) (Int.le_refl _), a, b, (hN.frm hF (by decide)).frm hG (by decide)⟩
  obtain ⟨d1, d2, d3⟩ := rdr_eq hF (by decide)
  rw [d1, d2, d3, e40, hi 48 (by decide), hi 55 (by decide)] at q
  by_cases hc : (0 ≤ sv ∧ sv < 4) ∧ (0 ≤ x ∧ x < X 40 0 13)
  · rcases p with ⟨p0, -⟩ | ⟨-, g, W, V, zs, e6, g6, cT, cR, cV, kG, kF, kV, psh, pe⟩
    · exact absurd (by rw [h3]; exact hc) p0
    have eS := recR_alk (alkX hB.1 hT hf hMI hR) (fun y _ _ => (hR 44 0 _).1) hc.2 30
    rw [← eS.1] at cT cR cV
    obtain ⟨S, hSd⟩ : ∃ S, S = recR (fcM X) (lnM X) (mRid X) (mRid X) x 30 := ⟨_, rfl⟩
    rw [← hSd] at cT cR cV q eS
    have hI := eS.2
    have cS := cSt.of kF kV (by decide) (by decide)
    have fcE : ∀ r, 0 ≤ r → r < S 0 0 → cFc W V (S 1 r) = fcM X (S 1 r) := fun r r0 r1 => by
      obtain ⟨b1, b2, b3, b4⟩ := bridge hB.1.1 hT hf hMI hR (hI.2.1 r r0 r1).1 (hI.2.1 r r0 r1).2
      unfold cFc
      rw [cS.2.2.2, b1, cS.1]
      exact b2
    have sh : ∀ r k, 0 ≤ r → r < S 0 0 → 0 ≤ k → k < fcM X (S 1 r) → W 23 (tyo (V 15 (S 1 r) 0)) k = X 48 0 (5 * X 55 0 (S 1 r) + k) := fun r k r0 r1 k0 k1 => by
      obtain ⟨b1, b2, b3, b4⟩ := bridge hB.1.1 hT hf hMI hR (hI.2.1 r r0 r1).1 (hI.2.1 r r0 r1).2
      rw [kF.arr 23 (by decide +kernel) (by decide), cS.2.2.2, b1]
      exact (b4 k k0 k1).2.2.2
    rcases psh with ⟨z0, nosh⟩ | ⟨z0, r, y, k, r0, r1, e5, k0, k1, ne⟩
    · rcases q with ⟨q0, -⟩ | ⟨-, -, ⟨r, k, r0, r1, k0, k1, ne⟩, -⟩ | ⟨-, q2, q3, -, E, mT, mR, mV, s4, s5, mS, e57, e58, e59, e56, hsv⟩
      · exact absurd hc q0
      · exfalso
        have h9 := nosh r (S 1 r) k r0 (by rw [cT.1]; exact r1) (cT.2.1 r r0 r1).1 k0 (by rw [fcE r r0 r1]; exact k1)
        rw [sh r k r0 r1 k0 k1] at h9
        exact ne h9
      · rcases pe with ⟨w, -⟩ | ⟨-, pz, eX, g2, e2, eY⟩
        · omega
        · have r70 : 0 ≤ X2 70 0 sv ∧ X2 70 0 sv ≤ 30 := hR2 70 0 sv
          have r76 : 0 ≤ X2 76 0 sv ∧ X2 76 0 sv ≤ 150 := hR2 76 0 sv
          have s70 := hsv.1
          have s76 := hsv.2.1
          have t70 := mT.1
          have hsvE : rSv W E g 4 := rec_sv hB.1 hT hf hMI hR hLn hN hc.2 hSd cT cR cV cS (kF.arr 27 (by decide +kernel) (by decide)) (kV.arr 17 (by decide +kernel) (by decide)) mT mR mV ⟨mS.1.trans (hi 44 (by decide)), mS.2.1.trans (hi 45 (by decide)), mS.2.2.1.trans (hi 46 (by decide)), mS.2.2.2.trans (hi 55 (by decide))⟩ (e56.trans (hi 56 (by decide))) (e57.trans (hi 57 (by decide))) (e58.trans (hi 58 (by decide))) (e59.trans (hi 59 (by decide))) (by omega)
          have v4 : ∀ i, V 4 0 i = Y 4 0 i := fun i => kV 4 0 i (show 400 ∉ _ by decide)
          have v6 : V 0 0 6 = Y 0 0 6 := kV 0 0 6 (show 7 ∉ _ by decide)
          have f4s : Y1 4 0 sv = some g := by rw [eY, u3_k _ _ _ _ (by decide), u3_s]
          have f4 : ∀ i, i ≠ sv → Y1 4 0 i = V 4 0 i := fun i hn => by
            rw [eY, u3_k _ _ _ _ (by decide)]
            simp only [u3]
            rw [if_neg (fun w => hn w.2.2)]
          have f6 : Y1 0 0 6 = some g2 := by rw [eY, u3_s]
          have f7 : Y1 0 0 7 = V 0 0 7 := by
            rw [eY]
            simp only [u3]
            rw [if_neg (by decide), if_neg (fun w => absurd w.1 (by decide))]
          have hGW := hG
          rw [eX] at hGW
          refine ⟨fin (fun s g' s0 s1 e => ?_) ((h6.frm kV (by decide)).swap (sv := sv) hc.1 ((v4 sv).trans e2) (v6.trans e6) f4 f4s f6 f7), by rw [pz, q2, cT.1]⟩
          by_cases es : s = sv
          · rw [es, f4s] at e
            rw [es, ← Option.some.inj e]
            exact hsvE.mv (sl2.svn hsv) hR2 (KE.frm hGW (by decide) g)
          · have e' : Y 4 0 s = some g' := by
              rw [← v4, ← f4 s es]
              exact e
            have t70' : 0 ≤ X1 70 0 s ∧ X1 70 0 s ≤ 30 := hR1 70 0 s
            have t76' : 0 ≤ X1 76 0 s ∧ X1 76 0 s ≤ 150 := hR1 76 0 s
            have u70 := s4.1 s (by omega)
            have u76 := s5.1 s (by omega)
            exact (hS s g' s0 s1 e').mv (((sl2.of45 s4 s5 ⟨s0, s1⟩ hR1).tr (sl2.svo hsv (by omega) (by omega) (by omega) (by omega) es)).hi hi) hR2 ((gK.e kG (sl6_ne h6 ⟨s0, s1⟩ e' e6)).tr (KE.frm hGW (by decide) g'))
    · rw [cT.1] at r1
      have e5' := (cT.2.1 r r0 r1).1
      rw [e5'] at e5
      have ey := Option.some.inj e5
      rw [← ey] at k1 ne
      rw [fcE r r0 r1] at k1
      rw [sh r k r0 r1 k0 k1] at ne
      rcases q with ⟨q0, -⟩ | ⟨-, q2, -, s4, s5⟩ | ⟨-, -, -, no, -⟩
      · exact absurd hc q0
      · rcases pe with ⟨-, pz, f3, eY⟩ | ⟨w, -⟩
        · refine ⟨fin (fun s g' s0 s1 e => ?_) (by rw [eY]; exact h6.frm kV (by decide)), by omega⟩
          have e' : Y 4 0 s = some g' := by
            rw [eY, kV 4 0 s (show 400 ∉ _ by decide)] at e
            exact e
          exact (hS s g' s0 s1 e').mv ((sl2.of45 s4 s5 ⟨s0, s1⟩ hR1).hi hi) hR2 (((gK.e kG (sl6_ne h6 ⟨s0, s1⟩ e' e6)).tr (KE.frm f3 (by decide) g')).tr (KE.frm hG (by decide) g'))
        · omega
      · exact absurd (no r k r0 r1 k0 k1) ne
  · rcases p with ⟨-, pz, eX, eY⟩ | ⟨pc, -⟩
    · rcases q with ⟨-, qz, qf⟩ | ⟨qc, -⟩ | ⟨qc, -⟩
      · rw [eX] at qf
        rw [eY]
        exact ⟨RC_of (L := []) (N := []) (X1 := X) h Frm.rf Frm.rf qf (by decide) (by decide) (by decide) (Int.le_refl _) (hB.mdl qf (by decide) (by decide)), by omega⟩
      · exact absurd qc hc
      · exact absurd qc hc
    · exact absurd (by rw [← h3]; exact pc) hc
theorem J_like {z z2 x y : Int} (h : RC cnt X Y ln) (hMI : MInv X) (hR : Rng X) (hR1 : Rng X1) (hLn : LnL ln) (hN9 : 0 ≤ cnt 25 ∧ 0 ≤ cnt 26) (hF : Frm [701, 707, 800, 900, 1000, 1100, 1200, 1300, 1400, 1504, 2602] X X1) (hH : Frm [500] Y Y1) (p : cRv X1 ∧ ((X1 = X ∧ Y1 = Y) ∨ ∃ (q q2 : Int) (W : Nat → Int → Int → Int), Y 0 0 6 = some q ∧ Y 0 0 7 = some q2 ∧ gK q X W ∧ gK q2 W X1)) (hG : Frm [4001, 8600, 8700, 9000, 4051, 8800, 8900] X1 X2) (hM2 : MInv X2) (q : True) (hR2 : Rng X2) : RC cnt X2 Y1 ln := by
  obtain ⟨⟨hT, hM, hW, hC, hf⟩, hB, hK, hS, h6, hN⟩ := id h
  have hi := hF.hi (by decide)
  obtain ⟨-, p⟩ := p
  have fin : rS X2 Y1 X2 → rA6 Y1 → RC cnt X2 Y1 ln := fun a b => ⟨⟨(hT.frm hF (by decide)).frm hG (by decide), (hM.frm hF (by decide)).frm hG (by decide), (hW.frm hF (by decide)).frm hG (by decide), (hC.frm hF (by decide)).frm hG (by decide), (hf.frm hF (by decide)).frm hG (by decide)⟩, (hB.cls hF hH (by decide) (by decide) (by decide)).mdl hG (by decide) (by decide), (hK.frm hF hH (by decide) (by decide) (Int.le_refl _)).frm (N := []) hG Frm.rf (by decide) (by decide) (Int.le_refl _), a, b, (hN.frm hF (by decide)).frm hG (by decide)⟩
  refine fin (fun s g' s0 s1 e => ?_) (h6.frm hH (by decide))
  have e' : Y 4 0 s = some g' := by
    rw [← hH 4 0 s (show 400 ∉ _ by decide)]
    exact e
  have kE : KE X X1 g' := by
    rcases p with ⟨eX, -⟩ | ⟨a, b, W, e6, e7, k1, k2⟩
    · rw [eX]
      exact KE.rf
    · exact (gK.e k1 (sl6_ne h6 ⟨s0, s1⟩ e' e6)).tr (gK.e k2 (sl6_ne7 h6 ⟨s0, s1⟩ e' e7))
  exact (hS s g' s0 s1 e').mv ((sl2.frm hG (by decide)).hi hi) hR2 (kE.tr (KE.frm hG (by decide) g'))
theorem J_differs {z z2 sv x : Int} (h : RC cnt X Y ln) (hMI : MInv X) (hR : Rng X) (hR1 : Rng X1) (hLn : LnL ln) (hN9 : 0 ≤ cnt 25 ∧ 0 ≤ cnt 26) (hF : Frm [701, 707, 800, 900, 1000, 1100, 1200, 1300, 1400, 1504, 2602] X X1) (hH : Frm [500] Y Y1) (p : cRv X1 ∧ ((¬ ((0 ≤ sv ∧ sv < 4) ∧ X 7 (tyo (Y 4 0 sv)) 0 ≠ 0 ∧ (0 ≤ x ∧ x < X 0 0 3)) ∧ z = -2 ∧ X1 = X ∧ Y1 = Y) ∨ (((0 ≤ sv ∧ sv < 4) ∧ X 7 (tyo (Y 4 0 sv)) 0 ≠ 0 ∧ (0 ≤ x ∧ x < X 0 0 3)) ∧ ∃ (q q2 : Int), Y 0 0 6 = some q ∧ Y 4 0 sv = some q2 ∧ (rcT X1 Y1 q (recR (cFc X Y) (cLa X Y) (cVl X Y) (cRid Y) x 30) ∧ rcR X1 Y1 ln q (recR (cFc X Y) (cLa X Y) (cVl X Y) (cRid Y) x 30) ∧ rcV X1 Y1 q (recR (cFc X Y) (cLa X Y) (cVl X Y) (cRid Y) x 30) (recR (cFc X Y) (cLa X Y) (cVl X Y) (cRid Y) x 30 0 0) 0) ∧ gK q X X1 ∧ dfP (mxC X1 q2 q) (shC X1 q2 q) (fun r => X1 9 q2 r) (fun r f => vqC X1 q2 q (5 * r + f)) (fun r f => X1 10 q2 (5 * r + f)) z))) (hG : Frm [4001, 7100, 7200, 7300, 7400, 7500, 8000, 7000, 8100, 7700, 7800, 7900, 7600, 4042, 4043, 4044] X1 X2) (hM2 : MInv X2) (q : S4 X1 X2 ∧ S5 X1 X2 ∧ ((¬ ((0 ≤ sv ∧ sv < 4) ∧ X1 70 0 sv ≠ 0 ∧ (0 ≤ x ∧ x < X1 40 0 13)) ∧ z2 = -2) ∨ (((0 ≤ sv ∧ sv < 4) ∧ X1 70 0 sv ≠ 0 ∧ (0 ≤ x ∧ x < X1 40 0 13)) ∧ (rmT X2 (recR (fcM X1) (lnM X1) (mRid X1) (mRid X1) x 30) ∧ rmR X2 (recR (fcM X1) (lnM X1) (mRid X1) (mRid X1) x 30) ∧ rmV X2 (recR (fcM X1) (lnM X1) (mRid X1) (mRid X1) x 30) (recR (fcM X1) (lnM X1) (mRid X1) (mRid X1) x 30 0 0) 0) ∧ dfP (mxM X2 sv) (shM X2 sv) (fun r => X2 72 0 (30 * sv + r)) (vqM X2 sv) (fun r f => X2 73 0 (5 * (30 * sv + r) + f)) z2))) (hR2 : Rng X2) : RC cnt X2 Y1 ln ∧ z = z2 := by
  obtain ⟨⟨hT, hM, hW, hC, hf⟩, hB, hK, hS, h6, hN⟩ := id h
  have hi := hF.hi (by decide)
  have e40 := hi 40 (by decide)
  have h3 := hB.1.1.1
  obtain ⟨-, p⟩ := p
  obtain ⟨s4, s5, q⟩ := q
  have fin : rS X2 Y1 X2 → rA6 Y1 → RC cnt X2 Y1 ln := fun a b => ⟨⟨(hT.frm hF (by decide)).frm hG (by decide), (hM.frm hF (by decide)).frm hG (by decide), (hW.frm hF (by decide)).frm hG (by decide), (hC.frm hF (by decide)).frm hG (by decide), (hf.frm hF (by decide)).frm hG (by decide)⟩, (hB.cls hF hH (by decide) (by decide) (by decide)).mdl hG (by decide) (by decide), (hK.frm hF hH (by decide) (by decide) (Int.le_refl _)).frm (N := []) hG Frm.rf (by decide) (by decide) (Int.le_refl _), a, b, (hN.frm hF (by decide)).frm hG (by decide)⟩
  have kE : ∀ s g', 0 ≤ s → s < 4 → Y 4 0 s = some g' → KE X X1 g' := fun s g' s0 s1 e' => by
    rcases p with ⟨-, -, eX, -⟩ | ⟨-, a, b, e6, -, -, kG, -⟩
    · rw [eX]
      exact KE.rf
    · exact gK.e kG (sl6_ne h6 ⟨s0, s1⟩ e' e6)
  have rs : rS X2 Y1 X2 := fun s g' s0 s1 e => by
    have e' : Y 4 0 s = some g' := by
      rw [← hH 4 0 s (show 400 ∉ _ by decide)]
      exact e
    exact (hS s g' s0 s1 e').mv ((sl2.of45 s4 s5 ⟨s0, s1⟩ hR1).hi hi) hR2 ((kE s g' s0 s1 e').tr (KE.frm hG (by decide) g'))
  refine ⟨fin rs (h6.frm hH (by decide)), ?_⟩
  have sv7 : 0 ≤ sv → sv < 4 → X 7 (tyo (Y 4 0 sv)) 0 = X 70 0 sv := fun a b => by
    obtain ⟨g, g1, -⟩ := h6.1 sv a (by omega)
    unfold sl6 at g1
    rw [if_pos b] at g1
    rw [tyo_some g1]
    exact (hS sv g a b g1).1
  obtain ⟨d1, d2, d3⟩ := rdr_eq hF (by decide)
  rw [d1, d2, d3, e40, hi 70 (by decide)] at q
  rcases p with ⟨pn, pz, -⟩ | ⟨pc, g, g2, e6, e2, ⟨cT, cR, cV⟩, kG, pd⟩
  · rcases q with ⟨-, qz⟩ | ⟨qc, -⟩
    · omega
    · exact absurd ⟨qc.1, by rw [sv7 qc.1.1 qc.1.2]; exact qc.2.1, by rw [h3]; exact qc.2.2⟩ pn
  · rcases q with ⟨qn, -⟩ | ⟨qc, ⟨mT, mR, mV⟩, qd⟩
    · exact absurd ⟨pc.1, by rw [← sv7 pc.1.1 pc.1.2]; exact pc.2.1, by rw [← h3]; exact pc.2.2⟩ qn
    · have eS := recR_alk (alkX hB.1 hT hf hMI hR) (fun y _ _ => (hR 44 0 _).1) qc.2.2 30
      rw [← eS.1] at cT cR cV
      have r70 : 0 ≤ X2 70 0 4 ∧ X2 70 0 4 ≤ 30 := hR2 70 0 4
      have t70 := mT.1
      have pp := recR_pos (fc := fcM X) (la := lnM X) (vl := mRid X) (rid := mRid X) (x := x) 30
      have hg : ∀ κ, 40 ≤ κ → κ < 60 → κ ≠ 40 → (lay κ).1 = 0 → κ * 100 ∉ [4001, 7100, 7200, 7300, 7400, 7500, 8000, 7000, 8100, 7700, 7800, 7900, 7600, 4042, 4043, 4044] → X2 κ = X κ := fun κ a _ _ l n => (hG.arr κ l n).trans (hi κ a)
      have r2 : rSv X1 X2 g 4 := rec_sv hB.1 hT hf hMI hR hLn hN qc.2.2 rfl cT cR cV (cSt.of hF hH (by decide) (by decide)) (hF.arr 27 (by decide +kernel) (by decide)) (hH.arr 17 (by decide +kernel) (by decide)) mT mR mV ⟨hg 44 (by decide) (by decide) (by decide) (by decide +kernel) (by decide), hg 45 (by decide) (by decide) (by decide) (by decide +kernel) (by decide), hg 46 (by decide) (by decide) (by decide) (by decide +kernel) (by decide), hg 55 (by decide) (by decide) (by decide) (by decide +kernel) (by decide)⟩ (hg 56 (by decide) (by decide) (by decide) (by decide +kernel) (by decide)) (hg 57 (by decide) (by decide) (by decide) (by decide +kernel) (by decide)) (hg 58 (by decide) (by decide) (by decide) (by decide +kernel) (by decide)) (hg 59 (by decide) (by decide) (by decide) (by decide +kernel) (by decide)) (by omega)
      have r1 : rSv X1 X2 g2 sv := (hS sv g2 qc.1.1 qc.1.2 e2).mv ((sl2.of45 s4 s5 qc.1 hR1).hi hi) hR2 (kE sv g2 qc.1.1 qc.1.2 e2)
      have q70 : X2 70 0 sv = X 70 0 sv := by rw [s4.1 sv (by omega), hi 70 (by decide)]
      have r70s : 0 ≤ X2 70 0 sv ∧ X2 70 0 sv ≤ 30 := hR2 70 0 sv
      have q71 := qc.2.1
      exact df_eq r1 r2 qc.1 hM2 (by omega) (by omega) pd qd
end JS2

