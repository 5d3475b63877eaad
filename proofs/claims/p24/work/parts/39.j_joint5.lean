section JL5
variable {cnt : Nat → Int} {X X1 X2 : Nat → Int → Int → Int} {Y Y1 : Nat → Int → Int → Option Int} {ln : Int → Int}
theorem J_like {z z2 x y : Int} (h : RC cnt X Y ln) (hMI : MInv X) (hR : Rng X) (hR1 : Rng X1) (hLn : LnL ln) (hN9 : 0 ≤ cnt 25 ∧ 0 ≤ cnt 26) (hF : Frm [701, 707, 800, 900, 1000, 1100, 1200, 1300, 1400, 1504, 2602] X X1) (hH : Frm [500] Y Y1) (p : cRv X1 ∧ ((¬ ((0 ≤ x ∧ x < X 0 0 3) ∧ (0 ≤ y ∧ y < X 0 0 3)) ∧ z = -1 ∧ X1 = X ∧ Y1 = Y) ∨ (((0 ≤ x ∧ x < X 0 0 3) ∧ (0 ≤ y ∧ y < X 0 0 3)) ∧ ∃ (q q2 : Int) (W : Nat → Int → Int → Int) (V : Nat → Int → Int → Option Int) (d : Int), Y 0 0 6 = some q ∧ Y 0 0 7 = some q2 ∧ gK q X W ∧ gK q2 W X1 ∧ (Frm [701, 707, 800, 900, 1000, 1100, 1200, 1300, 1400, 1504, 2602] X W ∧ Frm [500] Y V) ∧ (Frm [701, 707, 800, 900, 1000, 1100, 1200, 1300, 1400, 1504, 2602] W X1 ∧ Frm [500] V Y1) ∧ (rcT W V q (recR (cFc X Y) (cLa X Y) (cVl X Y) (cRid Y) x 30) ∧ rcR W V ln q (recR (cFc X Y) (cLa X Y) (cVl X Y) (cRid Y) x 30) ∧ rcV W V q (recR (cFc X Y) (cLa X Y) (cVl X Y) (cRid Y) x 30) (recR (cFc X Y) (cLa X Y) (cVl X Y) (cRid Y) x 30 0 0) 0) ∧ (rcT X1 Y1 q2 (recR (cFc W V) (cLa W V) (cVl W V) (cRid V) y 30) ∧ rcR X1 Y1 ln q2 (recR (cFc W V) (cLa W V) (cVl W V) (cRid V) y 30) ∧ rcV X1 Y1 q2 (recR (cFc W V) (cLa W V) (cVl W V) (cRid V) y 30) (recR (cFc W V) (cLa W V) (cVl W V) (cRid V) y 30 0 0) 0) ∧ dfP (mxC X1 q q2) (shC X1 q q2) (fun r => X1 9 q r) (fun r f => vqC X1 q q2 (5 * r + f)) (fun r f => X1 10 q (5 * r + f)) d ∧ ((z = 1 ∧ d = -1) ∨ (z = 0 ∧ d ≠ -1))))) (hG : Frm [4001, 8600, 8700, 9000, 4051, 8800, 8900] X1 X2) (hM2 : MInv X2) (q : ((¬ ((0 ≤ x ∧ x < X1 40 0 13) ∧ (0 ≤ y ∧ y < X1 40 0 13)) ∧ z2 = -1) ∨ (((0 ≤ x ∧ x < X1 40 0 13) ∧ (0 ≤ y ∧ y < X1 40 0 13)) ∧ ((z2 = 1 ∧ EQX X1 x y) ∨ (z2 = 0 ∧ ¬ EQX X1 x y))))) (hR2 : Rng X2) : RC cnt X2 Y1 ln ∧ z = z2 := by
  obtain ⟨⟨hT, hM, hW, hC, hf⟩, hB, hK, hS, h6, hN⟩ := id h
  have hi := hF.hi (by first | decide +kernel | decide)
  have h3 := hB.1.1.1
  obtain ⟨hRv, p⟩ := p
  have fin : rS X2 Y1 X2 → rA6 Y1 → RC cnt X2 Y1 ln := fun a b => ⟨⟨(hT.frm hF (by first | decide +kernel | decide)).frm hG (by first | decide +kernel | decide), (hM.frm hF (by first | decide +kernel | decide)).frm hG (by first | decide +kernel | decide), (hW.frm hF (by first | decide +kernel | decide)).frm hG (by first | decide +kernel | decide), (hC.frm hF (by first | decide +kernel | decide)).frm hG (by first | decide +kernel | decide), (hf.frm hF (by first | decide +kernel | decide)).frm hG (by first | decide +kernel | decide)⟩, (hB.cls hF hH (by first | decide +kernel | decide) (by first | decide +kernel | decide) (by first | decide +kernel | decide)).mdl hG (by first | decide +kernel | decide) (by first | decide +kernel | decide), (hK.frm hF hH (by first | decide +kernel | decide) (by first | decide +kernel | decide) (Int.le_refl _)).frm (N := []) hG Frm.rf (by first | decide +kernel | decide) (by first | decide +kernel | decide) (Int.le_refl _), a, b, (hN.frm hF (by first | decide +kernel | decide)).frm hG (by first | decide +kernel | decide)⟩
  refine ⟨fin (fun s g' s0 s1 e => ?_) (h6.frm hH (by first | decide +kernel | decide)), ?_⟩
  · have e' : Y 4 0 s = some g' := by
      rw [← hH 4 0 s (show 400 ∉ _ by decide)]
      exact e
    have kE : KE X X1 g' := by
      rcases p with ⟨-, -, eX, -⟩ | ⟨-, a, b, W, V, d, e6, e7, k1, k2, -⟩
      · rw [eX]
        exact KE.rf
      · exact (gK.e k1 (sl6_ne h6 ⟨s0, s1⟩ e' e6)).tr (gK.e k2 (sl6_ne7 h6 ⟨s0, s1⟩ e' e7))
    exact (hS s g' s0 s1 e').mv ((sl2.frm hG (by first | decide +kernel | decide)).hi hi) hR2 (kE.tr (KE.frm hG (by first | decide +kernel | decide) g'))
  · obtain ⟨d1, d2, d3⟩ := rdr_eq hF (by first | decide +kernel | decide)
    have eq1 : EQX X1 x y ↔ EQX X x y := by
      unfold EQX
      rw [d1, d2, d3, hi 55 (by first | decide +kernel | decide), hi 58 (by first | decide +kernel | decide), hi 59 (by first | decide +kernel | decide)]
    rw [hi 40 (by first | decide +kernel | decide)] at q
    rcases p with ⟨pn, pz, -⟩ | ⟨pc, g, g2, W, V, d, e6, e7, k1, k2, ⟨fW, fV⟩, ⟨fX, fY⟩, ⟨cT, cR, cV⟩, ⟨cT2, cR2, cV2⟩, pd, pz⟩
    · rcases q with ⟨-, qz⟩ | ⟨qc, -⟩
      · omega
      · exact absurd (by rw [h3]; exact qc) pn
    · rcases q with ⟨qn, -⟩ | ⟨qc, qd⟩
      · exact absurd (by rw [← h3]; exact pc) qn
      · have eS := recR_alk (alkX hB.1 hT hf hMI hR) (fun y _ _ => (hR 44 0 _).1) qc.1 30
        have eT := recR_alk (alkX hB.1 hT hf hMI hR) (fun y _ _ => (hR 44 0 _).1) qc.2 30
        rw [← eS.1] at cT cR cV
        rw [cFc.frm fW fV (by first | decide +kernel | decide) (by first | decide +kernel | decide), cLa.frm fW fV (by first | decide +kernel | decide) (by first | decide +kernel | decide), cVl.frm fW fV (by first | decide +kernel | decide) (by first | decide +kernel | decide), cRid.frm fV (by first | decide +kernel | decide), ← eT.1] at cT2 cR2 cV2
        obtain ⟨g6, l60, l61⟩ := h6.1 4 (by first | decide +kernel | decide) (by first | decide +kernel | decide)
        have g6e : g6 = g := by
          unfold sl6 at l60
          rw [if_neg (by first | decide +kernel | decide), if_pos rfl, e6] at l60
          exact (Option.some.inj l60).symm
        rw [g6e] at l61
        have ne : g ≠ g2 := fun w => by
          have := h6.2 4 5 (by first | decide +kernel | decide) (by first | decide +kernel | decide) (by first | decide +kernel | decide) (by first | decide +kernel | decide) (by unfold sl6; rw [if_neg (by first | decide +kernel | decide), if_pos rfl, if_neg (by first | decide +kernel | decide), if_neg (by first | decide +kernel | decide), e6, e7, w])
          omega
        have tS := cT.1
        have tT := cT2.1
        have rW : 0 ≤ W 7 g 0 ∧ W 7 g 0 ≤ 30 := by
          have := (gK.e k2 ne).1.1
          rw [← this]; exact hR1 7 g 0
        have rX : 0 ≤ X1 7 g2 0 ∧ X1 7 g2 0 ≤ 30 := hR1 7 g2 0
        have a := (rec_cv hB.1 hT hf hMI hR qc.1 rfl cT cR cV (cSt.of fW fV (by first | decide +kernel | decide) (by first | decide +kernel | decide)) (fW.arr 27 (by decide +kernel) (by first | decide +kernel | decide)) (fV.arr 17 (by decide +kernel) (by first | decide +kernel | decide)) (by omega)).mv (gK.e k2 ne)
        have b := rec_cv hB.1 hT hf hMI hR qc.2 rfl cT2 cR2 cV2 (cSt.of hF hH (by first | decide +kernel | decide) (by first | decide +kernel | decide)) (hF.arr 27 (by decide +kernel) (by first | decide +kernel | decide)) (hH.arr 17 (by decide +kernel) (by first | decide +kernel | decide)) (by omega)
        have le := like_eq a b (fun i => (hR1 10 g i).1) (fun i i0 i1 l => (hRv g i l61.1 l61.2 i0 (by omega) (by omega)).1) (fun t => (hR 44 0 t).2) (by omega) (recR_pos 30) (recR_pos 30) pd
        have le' : d = -1 ↔ EQX X1 x y := le.trans eq1.symm
        rcases qd with ⟨z2e, hE⟩ | ⟨z2e, hE⟩
        · have := le'.mpr hE; omega
        · have : d ≠ -1 := fun w => hE (le'.mp w)
          omega
end JL5

