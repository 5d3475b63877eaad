/-! the law's loop -/
section LL
variable {p : Program} {l : Launch} {e : Env} {s : State} {m : MethodId} {below : List Frame} {meth : Method} {c : Code} {b L : Nat} {xs : Nat → Int32} {D : va_G} {tc : Nat → ClassId} {Q : State → Prop} {q0 q1 q2 cB sB : Nat} {i : Int}
theorem law_next (C : LK p l s m c b L xs D tc) (h : LAt p l e s m below meth c b D tc q0 q1 q2 (i + 7) Q 23 cB sB) : LAt p l e s m below meth c b D tc q0 q1 q2 i Q 1370 cB sB := by
  obtain ⟨hx, hb, -⟩ := id C
  intro ad cnt X Y ln H locs ls cl sl hI hw hS hl hcl hsl
  refine lv_iinc (v := jI (i + 7)) (lv' := [(4, .int (jI (i + 7))), (0, .ref b), (1, .ref q0), (2, .ref q1), (3, .ref q2)]) hx hb dL_law_1370 hl (k := 4) rfl (jI_add _ _) (by decide) rfl (fun ls hl => ?_)
  refine lv_goto (tgt := 23) hx hb dL_law_1373 (by decide) ?_
  exact h ad cnt X Y ln H locs ls cl sl hI hw hS (lv_sub hl [1, 2, 3, 4, 0] rfl) hcl hsl
theorem law_end (C : LK p l s m c b L xs D tc) (hr : meth.sig.returnType = ret) (hlocks : meth.locks = false) (h1 : cB ≤ 601024) (h2 : sB ≤ 7293034) : LAt p l e s m below meth c b D tc q0 q1 q2 i (lw_Z below #[Value.ref b] s) 1376 cB sB := by
  obtain ⟨hx, hb, -⟩ := id C
  intro ad cnt X Y ln H locs ls cl sl hI hw hS hl hcl hsl
  refine va_forget (fun q hq => hS.2.2 q hq) ?_
  refine W.widen (k := 601024) (n := 7293034) (by omega) (by omega) ?_
  refine lv_iconst (v := 1) hx hb dL_law_1376 rfl ?_
  exact lw_ret hx hb hr hlocks dL_law_1377
set_option maxHeartbeats 2000000 in
theorem law_disp (C : LK p l s m c b L xs D tc) (hi : 0 ≤ i ∧ i + 7 ≤ L) (hcB : cB + 310 ≤ 601024) (hsB : sB + 2110 ≤ 7293034) (hg : LAt p l e s m below meth c b D tc q0 q1 q2 i Q 1370 (cB + 310) (sB + 2110)) : LAt p l e s m below meth c b D tc q0 q1 q2 i Q 33 cB sB := by
  obtain ⟨hx, hb, hml, hown, hts, hX, hbl, hK, hT, hlT, hL⟩ := id C
  intro ad cnt X Y ln H locs ls cl sl hI hw hS hl hcl hsl
  refine lv_aload_n hx hb dL_law_33 rfl (lv_at hl 0 rfl) ?_
  refine lv_iload hx hb dL_law_34 (lv_at hl 4 rfl) ?_
  refine va_sld hx hb hX hbl (Nat.not_le.mpr hbl) hS (jI_in (by omega) (by omega) (by omega)) dL_law_36 ?_
  refine lv_bipush (v := jI 31) hx hb dL_law_37 (by decide) ?_
  refine lv_iand hx hb dL_law_39 ?_
  refine x_anyi (fun z hz => ?_)
  have tz : (jI z).toInt = z := jI_toInt hz
  by_cases ho : z < 0 ∨ 26 < z
  · refine lv_tableOut (tgt := 1370) hx hb dL_law_40 (by rw [tz]; exact ho) (by decide) ?_
    exact hg ad cnt X Y ln H locs ls cl sl hI hw hS hl (by omega) (by omega)
  by_cases c0 : z = 0
  · refine lv_tableIn (off := 124) (tgt := 164) hx hb dL_law_40 (by rw [tz]; omega) (by rw [tz]; omega) (by rw [tz, c0]; rfl) (by decide) ?_
    exact law_c0 C hi hcB hsB hg ad cnt X Y ln H locs ls cl sl hI hw hS hl hcl hsl
  by_cases c1 : z = 1
  · refine lv_tableIn (off := 137) (tgt := 177) hx hb dL_law_40 (by rw [tz]; omega) (by rw [tz]; omega) (by rw [tz, c1]; rfl) (by decide) ?_
    exact law_c1 C hi hcB hsB hg ad cnt X Y ln H locs ls cl sl hI hw hS hl hcl hsl
  by_cases c2 : z = 2
  · refine lv_tableIn (off := 230) (tgt := 270) hx hb dL_law_40 (by rw [tz]; omega) (by rw [tz]; omega) (by rw [tz, c2]; rfl) (by decide) ?_
    exact law_c2 C hi hcB hsB hg ad cnt X Y ln H locs ls cl sl hI hw hS hl hcl hsl
  by_cases c3 : z = 3
  · refine lv_tableIn (off := 267) (tgt := 307) hx hb dL_law_40 (by rw [tz]; omega) (by rw [tz]; omega) (by rw [tz, c3]; rfl) (by decide) ?_
    exact law_c3 C hi hcB hsB hg ad cnt X Y ln H locs ls cl sl hI hw hS hl hcl hsl
  by_cases c4 : z = 4
  · refine lv_tableIn (off := 332) (tgt := 372) hx hb dL_law_40 (by rw [tz]; omega) (by rw [tz]; omega) (by rw [tz, c4]; rfl) (by decide) ?_
    exact law_c4 C hi hcB hsB hg ad cnt X Y ln H locs ls cl sl hI hw hS hl hcl hsl
  by_cases c5 : z = 5
  · refine lv_tableIn (off := 439) (tgt := 479) hx hb dL_law_40 (by rw [tz]; omega) (by rw [tz]; omega) (by rw [tz, c5]; rfl) (by decide) ?_
    exact law_c5 C hi hcB hsB hg ad cnt X Y ln H locs ls cl sl hI hw hS hl hcl hsl
  by_cases c6 : z = 6
  · refine lv_tableIn (off := 464) (tgt := 504) hx hb dL_law_40 (by rw [tz]; omega) (by rw [tz]; omega) (by rw [tz, c6]; rfl) (by decide) ?_
    exact law_c6 C hi hcB hsB hg ad cnt X Y ln H locs ls cl sl hI hw hS hl hcl hsl
  by_cases c7 : z = 7
  · refine lv_tableIn (off := 517) (tgt := 557) hx hb dL_law_40 (by rw [tz]; omega) (by rw [tz]; omega) (by rw [tz, c7]; rfl) (by decide) ?_
    exact law_c7 C hi hcB hsB hg ad cnt X Y ln H locs ls cl sl hI hw hS hl hcl hsl
  by_cases c8 : z = 8
  · refine lv_tableIn (off := 542) (tgt := 582) hx hb dL_law_40 (by rw [tz]; omega) (by rw [tz]; omega) (by rw [tz, c8]; rfl) (by decide) ?_
    exact law_c8 C hi hcB hsB hg ad cnt X Y ln H locs ls cl sl hI hw hS hl hcl hsl
  by_cases c9 : z = 9
  · refine lv_tableIn (off := 623) (tgt := 663) hx hb dL_law_40 (by rw [tz]; omega) (by rw [tz]; omega) (by rw [tz, c9]; rfl) (by decide) ?_
    exact law_c9 C hi hcB hsB hg ad cnt X Y ln H locs ls cl sl hI hw hS hl hcl hsl
  by_cases c10 : z = 10
  · refine lv_tableIn (off := 672) (tgt := 712) hx hb dL_law_40 (by rw [tz]; omega) (by rw [tz]; omega) (by rw [tz, c10]; rfl) (by decide) ?_
    exact law_c10 C hi hcB hsB hg ad cnt X Y ln H locs ls cl sl hI hw hS hl hcl hsl
  by_cases c11 : z = 11
  · refine lv_tableIn (off := 721) (tgt := 761) hx hb dL_law_40 (by rw [tz]; omega) (by rw [tz]; omega) (by rw [tz, c11]; rfl) (by decide) ?_
    exact law_c11 C hi hcB hsB hg ad cnt X Y ln H locs ls cl sl hI hw hS hl hcl hsl
  by_cases c12 : z = 12
  · refine lv_tableIn (off := 782) (tgt := 822) hx hb dL_law_40 (by rw [tz]; omega) (by rw [tz]; omega) (by rw [tz, c12]; rfl) (by decide) ?_
    exact law_c12 C hi hcB hsB hg ad cnt X Y ln H locs ls cl sl hI hw hS hl hcl hsl
  by_cases c13 : z = 13
  · refine lv_tableIn (off := 875) (tgt := 915) hx hb dL_law_40 (by rw [tz]; omega) (by rw [tz]; omega) (by rw [tz, c13]; rfl) (by decide) ?_
    exact law_c13 C hi hcB hsB hg ad cnt X Y ln H locs ls cl sl hI hw hS hl hcl hsl
  by_cases c14 : z = 14
  · refine lv_tableIn (off := 915) (tgt := 955) hx hb dL_law_40 (by rw [tz]; omega) (by rw [tz]; omega) (by rw [tz, c14]; rfl) (by decide) ?_
    exact law_c14 C hi hcB hsB hg ad cnt X Y ln H locs ls cl sl hI hw hS hl hcl hsl
  by_cases c15 : z = 15
  · refine lv_tableIn (off := 994) (tgt := 1034) hx hb dL_law_40 (by rw [tz]; omega) (by rw [tz]; omega) (by rw [tz, c15]; rfl) (by decide) ?_
    exact law_c15 C hi hcB hsB hg ad cnt X Y ln H locs ls cl sl hI hw hS hl hcl hsl
  by_cases c16 : z = 16
  · refine lv_tableIn (off := 1007) (tgt := 1047) hx hb dL_law_40 (by rw [tz]; omega) (by rw [tz]; omega) (by rw [tz, c16]; rfl) (by decide) ?_
    exact law_c16 C hi hcB hsB hg ad cnt X Y ln H locs ls cl sl hI hw hS hl hcl hsl
  by_cases c17 : z = 17
  · refine lv_tableIn (off := 1044) (tgt := 1084) hx hb dL_law_40 (by rw [tz]; omega) (by rw [tz]; omega) (by rw [tz, c17]; rfl) (by decide) ?_
    exact law_c17 C hi hcB hsB hg ad cnt X Y ln H locs ls cl sl hI hw hS hl hcl hsl
  by_cases c18 : z = 18
  · refine lv_tableIn (off := 1069) (tgt := 1109) hx hb dL_law_40 (by rw [tz]; omega) (by rw [tz]; omega) (by rw [tz, c18]; rfl) (by decide) ?_
    exact law_c18 C hi hcB hsB hg ad cnt X Y ln H locs ls cl sl hI hw hS hl hcl hsl
  by_cases c19 : z = 19
  · refine lv_tableIn (off := 1106) (tgt := 1146) hx hb dL_law_40 (by rw [tz]; omega) (by rw [tz]; omega) (by rw [tz, c19]; rfl) (by decide) ?_
    exact law_c19 C hi hcB hsB hg ad cnt X Y ln H locs ls cl sl hI hw hS hl hcl hsl
  by_cases c20 : z = 20
  · refine lv_tableIn (off := 1143) (tgt := 1183) hx hb dL_law_40 (by rw [tz]; omega) (by rw [tz]; omega) (by rw [tz, c20]; rfl) (by decide) ?_
    exact law_c20 C hi hcB hsB hg ad cnt X Y ln H locs ls cl sl hI hw hS hl hcl hsl
  by_cases c21 : z = 21
  · refine lv_tableIn (off := 1180) (tgt := 1220) hx hb dL_law_40 (by rw [tz]; omega) (by rw [tz]; omega) (by rw [tz, c21]; rfl) (by decide) ?_
    exact law_c21 C hi hcB hsB hg ad cnt X Y ln H locs ls cl sl hI hw hS hl hcl hsl
  by_cases c22 : z = 22
  · refine lv_tableIn (off := 1205) (tgt := 1245) hx hb dL_law_40 (by rw [tz]; omega) (by rw [tz]; omega) (by rw [tz, c22]; rfl) (by decide) ?_
    exact law_c22 C hi hcB hsB hg ad cnt X Y ln H locs ls cl sl hI hw hS hl hcl hsl
  by_cases c23 : z = 23
  · refine lv_tableIn (off := 1242) (tgt := 1282) hx hb dL_law_40 (by rw [tz]; omega) (by rw [tz]; omega) (by rw [tz, c23]; rfl) (by decide) ?_
    exact law_c23 C hi hcB hsB hg ad cnt X Y ln H locs ls cl sl hI hw hS hl hcl hsl
  by_cases c24 : z = 24
  · refine lv_tableIn (off := 1279) (tgt := 1319) hx hb dL_law_40 (by rw [tz]; omega) (by rw [tz]; omega) (by rw [tz, c24]; rfl) (by decide) ?_
    exact law_c24 C hi hcB hsB hg ad cnt X Y ln H locs ls cl sl hI hw hS hl hcl hsl
  by_cases c25 : z = 25
  · refine lv_tableIn (off := 1292) (tgt := 1332) hx hb dL_law_40 (by rw [tz]; omega) (by rw [tz]; omega) (by rw [tz, c25]; rfl) (by decide) ?_
    exact law_c25 C hi hcB hsB hg ad cnt X Y ln H locs ls cl sl hI hw hS hl hcl hsl
  have c26 : z = 26 := by omega
  refine lv_tableIn (off := 1305) (tgt := 1345) hx hb dL_law_40 (by rw [tz]; omega) (by rw [tz]; omega) (by rw [tz, c26]; rfl) (by decide) ?_
  exact law_c26 C hi hcB hsB hg ad cnt X Y ln H locs ls cl sl hI hw hS hl hcl hsl
theorem law_head (C : LK p l s m c b L xs D tc) (hi : 0 ≤ i ∧ i ≤ 4000) (ke : LAt p l e s m below meth c b D tc q0 q1 q2 i Q 1376 cB sB) (kg : i + 7 ≤ L → LAt p l e s m below meth c b D tc q0 q1 q2 i Q 33 cB sB) : LAt p l e s m below meth c b D tc q0 q1 q2 i Q 23 cB sB := by
  obtain ⟨hx, hb, hml, hown, hts, hX, hbl, hK, hT, hlT, hL⟩ := id C
  intro ad cnt X Y ln H locs ls cl sl hI hw hS hl hcl hsl
  refine lv_iload hx hb dL_law_23 (lv_at hl 4 rfl) ?_
  refine lv_aload_n hx hb dL_law_25 rfl (lv_at hl 0 rfl) ?_
  refine va_slen hx hb hX hbl (Nat.not_le.mpr hbl) hS dL_law_26 ?_
  have eL : Int32.ofNat L = jI (L : Int) := by unfold jI; exact (Int32.ofInt_eq_ofNat).symm
  rw [eL]
  refine lv_bipush (v := jI 7) hx hb dL_law_27 (by decide) ?_
  refine x_isub hx hb dL_law_29 ?_
  refine x_icmp_gt (tgt := 1376) hx hb (by omega) (by omega) dL_law_30 (by decide) (fun _ => ?_) (fun cg => ?_)
  · exact ke ad cnt X Y ln H locs ls cl sl hI hw hS hl hcl hsl
  · exact kg (by omega) ad cnt X Y ln H locs ls cl sl hI hw hS hl hcl hsl
set_option maxRecDepth 100000 in
theorem law_loop (C : LK p l s m c b L xs D tc) (hr : meth.sig.returnType = ret) (hlocks : meth.locks = false) : ∀ (n : Nat) (i : Int) (cB sB : Nat), (L : Int) - i < 7 * (n : Int) → 0 ≤ i ∧ i ≤ 3584 → cB + 310 * n ≤ 601024 → sB + 2110 * n ≤ 7293034 → LAt p l e s m below meth c b D tc q0 q1 q2 i (lw_Z below #[Value.ref b] s) 23 cB sB := by
  have hL := C.2.2.2.2.2.2.2.2.2.2
  intro n
  induction n with
  | zero => exact fun i cB sB h0 h1 h2 h3 => law_head C (by omega) (law_end C hr hlocks (by omega) (by omega)) (fun q => by omega)
  | succ n ih =>
    intro i cB sB h0 h1 h2 h3
    have e1 : cB + 310 ≤ 601024 := by omega
    have e2 : sB + 2110 ≤ 7293034 := by omega
    have k1 : cB + 310 + 310 * n ≤ 601024 := by omega
    have k2 : sB + 2110 + 2110 * n ≤ 7293034 := by omega
    have e3 : cB ≤ 601024 := by omega
    have e4 : sB ≤ 7293034 := by omega
    refine law_head C (by omega) (law_end C hr hlocks e3 e4) (fun q => ?_)
    exact law_disp C ⟨h1.1, q⟩ e1 e2 (law_next C (ih (i + 7) (cB + 310) (sB + 2110) (by omega) (by omega) k1 k2))
end LL
