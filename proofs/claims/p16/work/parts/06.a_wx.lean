/-! cells that are being made: beside the world, in a list of their own -/
def wx (D : va_G) (tc : Nat → ClassId) (base : Nat) (u : St) (E : va_W) (H : Heap) : Prop :=
  (∃ RL : List (Nat × Int), (∀ k i, (k, i) ∈ RL ↔ (0 ≤ i ∧ i < u.2.1 k)) ∧ va_P D vwCl (wlE tc u.1 u.2.2.1 u.2.2.2.1 u.2.2.2.2 RL ++ E) H ∧ va_D (fun q => base ≤ q) (wlE tc u.1 u.2.2.1 u.2.2.2.1 u.2.2.2.2 RL ++ E)) ∧ RefOK u.2.1 u.2.2.2.1 ∧ base ≤ H.size
theorem va_D_nd {A : Nat → Prop} {ws : va_W} : va_D A ws ↔ (ws.map Prod.fst).Nodup ∧ ∀ q ∈ ws, A q.1 := by
  constructor
  · intro h
    refine ⟨?_, fun q hq => ?_⟩
    · refine List.pairwise_map.mpr (List.pairwise_iff_getElem.mpr (fun i j hi hj hij e => ?_))
      have := h.1 i j _ _ (List.getElem?_eq_getElem hi) (List.getElem?_eq_getElem hj) e
      omega
    · obtain ⟨i, hi⟩ := List.getElem?_of_mem hq
      exact h.2 i q hi
  · intro h
    have hp := List.pairwise_iff_getElem.mp (List.pairwise_map.mp h.1)
    refine ⟨fun i j p q hi hj e => ?_, fun k q hk => h.2 q (List.mem_of_getElem? hk)⟩
    obtain ⟨li, ei⟩ := List.getElem?_eq_some_iff.mp hi
    obtain ⟨lj, ej⟩ := List.getElem?_eq_some_iff.mp hj
    rcases Nat.lt_trichotomy i j with hlt | he | hgt
    · exact absurd (by rw [ei, ej]; exact e) (hp i j li lj hlt)
    · exact he
    · exact absurd (by rw [ei, ej]; exact e.symm) (hp j i lj li hgt)
theorem va_D_perm {A : Nat → Prop} {w1 w2 : va_W} (hp : w1.Perm w2) (h : va_D A w1) : va_D A w2 := by
  rw [va_D_nd] at h ⊢
  exact ⟨(hp.map Prod.fst).nodup_iff.mp h.1, fun q hq => h.2 q (hp.mem_iff.mpr hq)⟩
theorem va_P_mem {D : va_G} {cl : List vw_C} {w1 w2 : va_W} {H : Heap} (hs : ∀ q ∈ w2, q ∈ w1) (h : va_P D cl w1 H) : va_P D cl w2 H := fun k q hk => by
  obtain ⟨i, hi⟩ := List.getElem?_of_mem (hs q (List.mem_of_getElem? hk))
  exact h i q hi
section WX
variable {D : va_G} {tc : Nat → ClassId} {base : Nat} {u : St} {E F : va_W} {H : Heap} {ad ad' : Nat → Int → Nat} {cnt cnt' : Nat → Int} {X X' : Nat → Int → Int → Int} {Y Y' : Nat → Int → Int → Option Int} {ln ln' : Int → Int}
theorem wx_of (h : wd D tc base u H) : wx D tc base u [] H := by
  obtain ⟨⟨RL, h1, h2, h3⟩, h4, h5⟩ := h
  exact ⟨⟨RL, h1, by rw [List.append_nil]; exact h2, by rw [List.append_nil]; exact h3⟩, h4, h5⟩
theorem wx_wd (h : wx D tc base u E H) : wd D tc base u H := by
  obtain ⟨⟨RL, h1, h2, h3⟩, h4, h5⟩ := h
  refine ⟨⟨RL, h1, va_P_mem (fun q hq => List.mem_append_left _ hq) h2, ?_⟩, h4, h5⟩
  rw [va_D_nd] at h3 ⊢
  rw [List.map_append] at h3
  exact ⟨(List.nodup_append.mp h3.1).1, fun q hq => h3.2 q (List.mem_append_left _ hq)⟩
/-- what is owned is there where its owner is -/
def ownL : List (Nat × Nat) := (List.range 101).flatMap fun k => ((lay k).2.1.filter fun c => c.1 == 3).map fun c => (k, c.2)
def Own (cnt : Nat → Int) : Prop := (∀ p ∈ ownL, cnt p.1 ≤ cnt p.2) ∧ ∀ k, (lay k).1 = 0 → (lay k).2.2.1.1 = 9 → cnt k ≤ 0
theorem lay_big {k : Nat} (h : 101 ≤ k) : lay k = (0, [], (9, 0, 0), 0) := by
  have hl : layL.length = 101 := by decide +kernel
  simp [lay, List.getD, List.getElem?_eq_none (by omega : layL.length ≤ k)]
theorem lay_arr (k : Nat) (h : (lay k).1 = 0) : (lay k).2.2.1.1 = 0 ∨ (lay k).2.2.1.1 = 1 ∨ (lay k).2.2.1.1 = 4 ∨ (lay k).2.2.1.1 = 9 := by
  by_cases hk : k < 101
  · have : ∀ k ∈ List.range 101, (lay k).1 = 0 → (lay k).2.2.1.1 = 0 ∨ (lay k).2.2.1.1 = 1 ∨ (lay k).2.2.1.1 = 4 ∨ (lay k).2.2.1.1 = 9 := by decide +kernel
    exact this k (List.mem_range.mpr hk) h
  · rw [lay_big (by omega)]
    exact Or.inr (Or.inr (Or.inr rfl))
theorem lay_obj (k j : Nat) (h : j < (lay k).2.1.length) : (slo k j).1 = 0 ∨ (slo k j).1 = 1 ∨ (slo k j).1 = 3 ∨ (slo k j).1 = 4 := by
  by_cases hk : k < 101
  · have h1 : ∀ k ∈ List.range 101, ∀ c ∈ (lay k).2.1, c.1 = 0 ∨ c.1 = 1 ∨ c.1 = 3 ∨ c.1 = 4 := by decide +kernel
    unfold slo
    rw [List.getD_eq_getElem?_getD, List.getElem?_eq_getElem h, Option.getD_some]
    exact h1 k (List.mem_range.mpr hk) _ (List.getElem_mem h)
  · rw [lay_big (by omega)] at h
    cases h
theorem own_mem {k j t : Nat} (h : slo k j = (3, t)) : (k, t) ∈ ownL := by
  by_cases hk : k < 101
  · refine List.mem_flatMap.mpr ⟨k, List.mem_range.mpr hk, List.mem_map.mpr ⟨(3, t), List.mem_filter.mpr ⟨?_, rfl⟩, rfl⟩⟩
    unfold slo at h
    by_cases hj : j < (lay k).2.1.length
    · rw [List.getD_eq_getElem?_getD, List.getElem?_eq_getElem hj, Option.getD_some] at h
      rw [← h]
      exact List.getElem_mem hj
    · rw [List.getD_eq_getElem?_getD, List.getElem?_eq_none (by omega)] at h
      cases h
  · unfold slo at h
    rw [lay_big (by omega)] at h
    cases h
def ownChk (p : Nat × Nat) : Bool := (p.1 == 26 && p.2 == 27) || (p.1 == 19 && [20, 21, 22, 23, 24].contains p.2) || ((fxL.lookup p.1).isSome && fxL.lookup p.1 == fxL.lookup p.2)
theorem own_chk : ∀ p ∈ ownL, ownChk p = true := by decide +kernel
theorem lookup_mem {α : Type} {L : List (Nat × α)} {k : Nat} {v : α} (h : L.lookup k = some v) : (k, v) ∈ L := by
  induction L with
  | nil => cases h
  | cons a t ih =>
    obtain ⟨a1, a2⟩ := a
    rw [List.lookup_cons] at h
    by_cases hk : (k == a1) = true
    · rw [hk] at h
      have : k = a1 := by simpa using hk
      subst this
      cases h
      exact List.mem_cons_self
    · have : (k == a1) = false := by simpa using hk
      rw [this] at h
      exact List.mem_cons_of_mem _ (ih h)
theorem Fx.own (h : Fx cnt) : ∀ p ∈ ownL, cnt p.1 ≤ cnt p.2 := by
  intro p hp
  have hc := own_chk p hp
  unfold ownChk at hc
  simp only [Bool.or_eq_true, Bool.and_eq_true, beq_iff_eq] at hc
  rcases hc with (⟨e1, e2⟩ | ⟨e1, e2⟩) | ⟨e1, e2⟩
  · rw [e1, e2, h.2.2]; omega
  · rw [e1, h.2.1 p.2 (by simpa using e2)]; omega
  · obtain ⟨v, hv⟩ := Option.isSome_iff_exists.mp e1
    rw [h.1 _ (lookup_mem hv), h.1 _ (lookup_mem (e2 ▸ hv))]
    omega
theorem opt_map_eq {o : Option Int} {f g : Int → Nat} (h : ∀ r, o = some r → f r = g r) : o.map f = o.map g := by
  cases o with
  | none => rfl
  | some r => simp [h r rfl]
theorem ceE_ext {k : Nat} {i : Int} (h0 : 0 ≤ i) (h1 : i < cnt k) (hAd : ∀ k i, 0 ≤ i → i < cnt k → ad' k i = ad k i) (hX : X' k i = X k i) (hY : Y' k i = Y k i) (hl : k = 27 → ln' i = ln i) (ho : Own cnt) (hrf : RefOK cnt Y) : ceE tc ad' X' Y' ln' k i = ceE tc ad X Y ln k i := by
  have hlen : lenE ln' k i = lenE ln k i := by
    unfold lenE
    split
    · exact hl (by assumption)
    · rfl
  unfold ceE
  rw [hX, hY, hlen]
  split
  · rename_i hz
    split
    · rfl
    · split
      · rfl
      · rename_i h2 h3
        by_cases h4 : (lay k).2.2.1.1 = 4
        · congr 7
          funext q
          refine opt_map_eq (fun r hr => ?_)
          obtain ⟨g0, g1⟩ := hrf k i q (lay k).2.2.1.2.2 r h0 h1 (Or.inl ⟨hz, h4, rfl⟩) hr
          exact hAd _ _ g0 g1
        · exfalso
          have h5 := lay_arr k hz
          rcases h5 with h5 | h5 | h5 | h5
          · exact h2 h5
          · exact h3 h5
          · exact h4 h5
          · have := ho.2 k hz h5
            omega
  · rename_i hz
    congr 2
    refine List.map_congr_left (fun j hj => ?_)
    unfold slV
    rw [hX, hY]
    split
    · rfl
    · split
      · rfl
      · split
        · rename_i h3
          have hm := own_mem (k := k) (j := j) (t := (slo k j).2) (by rw [← h3])
          have h4 : cnt k ≤ cnt (slo k j).2 := ho.1 _ hm
          rw [hAd _ _ h0 (by omega)]
        · rename_i h2 h3 h4
          by_cases h5 : (slo k j).1 = 4
          · congr 1
            refine opt_map_eq (fun r hr => ?_)
            obtain ⟨g0, g1⟩ := hrf k i j (slo k j).2 r h0 h1 (Or.inr ⟨hz, by rw [← h5]⟩) hr
            exact hAd _ _ g0 g1
          · exfalso
            rcases lay_obj k j (List.mem_range.mp hj) with h6 | h6 | h6 | h6
            · exact h2 h6
            · exact h3 h6
            · exact h4 h6
            · exact h5 h6
theorem adopt {NL : List (Nat × Int)} (hw : wx D tc base (ad, cnt, X, Y, ln) (E ++ F) H) (hF : F = wlE tc ad' X' Y' ln' NL)
    (hold : ∀ k i, 0 ≤ i → i < cnt k → ad' k i = ad k i ∧ X' k i = X k i ∧ Y' k i = Y k i ∧ (k = 27 → ln' i = ln i)) (ho : Own cnt)
    (hcnt : ∀ k i, (0 ≤ i ∧ i < cnt' k) ↔ ((0 ≤ i ∧ i < cnt k) ∨ (k, i) ∈ NL)) (hrf : RefOK cnt' Y') : wx D tc base (ad', cnt', X', Y', ln') E H := by
  obtain ⟨⟨RL, h1, h2, h3⟩, h4, h5⟩ := hw
  dsimp only at h1 h2 h3 h4 h5
  have he : wlE tc ad X Y ln RL = wlE tc ad' X' Y' ln' RL := by
    unfold wlE
    refine List.map_congr_left (fun r hr => ?_)
    obtain ⟨k, i⟩ := r
    obtain ⟨g0, g1⟩ := (h1 k i).mp hr
    obtain ⟨a1, a2, a3, a4⟩ := hold k i g0 g1
    rw [ceE_ext (ad := ad) (X := X) (Y := Y) (ln := ln) g0 g1 (fun k i q0 q1 => (hold k i q0 q1).1) a2 a3 a4 ho h4, a1]
  have hp : (wlE tc ad X Y ln RL ++ (E ++ F)).Perm (wlE tc ad' X' Y' ln' (RL ++ NL) ++ E) := by
    rw [he, hF]
    unfold wlE
    rw [List.map_append, List.append_assoc]
    exact List.Perm.append_left _ List.perm_append_comm
  exact ⟨⟨RL ++ NL, fun k i => by rw [List.mem_append, h1 k i]; exact (hcnt k i).symm, va_P_mem (fun q hq => hp.mem_iff.mpr hq) h2, va_D_perm hp h3⟩, hrf, h5⟩
end WX
