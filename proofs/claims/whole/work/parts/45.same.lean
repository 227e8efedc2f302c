/-! what says the same of a row that changed elsewhere; leaves -/
theorem depT_congr {wh wh' : Nat → Int32} : ∀ k, (∀ i, i < k → wh' i = wh i) → depT wh' k = depT wh k := by
  intro k
  induction k with
  | zero => intro _; rfl
  | succ k ih =>
    intro h
    have e := ih (fun i hi => h i (by omega))
    unfold depT
    rw [h k (by omega), e]
theorem okText_congr {u n : Nat} {wh wh' vl vl' : Nat → Int32} (h : okText u n wh vl) (h1 : ∀ i, i < n → wh' i = wh i) (h2 : ∀ i, i < n → vl' i = vl i) : okText u n wh' vl' := by
  refine ⟨h.1, fun k hk => ?_, ?_⟩
  · rw [h1 k hk, h2 k hk, depT_congr k (fun i hi => h1 i (by omega))]
    exact h.2.1 k hk
  · rw [depT_congr n h1]
    exact h.2.2
theorem okT_c {u : Nat} {S S' : Nat → Int32} (h : okT u S) (hS : ∀ j, 24 + 125 * u ≤ j → j < 149 + 125 * u → S' j = S j) : okT u S' := by
  obtain ⟨n, e, h2⟩ := h
  refine ⟨n, (hS _ (by omega) (by omega)).trans e, ?_⟩
  rcases h2 with h2 | h2
  · exact Or.inl h2
  · refine Or.inr (okText_congr h2 (fun i hi => ?_) (fun i hi => ?_))
    · have := h2.1
      exact hS _ (by omega) (by omega)
    · have := h2.1
      exact hS _ (by omega) (by omega)
theorem relL_c {F F' : xF} {l u : Nat} {S S' : Nat → Int32} (h : relL F l u S) (hi : okT u S) (h1 : F' l = F l) (h2 : F' (l + 1) = F (l + 1)) (hS : ∀ j, 24 + 125 * u ≤ j → j < 149 + 125 * u → S' j = S j) : relL F' l u S' := by
  obtain ⟨g1, g2, g3⟩ := h
  have e0 : S' (24 + 125 * u) = S (24 + 125 * u) := hS _ (by omega) (by omega)
  unfold relL
  rw [h1, h2, e0]
  refine ⟨g1, g2, fun hp => ⟨(g3 hp).1, fun k hk => ?_⟩⟩
  obtain ⟨n, en, ok, ec⟩ := okT_pos hi hp
  have := ok.1
  rw [ec] at hk
  have e1 : whS u S' k = whS u S k := hS _ (by omega) (by omega)
  have e2 : vlS u S' k = vlS u S k := hS _ (by omega) (by omega)
  rw [e1, e2]
  exact (g3 hp).2 k (by omega)
theorem relPw_c {F F' : xF} {w : Nat} {S S' : Nat → Int32} (h : relPw F w S) (hi : invP S) (hF : ∀ k, w + 2 ≤ k → k ≤ w + 6 → F' k = F k) (hS : ∀ j, 11 ≤ j → j < 24 → S' j = S j) : relPw F' w S' := by
  have h6 : (S 11).toNatClampNeg ≤ 6 := (inv_PN hi).2
  obtain ⟨g1, g2, g3⟩ := h
  unfold relPw
  rw [hF (w + 2) (by omega) (by omega), hF (w + 4) (by omega) (by omega), hF (w + 6) (by omega) (by omega), hS 11 (by omega) (by omega)]
  refine ⟨g1, g2, fun p hp => ?_⟩
  rw [hS _ (by omega) (by omega), hS _ (by omega) (by omega)]
  exact g3 p hp
theorem invP_c {S S' : Nat → Int32} (h : invP S) (hS : ∀ j, 11 ≤ j → j < 24 → S' j = S j) : invP S' := by
  obtain ⟨P, hP, e, hp⟩ := h
  refine ⟨P, hP, (hS 11 (by omega) (by omega)).trans e, fun p hh => ?_⟩
  rw [hS _ (by omega) (by omega), hS _ (by omega) (by omega)]
  exact hp p hh
theorem relTape_c {F F' : xF} {w : Nat} {S S' : Nat → Int32} (h : relTape F w S) (hi : invTape S) (h1 : F' (w + 13) = F (w + 13)) (h2 : F' (w + 14) = F (w + 14)) (h9 : S' 9 = S 9) (hS : ∀ j, 274 ≤ j → j < 334 → S' j = S j) : relTape F' w S' := by
  obtain ⟨T, hT, eT, _⟩ := hi
  have h6 : (S 9).toNatClampNeg = T := by rw [eT]; exact nI_clamp (by omega)
  unfold relTape
  rw [h1, h2, h9]
  refine ⟨h.1, fun i hi => ?_⟩
  rw [hS _ (by omega) (by omega)]
  exact h.2 i hi
theorem invTape_c {S S' : Nat → Int32} (h : invTape S) (h9 : S' 9 = S 9) (hS : ∀ j, 274 ≤ j → j < 334 → S' j = S j) : invTape S' := by
  obtain ⟨T, hT, eT, hv⟩ := h
  refine ⟨T, hT, h9.trans eT, fun i hi => ?_⟩
  rw [hS _ (by omega) (by omega)]
  exact hv i hi
theorem relWait_c {F F' : xF} {w : Nat} {S S' : Nat → Int32} (h : relWait F w S) (h1 : F' (w + 15) = F (w + 15)) (h2 : F' (w + 16) = F (w + 16)) (h10 : S' 10 = S 10) (hS : ∀ j, 334 ≤ j → S' j = S j) : relWait F' w S' := by
  unfold relWait
  rw [h1, h2, h10]
  refine ⟨h.1, fun i hi => ?_⟩
  rw [hS _ (by omega)]
  exact h.2 i hi
/-- the class changed its world, the model its row -/
theorem mid_W {F F1 : xF} {S' : Nat → Int32} (h : Rel F) (hF : ∀ k, k = 0 ∨ 18 ≤ k → F1 k = F k) (hw : relW F1 1 S') : Mid F F1 (xrw F 66 S') :=
  ⟨fun a ha => hF a (by omega), relC_W h.1 (by rw [xrw_same]; exact hw) (fun a h1 h2 => hF a h1) (fun a ha => xrw_ne ha)⟩
theorem rel_W {F0 F : xF} {S' : Nat → Int32} (h : Rel F0) (hM : Mid F0 F (xrw F0 66 S')) (hi : invS S') : Rel (xrw F 66 S') := by
  refine rel_end hM (fun a ha => xrw_ne (by omega)) (fun a ha => ?_) (invM_S h.2 (by rw [xrw_same]; exact hi) (fun a ha => xrw_ne ha))
  by_cases e : a = 66
  · subst e
    rw [xrw_same, xrw_same]
  · rw [xrw_ne e, xrw_ne e]
    exact hM.1 a (by omega)
theorem upd_ne {r : Nat → Int32} {j k : Nat} {v : Int32} (h : ¬ k = j) : upd r j v k = r k := if_neg h
theorem upd_same {r : Nat → Int32} {j : Nat} {v : Int32} : upd r j v j = v := if_pos rfl
/-- the people of a world and its row change, nothing else -/
theorem relW_people {F F1 : xF} {w : Nat} {S S' : Nat → Int32} (h : relW F w S) (hi : invS S) (hp : relPw F1 w S') (hF : ∀ k, (k < w + 2 ∨ w + 6 < k) → F1 k = F k) (hS : ∀ j, (j < 11 ∨ 24 ≤ j) → S' j = S j) : relW F1 w S' := by
  obtain ⟨h1, h2, h3, h4, h5, h6, h7⟩ := h
  obtain ⟨i1, i2, i3, t0, t1, i6, i7⟩ := hi
  refine ⟨?_, hp, relL_c h3 t0 (hF _ (by omega)) (hF _ (by omega)) (fun j a b => hS j (by omega)), relL_c h4 t1 (hF _ (by omega)) (hF _ (by omega)) (fun j a b => hS j (by omega)), relTape_c h5 i6 (hF _ (by omega)) (hF _ (by omega)) (hS _ (by omega)) (fun j a b => hS j (by omega)), relWait_c h6 (hF _ (by omega)) (hF _ (by omega)) (hS _ (by omega)) (fun j a => hS j (by omega)), ?_⟩
  · unfold relCr
    rw [hF (w + 1) (by omega), hS 0 (by omega), hS 1 (by omega), hS 2 (by omega), hS 3 (by omega), hS 4 (by omega), hS 5 (by omega), hS 6 (by omega), hS 7 (by omega)]
    exact h1
  · rw [hF w (by omega), hS 8 (by omega)]
    exact h7
theorem invS_people {S S' : Nat → Int32} (hi : invS S) (hp : invP S') (hS : ∀ j, (j < 11 ∨ 24 ≤ j) → S' j = S j) : invS S' := by
  obtain ⟨i1, i2, i3, t0, t1, i6, i7⟩ := hi
  refine ⟨?_, ?_, hp, okT_c t0 (fun j a b => hS j (by omega)), okT_c t1 (fun j a b => hS j (by omega)), invTape_c i6 (hS _ (by omega)) (fun j a b => hS j (by omega)), ?_⟩
  · unfold invC
    rw [hS 0 (by omega), hS 1 (by omega), hS 2 (by omega), hS 3 (by omega), hS 4 (by omega), hS 5 (by omega), hS 6 (by omega)]
    exact i1
  · rw [hS 7 (by omega)]
    exact i2
  · unfold invWait
    rw [hS 10 (by omega)]
    exact i7
