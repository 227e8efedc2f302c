/-! what the further calls share: parts of the relation that change alone -/
theorem V2_lit {L : Nat} {xs : Nat → Int32} {d : Nat} {M : xM} {pc : Nat} {l : xL} {st : List Value} {F : xF} {Q : Option Value → xF → Prop} {x v : Int32} (h : x = v) (k : V2 L xs d M pc l (.int v :: st) F Q) : V2 L xs d M pc l (.int x :: st) F Q := by
  rw [h]
  exact k
theorem in_of {x : Int32} {P : Nat} (h0 : 0 ≤ x.toInt) (h1 : x.toInt < (P : Int)) (hP : P ≤ 1000) : ∃ p : Nat, p < P ∧ x = nI p := by
  refine ⟨x.toInt.toNat, by omega, ?_⟩
  refine Int32.toInt_inj.mp ?_
  rw [nI_toInt (by omega)]
  omega
theorem PN_int {S : Nat → Int32} (h : invP S) : (S 11).toInt = (PN S : Int) := by
  obtain ⟨e, h6⟩ := inv_PN h
  have e2 := nI_toInt (n := PN S) (by omega)
  rw [← e] at e2
  exact e2
def WN (S : Nat → Int32) : Nat := (S 10).toNatClampNeg
theorem inv_WN {S : Nat → Int32} (h : invWait S) : S 10 = nI (WN S) ∧ WN S ≤ 24 := by
  obtain ⟨T, hT, e⟩ := h
  have e2 : WN S = T := by
    unfold WN
    rw [e]
    exact nI_clamp (by omega)
  rw [e2]
  exact ⟨e, hT⟩
theorem WN_int {S : Nat → Int32} (h : invWait S) : (S 10).toInt = (WN S : Int) := by
  obtain ⟨e, h6⟩ := inv_WN h
  have e2 := nI_toInt (n := WN S) (by omega)
  rw [← e] at e2
  exact e2
def TN (S : Nat → Int32) : Nat := (S 9).toNatClampNeg
theorem inv_TN {S : Nat → Int32} (h : invTape S) : S 9 = nI (TN S) ∧ TN S ≤ 60 := by
  obtain ⟨T, hT, e, _⟩ := h
  have e2 : TN S = T := by
    unfold TN
    rw [e]
    exact nI_clamp (by omega)
  rw [e2]
  exact ⟨e, hT⟩
theorem TN_int {S : Nat → Int32} (h : invTape S) : (S 9).toInt = (TN S : Int) := by
  obtain ⟨e, h6⟩ := inv_TN h
  have e2 := nI_toInt (n := TN S) (by omega)
  rw [← e] at e2
  exact e2
theorem div10 {x : Int32} (h : 0 ≤ x.toInt) : (x / 10).toInt = x.toInt / 10 := by
  have e : (10 : Int32).toInt = 10 := by decide
  rw [Int32.toInt_div_of_ne_right _ _ (by decide), e]
  exact Int.tdiv_eq_ediv_of_nonneg h
theorem mod10 {x : Int32} (h : 0 ≤ x.toInt) : (x % 10).toInt = x.toInt % 10 := by
  have e : (10 : Int32).toInt = 10 := by decide
  rw [Int32.toInt_mod, e]
  exact Int.tmod_eq_emod_of_nonneg h
theorem relCr_c {r r' S S' : Nat → Int32} (h : relCr r S) (h1 : r' = r) (hS : ∀ j, j < 8 → S' j = S j) : relCr r' S' := by
  subst h1
  unfold relCr
  rw [hS 0 (by omega), hS 1 (by omega), hS 2 (by omega), hS 3 (by omega), hS 4 (by omega), hS 5 (by omega), hS 6 (by omega), hS 7 (by omega)]
  exact h
theorem invC_c {S S' : Nat → Int32} (h : invC S) (hS : ∀ j, j < 8 → S' j = S j) : invC S' := by
  unfold invC
  rw [hS 0 (by omega), hS 1 (by omega), hS 2 (by omega), hS 3 (by omega), hS 4 (by omega), hS 5 (by omega), hS 6 (by omega)]
  exact h
theorem invWait_c {S S' : Nat → Int32} (h : invWait S) (e : S' 10 = S 10) : invWait S' := by
  unfold invWait
  rw [e]
  exact h
theorem relW_tape {F F1 : xF} {S S' : Nat → Int32} (h : relW F 1 S) (hi : invS S) (ht : relTape F1 1 S') (hF : ∀ k, ¬ k = 14 → ¬ k = 15 → F1 k = F k) (hS : ∀ j, ¬ j = 9 → (j < 274 ∨ 334 ≤ j) → S' j = S j) : relW F1 1 S' := by
  obtain ⟨h1, h2, h3, h4, h5, h6, h7⟩ := h
  obtain ⟨i1, i2, i3, t0, t1, i6, i7⟩ := hi
  refine ⟨relCr_c h1 (hF _ (by decide) (by decide)) (fun j a => hS j (by omega) (by omega)), relPw_c h2 i3 (fun k a b => hF k (by omega) (by omega)) (fun j a b => hS j (by omega) (by omega)), relL_c h3 t0 (hF _ (by decide) (by decide)) (hF _ (by decide) (by decide)) (fun j a b => hS j (by omega) (by omega)), relL_c h4 t1 (hF _ (by decide) (by decide)) (hF _ (by decide) (by decide)) (fun j a b => hS j (by omega) (by omega)), ht, relWait_c h6 (hF _ (by decide) (by decide)) (hF _ (by decide) (by decide)) (hS _ (by omega) (by omega)) (fun j a => hS j (by omega) (by omega)), ?_⟩
  rw [hF 1 (by decide) (by decide), hS 8 (by omega) (by omega)]
  exact h7
theorem relW_wait {F F1 : xF} {S S' : Nat → Int32} (h : relW F 1 S) (hi : invS S) (ht : relWait F1 1 S') (hF : ∀ k, ¬ k = 16 → ¬ k = 17 → F1 k = F k) (hS : ∀ j, ¬ j = 10 → j < 334 → S' j = S j) : relW F1 1 S' := by
  obtain ⟨h1, h2, h3, h4, h5, h6, h7⟩ := h
  obtain ⟨i1, i2, i3, t0, t1, i6, i7⟩ := hi
  refine ⟨relCr_c h1 (hF _ (by decide) (by decide)) (fun j a => hS j (by omega) (by omega)), relPw_c h2 i3 (fun k a b => hF k (by omega) (by omega)) (fun j a b => hS j (by omega) (by omega)), relL_c h3 t0 (hF _ (by decide) (by decide)) (hF _ (by decide) (by decide)) (fun j a b => hS j (by omega) (by omega)), relL_c h4 t1 (hF _ (by decide) (by decide)) (hF _ (by decide) (by decide)) (fun j a b => hS j (by omega) (by omega)), relTape_c h5 i6 (hF _ (by decide) (by decide)) (hF _ (by decide) (by decide)) (hS _ (by omega) (by omega)) (fun j a b => hS j (by omega) (by omega)), ht, ?_⟩
  rw [hF 1 (by decide) (by decide), hS 8 (by omega) (by omega)]
  exact h7
theorem relW_law0 {F F1 : xF} {S S' : Nat → Int32} (h : relW F 1 S) (hi : invS S) (ht : relL F1 8 0 S') (hF : ∀ k, ¬ k = 8 → ¬ k = 9 → ¬ k = 10 → F1 k = F k) (hS : ∀ j, (j < 24 ∨ 149 ≤ j) → S' j = S j) : relW F1 1 S' := by
  obtain ⟨h1, h2, h3, h4, h5, h6, h7⟩ := h
  obtain ⟨i1, i2, i3, t0, t1, i6, i7⟩ := hi
  refine ⟨relCr_c h1 (hF _ (by decide) (by decide) (by decide)) (fun j a => hS j (by omega)), relPw_c h2 i3 (fun k a b => hF k (by omega) (by omega) (by omega)) (fun j a b => hS j (by omega)), ht, relL_c h4 t1 (hF _ (by decide) (by decide) (by decide)) (hF _ (by decide) (by decide) (by decide)) (fun j a b => hS j (by omega)), relTape_c h5 i6 (hF _ (by decide) (by decide) (by decide)) (hF _ (by decide) (by decide) (by decide)) (hS _ (by omega)) (fun j a b => hS j (by omega)), relWait_c h6 (hF _ (by decide) (by decide) (by decide)) (hF _ (by decide) (by decide) (by decide)) (hS _ (by omega)) (fun j a => hS j (by omega)), ?_⟩
  rw [hF 1 (by decide) (by decide) (by decide), hS 8 (by omega)]
  exact h7
theorem relW_law1 {F F1 : xF} {S S' : Nat → Int32} (h : relW F 1 S) (hi : invS S) (ht : relL F1 11 1 S') (hF : ∀ k, ¬ k = 11 → ¬ k = 12 → ¬ k = 13 → F1 k = F k) (hS : ∀ j, (j < 149 ∨ 274 ≤ j) → S' j = S j) : relW F1 1 S' := by
  obtain ⟨h1, h2, h3, h4, h5, h6, h7⟩ := h
  obtain ⟨i1, i2, i3, t0, t1, i6, i7⟩ := hi
  refine ⟨relCr_c h1 (hF _ (by decide) (by decide) (by decide)) (fun j a => hS j (by omega)), relPw_c h2 i3 (fun k a b => hF k (by omega) (by omega) (by omega)) (fun j a b => hS j (by omega)), relL_c h3 t0 (hF _ (by decide) (by decide) (by decide)) (hF _ (by decide) (by decide) (by decide)) (fun j a b => hS j (by omega)), ht, relTape_c h5 i6 (hF _ (by decide) (by decide) (by decide)) (hF _ (by decide) (by decide) (by decide)) (hS _ (by omega)) (fun j a b => hS j (by omega)), relWait_c h6 (hF _ (by decide) (by decide) (by decide)) (hF _ (by decide) (by decide) (by decide)) (hS _ (by omega)) (fun j a => hS j (by omega)), ?_⟩
  rw [hF 1 (by decide) (by decide) (by decide), hS 8 (by omega)]
  exact h7
theorem invS_tape {S S' : Nat → Int32} (hi : invS S) (ht : invTape S') (hS : ∀ j, ¬ j = 9 → (j < 274 ∨ 334 ≤ j) → S' j = S j) : invS S' := by
  obtain ⟨i1, i2, i3, t0, t1, i6, i7⟩ := hi
  refine ⟨invC_c i1 (fun j a => hS j (by omega) (by omega)), ?_, invP_c i3 (fun j a b => hS j (by omega) (by omega)), okT_c t0 (fun j a b => hS j (by omega) (by omega)), okT_c t1 (fun j a b => hS j (by omega) (by omega)), ht, invWait_c i7 (hS _ (by omega) (by omega))⟩
  rw [hS 7 (by omega) (by omega)]
  exact i2
theorem invS_wait {S S' : Nat → Int32} (hi : invS S) (ht : invWait S') (hS : ∀ j, ¬ j = 10 → j < 334 → S' j = S j) : invS S' := by
  obtain ⟨i1, i2, i3, t0, t1, i6, i7⟩ := hi
  refine ⟨invC_c i1 (fun j a => hS j (by omega) (by omega)), ?_, invP_c i3 (fun j a b => hS j (by omega) (by omega)), okT_c t0 (fun j a b => hS j (by omega) (by omega)), okT_c t1 (fun j a b => hS j (by omega) (by omega)), invTape_c i6 (hS _ (by omega) (by omega)) (fun j a b => hS j (by omega) (by omega)), ht⟩
  rw [hS 7 (by omega) (by omega)]
  exact i2
theorem invS_law0 {S S' : Nat → Int32} (hi : invS S) (ht : okT 0 S') (hS : ∀ j, (j < 24 ∨ 149 ≤ j) → S' j = S j) : invS S' := by
  obtain ⟨i1, i2, i3, t0, t1, i6, i7⟩ := hi
  refine ⟨invC_c i1 (fun j a => hS j (by omega)), ?_, invP_c i3 (fun j a b => hS j (by omega)), ht, okT_c t1 (fun j a b => hS j (by omega)), invTape_c i6 (hS _ (by omega)) (fun j a b => hS j (by omega)), invWait_c i7 (hS _ (by omega))⟩
  rw [hS 7 (by omega)]
  exact i2
theorem invS_law1 {S S' : Nat → Int32} (hi : invS S) (ht : okT 1 S') (hS : ∀ j, (j < 149 ∨ 274 ≤ j) → S' j = S j) : invS S' := by
  obtain ⟨i1, i2, i3, t0, t1, i6, i7⟩ := hi
  refine ⟨invC_c i1 (fun j a => hS j (by omega)), ?_, invP_c i3 (fun j a b => hS j (by omega)), okT_c t0 (fun j a b => hS j (by omega)), ht, invTape_c i6 (hS _ (by omega)) (fun j a b => hS j (by omega)), invWait_c i7 (hS _ (by omega))⟩
  rw [hS 7 (by omega)]
  exact i2
theorem relTape_add {F : xF} {T : Nat} {S : Nat → Int32} {v : Int32} (h : relTape F 1 S) (e : S 9 = nI T) (hT : T < 60) : relTape (xp (xp F 15 T v) 14 1 (nI (T + 1))) 1 (upd (upd S (274 + T) v) 9 (nI (T + 1))) := by
  refine ⟨?_, fun i hi => ?_⟩
  · exact (xp_same _ _ _ _).trans upd_same.symm
  · rw [upd_same, nI_clamp (by omega)] at hi
    rw [upd_ne (show ¬ 274 + i = 9 by omega)]
    show xp (xp F 15 T v) 14 1 (nI (T + 1)) 15 i = _
    rw [xp_ne (Or.inl (by decide))]
    by_cases hc : i = T
    · subst hc
      rw [xp_same, upd_same]
    · rw [xp_ne (Or.inr hc), upd_ne (by omega)]
      exact h.2 i (by rw [e, nI_clamp (by omega)]; omega)
theorem relWait_add {F : xF} {T : Nat} {S : Nat → Int32} {v : Int32} (h : relWait F 1 S) (e : S 10 = nI T) (hT : T < 24) : relWait (xp (xp F 17 T v) 16 1 (nI (T + 1))) 1 (upd (upd S (334 + T) v) 10 (nI (T + 1))) := by
  refine ⟨?_, fun i hi => ?_⟩
  · exact (xp_same _ _ _ _).trans upd_same.symm
  · rw [upd_same, nI_clamp (by omega)] at hi
    rw [upd_ne (show ¬ 334 + i = 10 by omega)]
    show xp (xp F 17 T v) 16 1 (nI (T + 1)) 17 i = _
    rw [xp_ne (Or.inl (by decide))]
    by_cases hc : i = T
    · subst hc
      rw [xp_same, upd_same]
    · rw [xp_ne (Or.inr hc), upd_ne (by omega)]
      exact h.2 i (by rw [e, nI_clamp (by omega)]; omega)
theorem invTape_add {S : Nat → Int32} {T : Nat} {v : Int32} (h : invTape S) (e : S 9 = nI T) (hT : T < 60) (hv : 0 ≤ v.toInt ∧ v.toInt ≤ 255) : invTape (upd (upd S (274 + T) v) 9 (nI (T + 1))) := by
  obtain ⟨P, hP, eP, hp⟩ := h
  have eq : P = T := (nI_eq (by omega) (by omega)).mp (eP.symm.trans e)
  subst eq
  refine ⟨P + 1, by omega, upd_same, fun i hi => ?_⟩
  rw [upd_ne (show ¬ 274 + i = 9 by omega)]
  by_cases hc : i = P
  · subst hc
    rw [upd_same]
    exact hv
  · rw [upd_ne (by omega)]
    exact hp i (by omega)
theorem invWait_add {S : Nat → Int32} {T : Nat} {v : Int32} (hT : T < 24) : invWait (upd (upd S (334 + T) v) 10 (nI (T + 1))) := ⟨T + 1, by omega, upd_same⟩
theorem relPw_add {F : xF} {P : Nat} {S : Nat → Int32} {a b : Int32} (h : relPw F 1 S) (e : S 11 = nI P) (hP : P < 6) : relPw (xp (xp (xp F 3 2 (nI (P + 1))) 5 P a) 7 P b) 1 (upd (upd (upd S (12 + 2 * P) a) (12 + 2 * P + 1) b) 11 (nI (P + 1))) := by
  refine ⟨?_, ?_, fun i hi => ?_⟩
  · rw [upd_same]
    exact xp_same F 3 2 (nI (P + 1))
  · rw [upd_same]
    exact xp_same F 3 2 (nI (P + 1))
  · rw [upd_same, nI_clamp (by omega)] at hi
    rw [upd_ne (show ¬ 12 + 2 * i = 11 by omega), upd_ne (show ¬ 12 + 2 * i + 1 = 11 by omega)]
    show xp (xp (xp F 3 2 (nI (P + 1))) 5 P a) 7 P b 5 i = _ ∧ xp (xp (xp F 3 2 (nI (P + 1))) 5 P a) 7 P b 7 i = _
    rw [xp_ne (k := 7) (Or.inl (by decide))]
    by_cases hc : i = P
    · subst hc
      rw [xp_same, xp_same, upd_ne (show ¬ 12 + 2 * i = 12 + 2 * i + 1 by omega), upd_same, upd_same]
      exact ⟨rfl, rfl⟩
    · rw [xp_ne (Or.inr hc), xp_ne (Or.inr hc), upd_ne (show ¬ 12 + 2 * i = 12 + 2 * P + 1 by omega), upd_ne (show ¬ 12 + 2 * i = 12 + 2 * P by omega), upd_ne (show ¬ 12 + 2 * i + 1 = 12 + 2 * P + 1 by omega), upd_ne (show ¬ 12 + 2 * i + 1 = 12 + 2 * P by omega)]
      exact h.2.2 i (by rw [e, nI_clamp (by omega)]; omega)
theorem invP_add {P : Nat} {S : Nat → Int32} {a b : Int32} (h : invP S) (e : S 11 = nI P) (hP : P < 6) (ha : 0 ≤ a.toInt ∧ a.toInt ≤ 6) (hb : 0 ≤ b.toInt ∧ b.toInt ≤ 9) : invP (upd (upd (upd S (12 + 2 * P) a) (12 + 2 * P + 1) b) 11 (nI (P + 1))) := by
  obtain ⟨R, hR, eR, hp⟩ := h
  have eq : R = P := (nI_eq (by omega) (by omega)).mp (eR.symm.trans e)
  subst eq
  refine ⟨R + 1, by omega, upd_same, fun i hi => ?_⟩
  rw [upd_ne (show ¬ 12 + 2 * i = 11 by omega), upd_ne (show ¬ 12 + 2 * i + 1 = 11 by omega)]
  by_cases hc : i = R
  · subst hc
    rw [upd_ne (show ¬ 12 + 2 * i = 12 + 2 * i + 1 by omega), upd_same, upd_same]
    exact ⟨ha, hb⟩
  · rw [upd_ne (show ¬ 12 + 2 * i = 12 + 2 * R + 1 by omega), upd_ne (show ¬ 12 + 2 * i = 12 + 2 * R by omega), upd_ne (show ¬ 12 + 2 * i + 1 = 12 + 2 * R + 1 by omega), upd_ne (show ¬ 12 + 2 * i + 1 = 12 + 2 * R by omega)]
    exact hp i (by omega)
theorem relPw_turn {F : xF} {p : Nat} {S : Nat → Int32} {a b : Int32} (h : relPw F 1 S) : relPw (xp (xp F 5 p a) 7 p b) 1 (upd (upd S (12 + 2 * p + 1) b) (12 + 2 * p) a) := by
  refine ⟨?_, ?_, fun i hi => ?_⟩
  · rw [upd_ne (by omega), upd_ne (by omega)]
    exact h.1
  · rw [upd_ne (by omega), upd_ne (by omega)]
    exact h.2.1
  · rw [upd_ne (by omega), upd_ne (by omega)] at hi
    have h9 := h.2.2 i hi
    show xp (xp F 5 p a) 7 p b 5 i = _ ∧ xp (xp F 5 p a) 7 p b 7 i = _
    rw [xp_ne (k := 7) (Or.inl (by decide))]
    by_cases hc : i = p
    · subst hc
      rw [xp_same, xp_same, upd_same, upd_ne (show ¬ 12 + 2 * i + 1 = 12 + 2 * i by omega), upd_same]
      exact ⟨rfl, rfl⟩
    · rw [xp_ne (Or.inr hc), xp_ne (Or.inr hc), xp_ne (Or.inl (by decide)), upd_ne (show ¬ 12 + 2 * i = 12 + 2 * p by omega), upd_ne (show ¬ 12 + 2 * i = 12 + 2 * p + 1 by omega), upd_ne (show ¬ 12 + 2 * i + 1 = 12 + 2 * p by omega), upd_ne (show ¬ 12 + 2 * i + 1 = 12 + 2 * p + 1 by omega)]
      exact h9
theorem invP_turn {p : Nat} {S : Nat → Int32} {a b : Int32} (h : invP S) (ha : 0 ≤ a.toInt ∧ a.toInt ≤ 6) (hb : 0 ≤ b.toInt ∧ b.toInt ≤ 9) : invP (upd (upd S (12 + 2 * p + 1) b) (12 + 2 * p) a) := by
  obtain ⟨R, hR, eR, hp⟩ := h
  refine ⟨R, hR, ?_, fun i hi => ?_⟩
  · rw [upd_ne (by omega), upd_ne (by omega)]
    exact eR
  · have h9 := hp i hi
    by_cases hc : i = p
    · subst hc
      rw [upd_same, upd_ne (show ¬ 12 + 2 * i + 1 = 12 + 2 * i by omega), upd_same]
      exact ⟨ha, hb⟩
    · rw [upd_ne (show ¬ 12 + 2 * i = 12 + 2 * p by omega), upd_ne (show ¬ 12 + 2 * i = 12 + 2 * p + 1 by omega), upd_ne (show ¬ 12 + 2 * i + 1 = 12 + 2 * p by omega), upd_ne (show ¬ 12 + 2 * i + 1 = 12 + 2 * p + 1 by omega)]
      exact h9
theorem heldI {v lo hi : Int32} : (heldS v lo hi).toInt = if v.toInt < lo.toInt then lo.toInt else if hi.toInt < v.toInt then hi.toInt else v.toInt := by
  unfold heldS
  by_cases h1 : v < lo
  · rw [if_pos h1, if_pos (toI_lt.mp h1)]
  · rw [if_neg h1, if_neg (fun h => h1 (toI_lt.mpr h))]
    by_cases h2 : hi < v
    · rw [if_pos h2, if_pos (toI_lt.mp h2)]
    · rw [if_neg h2, if_neg (fun h => h2 (toI_lt.mpr h))]
theorem mxI {m v : Int32} : (mx m v).toInt = if m.toInt < v.toInt then v.toInt else m.toInt := by
  unfold mx
  by_cases h1 : m < v
  · rw [if_pos h1, if_pos (toI_lt.mp h1)]
  · rw [if_neg h1, if_neg (fun h => h1 (toI_lt.mpr h))]
