/-! voices: each voice of each kind, walked to its end -/
/-- THE TRACE is these n bodies -/
def traceG (F : xF) (n : Nat) (b : Nat → Int32) : xF := xrw (xp F 65 15 (nI n)) 73 b
theorem traceG_o {F : xF} {n : Nat} {b : Nat → Int32} {a : Nat} (h1 : ¬ a = 65) (h2 : ¬ a = 73) : traceG F n b a = F a := (xrw_ne h2).trans (xp_row_ne h1)
theorem traceG_65 {F : xF} {n : Nat} {b : Nat → Int32} {j : Nat} (h : ¬ j = 15) : traceG F n b 65 j = F 65 j := (congrFun (xrw_ne (by decide)) j).trans (xp_ne (Or.inr h))
theorem traceG_15 {F : xF} {n : Nat} {b : Nat → Int32} : traceG F n b 65 15 = nI n := (congrFun (xrw_ne (by decide)) 15).trans (xp_same _ _ _ _)
theorem traceG_73 {F : xF} {n : Nat} {b : Nat → Int32} : traceG F n b 73 = b := xrw_same _ _ _
theorem mid_trace {F F1 : xF} {n : Nat} {b : Nat → Int32} (h : Rel F) (hn : n ≤ 30) (hf : ∀ a, ¬ a = 52 → ¬ a = 53 → ¬ a = 54 → F1 a = F a) (h1 : F1 53 1 = nI n) (hb : ∀ i, i < n → F1 54 i = b i) : Mid F F1 (traceG F n b) := by
  obtain ⟨g1, ⟨g2, g2'⟩, g3, g4, g5, g6, g7⟩ := h.1
  refine ⟨fun k hk => hf k (by omega) (by omega) (by omega), ?_, ⟨?_, ?_⟩, ?_, ?_, ?_, ?_, ?_⟩
  · rw [traceG_o (by decide) (by decide)]
    exact relW_same g1 (fun k a b => hf k (by omega) (by omega) (by omega))
  · rw [hf (18 + 7) (by omega) (by omega) (by omega), hf (18 + 10) (by omega) (by omega) (by omega)]
    exact g2
  · rw [traceG_65 (by decide), traceG_o (by decide) (by decide)]
    exact fun hh => relW_same (g2' hh) (fun k a b => hf k (by omega) (by omega) (by omega))
  · intro k hk
    rw [traceG_o (by decide) (by decide), hf 56 (by decide) (by decide) (by decide)]
    exact g3 k hk
  · rw [traceG_65 (by decide), hf 0 (by decide) (by decide) (by decide)]
    exact g4
  · rw [traceG_15]
    exact h1
  · rw [traceG_15, traceG_73, nI_clamp (by omega)]
    exact hb
  · intro t ht
    unfold relSheet
    rw [traceG_o (by decide) (by decide), traceG_o (by decide) (by decide), traceG_o (by decide) (by decide), hf (57 + 2 * t) (by omega) (by omega) (by omega), hf (58 + 2 * t) (by omega) (by omega) (by omega)]
    exact g7 t ht
theorem mid_errG {F F1 G : xF} {k : Nat} (h : Mid F F1 G) (hk : k < 7) : Mid F (xp F1 56 k (F1 56 k + 1)) (errF G k) := by
  obtain ⟨g1, ⟨g2, g2'⟩, g3, g4, g5, g6, g7⟩ := h.2
  have hc : ∀ a, ¬ a = 56 → xp F1 56 k (F1 56 k + 1) a = F1 a := fun a ha => xp_row_ne ha
  have hm : ∀ a, ¬ a = 69 → errF G k a = G a := fun a ha => xp_row_ne ha
  refine ⟨fun a ha => (hc a (by omega)).trans (h.1 a ha), ?_, ⟨?_, ?_⟩, ?_, ?_, ?_, ?_, ?_⟩
  · rw [hm 66 (by decide)]
    exact relW_same g1 (fun k a b => hc k (by omega))
  · rw [hc (18 + 7) (by omega), hc (18 + 10) (by omega)]
    exact g2
  · rw [hm 65 (by decide), hm 67 (by decide)]
    exact fun hh => relW_same (g2' hh) (fun k a b => hc k (by omega))
  · intro j hj
    unfold errF
    by_cases e : j = k
    · subst e
      rw [xp_same, xp_same, g3 j hj]
    · rw [xp_ne (Or.inr e), xp_ne (Or.inr e)]
      exact g3 j hj
  · rw [hm 65 (by decide), hc 0 (by decide)]
    exact g4
  · rw [hm 65 (by decide), hc 53 (by decide)]
    exact g5
  · rw [hm 65 (by decide), hm 73 (by decide), hc 54 (by decide)]
    exact g6
  · intro t ht
    unfold relSheet
    rw [hm 74 (by decide), hm 75 (by decide), hm 76 (by decide), hc (57 + 2 * t) (by omega), hc (58 + 2 * t) (by omega)]
    exact g7 t ht
theorem rel_gen {F F2 G : xF} (hC : relC F G) (hi : invM G) (hc : ∀ a, a < 65 → F2 a = F a) (hm : ∀ a, a = 66 ∨ a = 67 ∨ a = 69 ∨ a = 74 ∨ a = 75 ∨ a = 76 → F2 a = G a) (h3 : F2 65 3 = G 65 3) (h5 : F2 65 5 = G 65 5) (h15 : F2 65 15 = G 65 15) (h73 : ∀ i, i < (G 65 15).toNatClampNeg → F2 73 i = G 73 i) : Rel F2 := by
  have e1 := relC_cl hC hc
  obtain ⟨g1, g2, g3, g4, g5, g6, g7⟩ := e1
  refine ⟨⟨?_, ?_, ?_, ?_, ?_, ?_, ?_⟩, ?_⟩
  · rw [hm 66 (by omega)]
    exact g1
  · rw [hm 67 (by omega), h3]
    exact g2
  · rw [hm 69 (by omega)]
    exact g3
  · rw [h3]
    exact g4
  · rw [h15]
    exact g5
  · intro i hi'
    rw [h15] at hi'
    rw [h73 i hi']
    exact g6 i hi'
  · intro t ht
    unfold relSheet
    rw [hm 74 (by omega), hm 75 (by omega), hm 76 (by omega)]
    exact g7 t ht
  · unfold invM invSheet at *
    rw [hm 66 (by omega), hm 67 (by omega), hm 74 (by omega), hm 75 (by omega), h3, h5, h15]
    exact hi
theorem inv_trace {F : xF} {n : Nat} {b : Nat → Int32} (h : Rel F) (hn : n ≤ 30) : invM (traceG F n b) := by
  obtain ⟨i1, i2, i3, i4, i5⟩ := h.2
  refine ⟨?_, ?_, ?_, ⟨n, hn, traceG_15⟩, ?_⟩
  · rw [traceG_o (by decide) (by decide)]
    exact i1
  · rw [traceG_65 (by decide), traceG_o (by decide) (by decide)]
    exact i2
  · rw [traceG_65 (by decide)]
    exact i3
  · intro t ht
    unfold invSheet
    rw [traceG_o (by decide) (by decide), traceG_o (by decide) (by decide)]
    exact i5 t ht
theorem rel_trace {F0 F F2 : xF} {n : Nat} {b : Nat → Int32} (h : Rel F0) (hn : n ≤ 30) (hM : Mid F0 F (traceG F0 n b)) (hc : ∀ a, ¬ a = 65 → ¬ a = 73 → F2 a = F a) (h3 : F2 65 3 = F 65 3) (h5 : F2 65 5 = F 65 5) (h15 : F2 65 15 = nI n) (hb : ∀ i, i < n → F2 73 i = b i) : Rel F2 := by
  refine rel_gen hM.2 (inv_trace h hn) (fun a ha => hc a (by omega) (by omega)) (fun a ha => ?_) ?_ ?_ (h15.trans traceG_15.symm) (fun i hi => ?_)
  · rw [hc a (by omega) (by omega), traceG_o (by omega) (by omega)]
    exact hM.1 a (by omega)
  · rw [h3, traceG_65 (by decide), hM.1 65 (by decide)]
  · rw [h5, traceG_65 (by decide), hM.1 65 (by decide)]
  · rw [traceG_15, nI_clamp (by omega)] at hi
    rw [traceG_73]
    exact hb i hi
theorem rel_trace_err {F0 F F2 : xF} {n k : Nat} {b : Nat → Int32} (h : Rel F0) (hn : n ≤ 30) (hM : Mid F0 F (errF (traceG F0 n b) k)) (hc : ∀ a, ¬ a = 65 → ¬ a = 73 → F2 a = F a) (h3 : F2 65 3 = F 65 3) (h5 : F2 65 5 = F 65 5) (h15 : F2 65 15 = nI n) (hb : ∀ i, i < n → F2 73 i = b i) : Rel (xp F2 69 k (F2 69 k + 1)) := by
  have hm : ∀ a, ¬ a = 69 → errF (traceG F0 n b) k a = traceG F0 n b a := fun a ha => xp_row_ne ha
  have hi := inv_trace (n := n) (b := b) h hn
  refine rel_gen hM.2 (invM_mo hi (fun a ha => hm a (by omega))) (fun a ha => (xp_row_ne (by omega)).trans (hc a (by omega) (by omega))) (fun a ha => ?_) ?_ ?_ ?_ (fun i hi => ?_)
  · by_cases e : a = 69
    · subst e
      rw [xp_at]
      unfold errF
      rw [xp_at, traceG_o (by decide) (by decide), hc 69 (by decide) (by decide), hM.1 69 (by decide)]
    · rw [xp_row_ne e, hm a e, hc a (by omega) (by omega), traceG_o (by omega) (by omega)]
      exact hM.1 a (by omega)
  · rw [xp_row_ne (by decide), hm 65 (by decide), h3, traceG_65 (by decide), hM.1 65 (by decide)]
  · rw [xp_row_ne (by decide), hm 65 (by decide), h5, traceG_65 (by decide), hM.1 65 (by decide)]
  · rw [xp_row_ne (by decide), hm 65 (by decide), h15, traceG_15]
  · rw [hm 65 (by decide), traceG_15, nI_clamp (by omega)] at hi
    rw [xp_row_ne (by decide), hm 73 (by decide), traceG_73]
    exact hb i hi
