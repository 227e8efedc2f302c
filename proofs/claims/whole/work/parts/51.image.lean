/-! image, restore -/
theorem relCr_row {r r' S : Nat → Int32} (h : relCr r S) (hr : ∀ j, j < 8 → r' j = r j) : relCr r' S := by
  unfold relCr
  rw [hr 0 (by omega), hr 1 (by omega), hr 2 (by omega), hr 3 (by omega), hr 4 (by omega), hr 5 (by omega), hr 6 (by omega), hr 7 (by omega)]
  exact h
theorem relW_same {F F' : xF} {w : Nat} {S : Nat → Int32} (h : relW F w S) (hF : ∀ k, w ≤ k → k ≤ w + 16 → F' k = F k) : relW F' w S := by
  unfold relW relPw relTape relWait relL at *
  rw [hF (w + 1) (by omega) (by omega), hF (w + 2) (by omega) (by omega), hF (w + 4) (by omega) (by omega), hF (w + 6) (by omega) (by omega), hF (w + 7) (by omega) (by omega), hF (w + 7 + 1) (by omega) (by omega), hF (w + 10) (by omega) (by omega), hF (w + 10 + 1) (by omega) (by omega), hF (w + 13) (by omega) (by omega), hF (w + 14) (by omega) (by omega), hF (w + 15) (by omega) (by omega), hF (w + 16) (by omega) (by omega), hF w (by omega) (by omega)]
  exact h
theorem relW_congr {F : xF} {w : Nat} {S S' : Nat → Int32} (h : relW F w S) (hi : invS S) (hS : ∀ j, j < 358 → S' j = S j) : relW F w S' := by
  obtain ⟨h1, h2, h3, h4, h5, h6, h7⟩ := h
  obtain ⟨i1, i2, i3, t0, t1, i6, i7⟩ := hi
  refine ⟨relCr_c h1 rfl (fun j a => hS j (by omega)), relPw_c h2 i3 (fun k a b => rfl) (fun j a b => hS j (by omega)), relL_c h3 t0 rfl rfl (fun j a b => hS j (by omega)), relL_c h4 t1 rfl rfl (fun j a b => hS j (by omega)), relTape_c h5 i6 rfl rfl (hS _ (by omega)) (fun j a b => hS j (by omega)), ?_, h7.trans (hS 8 (by omega)).symm⟩
  obtain ⟨eW, hW⟩ := inv_WN i7
  refine ⟨h6.1.trans (hS 10 (by omega)).symm, fun i hh => ?_⟩
  rw [hS 10 (by omega)] at hh
  rw [hS (334 + i) (by have : i < WN S := hh; omega)]
  exact h6.2 i hh
theorem invS_congr {S S' : Nat → Int32} (hi : invS S) (hS : ∀ j, j < 358 → S' j = S j) : invS S' := by
  obtain ⟨i1, i2, i3, t0, t1, i6, i7⟩ := hi
  refine ⟨invC_c i1 (fun j a => hS j (by omega)), ?_, invP_c i3 (fun j a b => hS j (by omega)), okT_c t0 (fun j a b => hS j (by omega)), okT_c t1 (fun j a b => hS j (by omega)), invTape_c i6 (hS _ (by omega)) (fun j a b => hS j (by omega)), invWait_c i7 (hS _ (by omega))⟩
  rw [hS 7 (by omega)]
  exact i2
/-- the first of a row out of another -/
def cutS (f t : Nat → Int32) (n : Nat) : Nat → Int32 := fun j => if j < n then f j else t j
theorem cutS_in {f t : Nat → Int32} {n j : Nat} (h : j < n) : cutS f t n j = f j := if_pos h
theorem cutS_upd {f t : Nat → Int32} {n : Nat} : upd (cutS f t n) n (f n) = cutS f t (n + 1) := by
  funext j
  unfold upd cutS
  by_cases h1 : j = n
  · subst h1
    rw [if_pos rfl, if_pos (by omega)]
  · rw [if_neg h1]
    by_cases h2 : j < n
    · rw [if_pos h2, if_pos (by omega)]
    · rw [if_neg h2, if_neg (by omega)]
theorem c_Car_copy_19_2 {L : Nat} {xs : Nat → Int32} {d : Nat} {Q : Option Value → xF → Prop} {F : xF}  (hz : F 2 7 = 0 ∨ F 2 7 = 1) (hQ : ∀ G : xF, (∀ j, j < 8 → G 19 j = F 2 j) → (∀ k, ¬ k = 19 → G k = F k) → Q none G) : V2 L xs d m_Car_copyFrom 0 (xEntry [.ref 19, .ref 2] 2) [] F Q := by
  refine V2.to (l' := [some (.ref 19), some (.ref 2)]) ?_ rfl rfl rfl rfl
  refine V2_aload_n (i := 0) d_Car_copyFrom_0 rfl rfl ?_
  refine V2_aload_n (i := 1) d_Car_copyFrom_1 rfl rfl ?_
  refine V2_get (v := F 2 0) d_Car_copyFrom_2 fl_Car_7 (by decide) rfl (by decide) rfl rfl ?_
  refine V2_topi (fun v1 ev1 => ?_)
  refine V2_put d_Car_copyFrom_5 fl_Car_7 (by decide) rfl (by decide) rfl ?_
  refine V2_aload_n (i := 0) d_Car_copyFrom_8 rfl rfl ?_
  refine V2_aload_n (i := 1) d_Car_copyFrom_9 rfl rfl ?_
  refine V2_get (v := F 2 1) d_Car_copyFrom_10 fl_Car_13 (by decide) rfl (by decide) rfl rfl ?_
  refine V2_topi (fun v2 ev2 => ?_)
  refine V2_put d_Car_copyFrom_13 fl_Car_13 (by decide) rfl (by decide) rfl ?_
  refine V2_aload_n (i := 0) d_Car_copyFrom_16 rfl rfl ?_
  refine V2_aload_n (i := 1) d_Car_copyFrom_17 rfl rfl ?_
  refine V2_get (v := F 2 2) d_Car_copyFrom_18 fl_Car_16 (by decide) rfl (by decide) rfl rfl ?_
  refine V2_topi (fun v3 ev3 => ?_)
  refine V2_put d_Car_copyFrom_21 fl_Car_16 (by decide) rfl (by decide) rfl ?_
  refine V2_aload_n (i := 0) d_Car_copyFrom_24 rfl rfl ?_
  refine V2_aload_n (i := 1) d_Car_copyFrom_25 rfl rfl ?_
  refine V2_get (v := F 2 3) d_Car_copyFrom_26 fl_Car_19 (by decide) rfl (by decide) rfl rfl ?_
  refine V2_topi (fun v4 ev4 => ?_)
  refine V2_put d_Car_copyFrom_29 fl_Car_19 (by decide) rfl (by decide) rfl ?_
  refine V2_aload_n (i := 0) d_Car_copyFrom_32 rfl rfl ?_
  refine V2_aload_n (i := 1) d_Car_copyFrom_33 rfl rfl ?_
  refine V2_get (v := F 2 4) d_Car_copyFrom_34 fl_Car_22 (by decide) rfl (by decide) rfl rfl ?_
  refine V2_topi (fun v5 ev5 => ?_)
  refine V2_put d_Car_copyFrom_37 fl_Car_22 (by decide) rfl (by decide) rfl ?_
  refine V2_aload_n (i := 0) d_Car_copyFrom_40 rfl rfl ?_
  refine V2_aload_n (i := 1) d_Car_copyFrom_41 rfl rfl ?_
  refine V2_get (v := F 2 5) d_Car_copyFrom_42 fl_Car_25 (by decide) rfl (by decide) rfl rfl ?_
  refine V2_topi (fun v6 ev6 => ?_)
  refine V2_put d_Car_copyFrom_45 fl_Car_25 (by decide) rfl (by decide) rfl ?_
  refine V2_aload_n (i := 0) d_Car_copyFrom_48 rfl rfl ?_
  refine V2_aload_n (i := 1) d_Car_copyFrom_49 rfl rfl ?_
  refine V2_get (v := F 2 6) d_Car_copyFrom_50 fl_Car_28 (by decide) rfl (by decide) rfl rfl ?_
  refine V2_topi (fun v7 ev7 => ?_)
  refine V2_put d_Car_copyFrom_53 fl_Car_28 (by decide) rfl (by decide) rfl ?_
  refine V2_aload_n (i := 0) d_Car_copyFrom_56 rfl rfl ?_
  refine V2_aload_n (i := 1) d_Car_copyFrom_57 rfl rfl ?_
  refine V2_get (v := F 2 7) d_Car_copyFrom_58 fl_Car_31 (by decide) rfl (by decide) rfl rfl ?_
  refine V2_topi (fun v8 ev8 => ?_)
  have hzz : v8 = 0 ∨ v8 = 1 := by subst ev8 ev7 ev6 ev5 ev4 ev3 ev2 ev1; exact hz
  refine V2_putz d_Car_copyFrom_61 fl_Car_31 (by decide) rfl (by decide) rfl (by assumption) ?_
  refine V2_return d_Car_copyFrom_64 rfl ?_
  subst ev8 ev7 ev6 ev5 ev4 ev3 ev2 ev1
  refine xQv (hQ (xrw F 19 (upd (upd (upd (upd (upd (upd (upd (upd (F 19) 0 (F 2 0)) 1 (F 2 1)) 2 (F 2 2)) 3 (F 2 3)) 4 (F 2 4)) 5 (F 2 5)) 6 (F 2 6)) 7 (F 2 7))) (fun j hj => ?_) (fun k hk => xrw_ne hk)) (by rw [xp_row F, xp_xrw, xp_xrw, xp_xrw, xp_xrw, xp_xrw, xp_xrw, xp_xrw])
  rw [xrw_same]
  rcases (show j = 0 ∨ j = 1 ∨ j = 2 ∨ j = 3 ∨ j = 4 ∨ j = 5 ∨ j = 6 ∨ j = 7 by omega) with h | h | h | h | h | h | h | h <;> subst h <;> rfl
theorem c_Car_copy_2_19 {L : Nat} {xs : Nat → Int32} {d : Nat} {Q : Option Value → xF → Prop} {F : xF}  (hz : F 19 7 = 0 ∨ F 19 7 = 1) (hQ : ∀ G : xF, (∀ j, j < 8 → G 2 j = F 19 j) → (∀ k, ¬ k = 2 → G k = F k) → Q none G) : V2 L xs d m_Car_copyFrom 0 (xEntry [.ref 2, .ref 19] 2) [] F Q := by
  refine V2.to (l' := [some (.ref 2), some (.ref 19)]) ?_ rfl rfl rfl rfl
  refine V2_aload_n (i := 0) d_Car_copyFrom_0 rfl rfl ?_
  refine V2_aload_n (i := 1) d_Car_copyFrom_1 rfl rfl ?_
  refine V2_get (v := F 19 0) d_Car_copyFrom_2 fl_Car_7 (by decide) rfl (by decide) rfl rfl ?_
  refine V2_topi (fun v1 ev1 => ?_)
  refine V2_put d_Car_copyFrom_5 fl_Car_7 (by decide) rfl (by decide) rfl ?_
  refine V2_aload_n (i := 0) d_Car_copyFrom_8 rfl rfl ?_
  refine V2_aload_n (i := 1) d_Car_copyFrom_9 rfl rfl ?_
  refine V2_get (v := F 19 1) d_Car_copyFrom_10 fl_Car_13 (by decide) rfl (by decide) rfl rfl ?_
  refine V2_topi (fun v2 ev2 => ?_)
  refine V2_put d_Car_copyFrom_13 fl_Car_13 (by decide) rfl (by decide) rfl ?_
  refine V2_aload_n (i := 0) d_Car_copyFrom_16 rfl rfl ?_
  refine V2_aload_n (i := 1) d_Car_copyFrom_17 rfl rfl ?_
  refine V2_get (v := F 19 2) d_Car_copyFrom_18 fl_Car_16 (by decide) rfl (by decide) rfl rfl ?_
  refine V2_topi (fun v3 ev3 => ?_)
  refine V2_put d_Car_copyFrom_21 fl_Car_16 (by decide) rfl (by decide) rfl ?_
  refine V2_aload_n (i := 0) d_Car_copyFrom_24 rfl rfl ?_
  refine V2_aload_n (i := 1) d_Car_copyFrom_25 rfl rfl ?_
  refine V2_get (v := F 19 3) d_Car_copyFrom_26 fl_Car_19 (by decide) rfl (by decide) rfl rfl ?_
  refine V2_topi (fun v4 ev4 => ?_)
  refine V2_put d_Car_copyFrom_29 fl_Car_19 (by decide) rfl (by decide) rfl ?_
  refine V2_aload_n (i := 0) d_Car_copyFrom_32 rfl rfl ?_
  refine V2_aload_n (i := 1) d_Car_copyFrom_33 rfl rfl ?_
  refine V2_get (v := F 19 4) d_Car_copyFrom_34 fl_Car_22 (by decide) rfl (by decide) rfl rfl ?_
  refine V2_topi (fun v5 ev5 => ?_)
  refine V2_put d_Car_copyFrom_37 fl_Car_22 (by decide) rfl (by decide) rfl ?_
  refine V2_aload_n (i := 0) d_Car_copyFrom_40 rfl rfl ?_
  refine V2_aload_n (i := 1) d_Car_copyFrom_41 rfl rfl ?_
  refine V2_get (v := F 19 5) d_Car_copyFrom_42 fl_Car_25 (by decide) rfl (by decide) rfl rfl ?_
  refine V2_topi (fun v6 ev6 => ?_)
  refine V2_put d_Car_copyFrom_45 fl_Car_25 (by decide) rfl (by decide) rfl ?_
  refine V2_aload_n (i := 0) d_Car_copyFrom_48 rfl rfl ?_
  refine V2_aload_n (i := 1) d_Car_copyFrom_49 rfl rfl ?_
  refine V2_get (v := F 19 6) d_Car_copyFrom_50 fl_Car_28 (by decide) rfl (by decide) rfl rfl ?_
  refine V2_topi (fun v7 ev7 => ?_)
  refine V2_put d_Car_copyFrom_53 fl_Car_28 (by decide) rfl (by decide) rfl ?_
  refine V2_aload_n (i := 0) d_Car_copyFrom_56 rfl rfl ?_
  refine V2_aload_n (i := 1) d_Car_copyFrom_57 rfl rfl ?_
  refine V2_get (v := F 19 7) d_Car_copyFrom_58 fl_Car_31 (by decide) rfl (by decide) rfl rfl ?_
  refine V2_topi (fun v8 ev8 => ?_)
  have hzz : v8 = 0 ∨ v8 = 1 := by subst ev8 ev7 ev6 ev5 ev4 ev3 ev2 ev1; exact hz
  refine V2_putz d_Car_copyFrom_61 fl_Car_31 (by decide) rfl (by decide) rfl (by assumption) ?_
  refine V2_return d_Car_copyFrom_64 rfl ?_
  subst ev8 ev7 ev6 ev5 ev4 ev3 ev2 ev1
  refine xQv (hQ (xrw F 2 (upd (upd (upd (upd (upd (upd (upd (upd (F 2) 0 (F 19 0)) 1 (F 19 1)) 2 (F 19 2)) 3 (F 19 3)) 4 (F 19 4)) 5 (F 19 5)) 6 (F 19 6)) 7 (F 19 7))) (fun j hj => ?_) (fun k hk => xrw_ne hk)) (by rw [xp_row F, xp_xrw, xp_xrw, xp_xrw, xp_xrw, xp_xrw, xp_xrw, xp_xrw])
  rw [xrw_same]
  rcases (show j = 0 ∨ j = 1 ∨ j = 2 ∨ j = 3 ∨ j = 4 ∨ j = 5 ∨ j = 6 ∨ j = 7 by omega) with h | h | h | h | h | h | h | h <;> subst h <;> rfl
theorem c_Car_copy_35_2 {L : Nat} {xs : Nat → Int32} {d : Nat} {Q : Option Value → xF → Prop} {F : xF}  (hz : F 2 7 = 0 ∨ F 2 7 = 1) (hQ : ∀ G : xF, (∀ j, j < 8 → G 35 j = F 2 j) → (∀ k, ¬ k = 35 → G k = F k) → Q none G) : V2 L xs d m_Car_copyFrom 0 (xEntry [.ref 35, .ref 2] 2) [] F Q := by
  refine V2.to (l' := [some (.ref 35), some (.ref 2)]) ?_ rfl rfl rfl rfl
  refine V2_aload_n (i := 0) d_Car_copyFrom_0 rfl rfl ?_
  refine V2_aload_n (i := 1) d_Car_copyFrom_1 rfl rfl ?_
  refine V2_get (v := F 2 0) d_Car_copyFrom_2 fl_Car_7 (by decide) rfl (by decide) rfl rfl ?_
  refine V2_topi (fun v1 ev1 => ?_)
  refine V2_put d_Car_copyFrom_5 fl_Car_7 (by decide) rfl (by decide) rfl ?_
  refine V2_aload_n (i := 0) d_Car_copyFrom_8 rfl rfl ?_
  refine V2_aload_n (i := 1) d_Car_copyFrom_9 rfl rfl ?_
  refine V2_get (v := F 2 1) d_Car_copyFrom_10 fl_Car_13 (by decide) rfl (by decide) rfl rfl ?_
  refine V2_topi (fun v2 ev2 => ?_)
  refine V2_put d_Car_copyFrom_13 fl_Car_13 (by decide) rfl (by decide) rfl ?_
  refine V2_aload_n (i := 0) d_Car_copyFrom_16 rfl rfl ?_
  refine V2_aload_n (i := 1) d_Car_copyFrom_17 rfl rfl ?_
  refine V2_get (v := F 2 2) d_Car_copyFrom_18 fl_Car_16 (by decide) rfl (by decide) rfl rfl ?_
  refine V2_topi (fun v3 ev3 => ?_)
  refine V2_put d_Car_copyFrom_21 fl_Car_16 (by decide) rfl (by decide) rfl ?_
  refine V2_aload_n (i := 0) d_Car_copyFrom_24 rfl rfl ?_
  refine V2_aload_n (i := 1) d_Car_copyFrom_25 rfl rfl ?_
  refine V2_get (v := F 2 3) d_Car_copyFrom_26 fl_Car_19 (by decide) rfl (by decide) rfl rfl ?_
  refine V2_topi (fun v4 ev4 => ?_)
  refine V2_put d_Car_copyFrom_29 fl_Car_19 (by decide) rfl (by decide) rfl ?_
  refine V2_aload_n (i := 0) d_Car_copyFrom_32 rfl rfl ?_
  refine V2_aload_n (i := 1) d_Car_copyFrom_33 rfl rfl ?_
  refine V2_get (v := F 2 4) d_Car_copyFrom_34 fl_Car_22 (by decide) rfl (by decide) rfl rfl ?_
  refine V2_topi (fun v5 ev5 => ?_)
  refine V2_put d_Car_copyFrom_37 fl_Car_22 (by decide) rfl (by decide) rfl ?_
  refine V2_aload_n (i := 0) d_Car_copyFrom_40 rfl rfl ?_
  refine V2_aload_n (i := 1) d_Car_copyFrom_41 rfl rfl ?_
  refine V2_get (v := F 2 5) d_Car_copyFrom_42 fl_Car_25 (by decide) rfl (by decide) rfl rfl ?_
  refine V2_topi (fun v6 ev6 => ?_)
  refine V2_put d_Car_copyFrom_45 fl_Car_25 (by decide) rfl (by decide) rfl ?_
  refine V2_aload_n (i := 0) d_Car_copyFrom_48 rfl rfl ?_
  refine V2_aload_n (i := 1) d_Car_copyFrom_49 rfl rfl ?_
  refine V2_get (v := F 2 6) d_Car_copyFrom_50 fl_Car_28 (by decide) rfl (by decide) rfl rfl ?_
  refine V2_topi (fun v7 ev7 => ?_)
  refine V2_put d_Car_copyFrom_53 fl_Car_28 (by decide) rfl (by decide) rfl ?_
  refine V2_aload_n (i := 0) d_Car_copyFrom_56 rfl rfl ?_
  refine V2_aload_n (i := 1) d_Car_copyFrom_57 rfl rfl ?_
  refine V2_get (v := F 2 7) d_Car_copyFrom_58 fl_Car_31 (by decide) rfl (by decide) rfl rfl ?_
  refine V2_topi (fun v8 ev8 => ?_)
  have hzz : v8 = 0 ∨ v8 = 1 := by subst ev8 ev7 ev6 ev5 ev4 ev3 ev2 ev1; exact hz
  refine V2_putz d_Car_copyFrom_61 fl_Car_31 (by decide) rfl (by decide) rfl (by assumption) ?_
  refine V2_return d_Car_copyFrom_64 rfl ?_
  subst ev8 ev7 ev6 ev5 ev4 ev3 ev2 ev1
  refine xQv (hQ (xrw F 35 (upd (upd (upd (upd (upd (upd (upd (upd (F 35) 0 (F 2 0)) 1 (F 2 1)) 2 (F 2 2)) 3 (F 2 3)) 4 (F 2 4)) 5 (F 2 5)) 6 (F 2 6)) 7 (F 2 7))) (fun j hj => ?_) (fun k hk => xrw_ne hk)) (by rw [xp_row F, xp_xrw, xp_xrw, xp_xrw, xp_xrw, xp_xrw, xp_xrw, xp_xrw])
  rw [xrw_same]
  rcases (show j = 0 ∨ j = 1 ∨ j = 2 ∨ j = 3 ∨ j = 4 ∨ j = 5 ∨ j = 6 ∨ j = 7 by omega) with h | h | h | h | h | h | h | h <;> subst h <;> rfl
theorem c_Car_copy_42_2 {L : Nat} {xs : Nat → Int32} {d : Nat} {Q : Option Value → xF → Prop} {F : xF}  (hz : F 2 7 = 0 ∨ F 2 7 = 1) (hQ : ∀ G : xF, (∀ j, j < 8 → G 42 j = F 2 j) → (∀ k, ¬ k = 42 → G k = F k) → Q none G) : V2 L xs d m_Car_copyFrom 0 (xEntry [.ref 42, .ref 2] 2) [] F Q := by
  refine V2.to (l' := [some (.ref 42), some (.ref 2)]) ?_ rfl rfl rfl rfl
  refine V2_aload_n (i := 0) d_Car_copyFrom_0 rfl rfl ?_
  refine V2_aload_n (i := 1) d_Car_copyFrom_1 rfl rfl ?_
  refine V2_get (v := F 2 0) d_Car_copyFrom_2 fl_Car_7 (by decide) rfl (by decide) rfl rfl ?_
  refine V2_topi (fun v1 ev1 => ?_)
  refine V2_put d_Car_copyFrom_5 fl_Car_7 (by decide) rfl (by decide) rfl ?_
  refine V2_aload_n (i := 0) d_Car_copyFrom_8 rfl rfl ?_
  refine V2_aload_n (i := 1) d_Car_copyFrom_9 rfl rfl ?_
  refine V2_get (v := F 2 1) d_Car_copyFrom_10 fl_Car_13 (by decide) rfl (by decide) rfl rfl ?_
  refine V2_topi (fun v2 ev2 => ?_)
  refine V2_put d_Car_copyFrom_13 fl_Car_13 (by decide) rfl (by decide) rfl ?_
  refine V2_aload_n (i := 0) d_Car_copyFrom_16 rfl rfl ?_
  refine V2_aload_n (i := 1) d_Car_copyFrom_17 rfl rfl ?_
  refine V2_get (v := F 2 2) d_Car_copyFrom_18 fl_Car_16 (by decide) rfl (by decide) rfl rfl ?_
  refine V2_topi (fun v3 ev3 => ?_)
  refine V2_put d_Car_copyFrom_21 fl_Car_16 (by decide) rfl (by decide) rfl ?_
  refine V2_aload_n (i := 0) d_Car_copyFrom_24 rfl rfl ?_
  refine V2_aload_n (i := 1) d_Car_copyFrom_25 rfl rfl ?_
  refine V2_get (v := F 2 3) d_Car_copyFrom_26 fl_Car_19 (by decide) rfl (by decide) rfl rfl ?_
  refine V2_topi (fun v4 ev4 => ?_)
  refine V2_put d_Car_copyFrom_29 fl_Car_19 (by decide) rfl (by decide) rfl ?_
  refine V2_aload_n (i := 0) d_Car_copyFrom_32 rfl rfl ?_
  refine V2_aload_n (i := 1) d_Car_copyFrom_33 rfl rfl ?_
  refine V2_get (v := F 2 4) d_Car_copyFrom_34 fl_Car_22 (by decide) rfl (by decide) rfl rfl ?_
  refine V2_topi (fun v5 ev5 => ?_)
  refine V2_put d_Car_copyFrom_37 fl_Car_22 (by decide) rfl (by decide) rfl ?_
  refine V2_aload_n (i := 0) d_Car_copyFrom_40 rfl rfl ?_
  refine V2_aload_n (i := 1) d_Car_copyFrom_41 rfl rfl ?_
  refine V2_get (v := F 2 5) d_Car_copyFrom_42 fl_Car_25 (by decide) rfl (by decide) rfl rfl ?_
  refine V2_topi (fun v6 ev6 => ?_)
  refine V2_put d_Car_copyFrom_45 fl_Car_25 (by decide) rfl (by decide) rfl ?_
  refine V2_aload_n (i := 0) d_Car_copyFrom_48 rfl rfl ?_
  refine V2_aload_n (i := 1) d_Car_copyFrom_49 rfl rfl ?_
  refine V2_get (v := F 2 6) d_Car_copyFrom_50 fl_Car_28 (by decide) rfl (by decide) rfl rfl ?_
  refine V2_topi (fun v7 ev7 => ?_)
  refine V2_put d_Car_copyFrom_53 fl_Car_28 (by decide) rfl (by decide) rfl ?_
  refine V2_aload_n (i := 0) d_Car_copyFrom_56 rfl rfl ?_
  refine V2_aload_n (i := 1) d_Car_copyFrom_57 rfl rfl ?_
  refine V2_get (v := F 2 7) d_Car_copyFrom_58 fl_Car_31 (by decide) rfl (by decide) rfl rfl ?_
  refine V2_topi (fun v8 ev8 => ?_)
  have hzz : v8 = 0 ∨ v8 = 1 := by subst ev8 ev7 ev6 ev5 ev4 ev3 ev2 ev1; exact hz
  refine V2_putz d_Car_copyFrom_61 fl_Car_31 (by decide) rfl (by decide) rfl (by assumption) ?_
  refine V2_return d_Car_copyFrom_64 rfl ?_
  subst ev8 ev7 ev6 ev5 ev4 ev3 ev2 ev1
  refine xQv (hQ (xrw F 42 (upd (upd (upd (upd (upd (upd (upd (upd (F 42) 0 (F 2 0)) 1 (F 2 1)) 2 (F 2 2)) 3 (F 2 3)) 4 (F 2 4)) 5 (F 2 5)) 6 (F 2 6)) 7 (F 2 7))) (fun j hj => ?_) (fun k hk => xrw_ne hk)) (by rw [xp_row F, xp_xrw, xp_xrw, xp_xrw, xp_xrw, xp_xrw, xp_xrw, xp_xrw])
  rw [xrw_same]
  rcases (show j = 0 ∨ j = 1 ∨ j = 2 ∨ j = 3 ∨ j = 4 ∨ j = 5 ∨ j = 6 ∨ j = 7 by omega) with h | h | h | h | h | h | h | h <;> subst h <;> rfl
theorem c_Car_copy_43_42 {L : Nat} {xs : Nat → Int32} {d : Nat} {Q : Option Value → xF → Prop} {F : xF}  (hz : F 42 7 = 0 ∨ F 42 7 = 1) (hQ : ∀ G : xF, (∀ j, j < 8 → G 43 j = F 42 j) → (∀ k, ¬ k = 43 → G k = F k) → Q none G) : V2 L xs d m_Car_copyFrom 0 (xEntry [.ref 43, .ref 42] 2) [] F Q := by
  refine V2.to (l' := [some (.ref 43), some (.ref 42)]) ?_ rfl rfl rfl rfl
  refine V2_aload_n (i := 0) d_Car_copyFrom_0 rfl rfl ?_
  refine V2_aload_n (i := 1) d_Car_copyFrom_1 rfl rfl ?_
  refine V2_get (v := F 42 0) d_Car_copyFrom_2 fl_Car_7 (by decide) rfl (by decide) rfl rfl ?_
  refine V2_topi (fun v1 ev1 => ?_)
  refine V2_put d_Car_copyFrom_5 fl_Car_7 (by decide) rfl (by decide) rfl ?_
  refine V2_aload_n (i := 0) d_Car_copyFrom_8 rfl rfl ?_
  refine V2_aload_n (i := 1) d_Car_copyFrom_9 rfl rfl ?_
  refine V2_get (v := F 42 1) d_Car_copyFrom_10 fl_Car_13 (by decide) rfl (by decide) rfl rfl ?_
  refine V2_topi (fun v2 ev2 => ?_)
  refine V2_put d_Car_copyFrom_13 fl_Car_13 (by decide) rfl (by decide) rfl ?_
  refine V2_aload_n (i := 0) d_Car_copyFrom_16 rfl rfl ?_
  refine V2_aload_n (i := 1) d_Car_copyFrom_17 rfl rfl ?_
  refine V2_get (v := F 42 2) d_Car_copyFrom_18 fl_Car_16 (by decide) rfl (by decide) rfl rfl ?_
  refine V2_topi (fun v3 ev3 => ?_)
  refine V2_put d_Car_copyFrom_21 fl_Car_16 (by decide) rfl (by decide) rfl ?_
  refine V2_aload_n (i := 0) d_Car_copyFrom_24 rfl rfl ?_
  refine V2_aload_n (i := 1) d_Car_copyFrom_25 rfl rfl ?_
  refine V2_get (v := F 42 3) d_Car_copyFrom_26 fl_Car_19 (by decide) rfl (by decide) rfl rfl ?_
  refine V2_topi (fun v4 ev4 => ?_)
  refine V2_put d_Car_copyFrom_29 fl_Car_19 (by decide) rfl (by decide) rfl ?_
  refine V2_aload_n (i := 0) d_Car_copyFrom_32 rfl rfl ?_
  refine V2_aload_n (i := 1) d_Car_copyFrom_33 rfl rfl ?_
  refine V2_get (v := F 42 4) d_Car_copyFrom_34 fl_Car_22 (by decide) rfl (by decide) rfl rfl ?_
  refine V2_topi (fun v5 ev5 => ?_)
  refine V2_put d_Car_copyFrom_37 fl_Car_22 (by decide) rfl (by decide) rfl ?_
  refine V2_aload_n (i := 0) d_Car_copyFrom_40 rfl rfl ?_
  refine V2_aload_n (i := 1) d_Car_copyFrom_41 rfl rfl ?_
  refine V2_get (v := F 42 5) d_Car_copyFrom_42 fl_Car_25 (by decide) rfl (by decide) rfl rfl ?_
  refine V2_topi (fun v6 ev6 => ?_)
  refine V2_put d_Car_copyFrom_45 fl_Car_25 (by decide) rfl (by decide) rfl ?_
  refine V2_aload_n (i := 0) d_Car_copyFrom_48 rfl rfl ?_
  refine V2_aload_n (i := 1) d_Car_copyFrom_49 rfl rfl ?_
  refine V2_get (v := F 42 6) d_Car_copyFrom_50 fl_Car_28 (by decide) rfl (by decide) rfl rfl ?_
  refine V2_topi (fun v7 ev7 => ?_)
  refine V2_put d_Car_copyFrom_53 fl_Car_28 (by decide) rfl (by decide) rfl ?_
  refine V2_aload_n (i := 0) d_Car_copyFrom_56 rfl rfl ?_
  refine V2_aload_n (i := 1) d_Car_copyFrom_57 rfl rfl ?_
  refine V2_get (v := F 42 7) d_Car_copyFrom_58 fl_Car_31 (by decide) rfl (by decide) rfl rfl ?_
  refine V2_topi (fun v8 ev8 => ?_)
  have hzz : v8 = 0 ∨ v8 = 1 := by subst ev8 ev7 ev6 ev5 ev4 ev3 ev2 ev1; exact hz
  refine V2_putz d_Car_copyFrom_61 fl_Car_31 (by decide) rfl (by decide) rfl (by assumption) ?_
  refine V2_return d_Car_copyFrom_64 rfl ?_
  subst ev8 ev7 ev6 ev5 ev4 ev3 ev2 ev1
  refine xQv (hQ (xrw F 43 (upd (upd (upd (upd (upd (upd (upd (upd (F 43) 0 (F 42 0)) 1 (F 42 1)) 2 (F 42 2)) 3 (F 42 3)) 4 (F 42 4)) 5 (F 42 5)) 6 (F 42 6)) 7 (F 42 7))) (fun j hj => ?_) (fun k hk => xrw_ne hk)) (by rw [xp_row F, xp_xrw, xp_xrw, xp_xrw, xp_xrw, xp_xrw, xp_xrw, xp_xrw])
  rw [xrw_same]
  rcases (show j = 0 ∨ j = 1 ∨ j = 2 ∨ j = 3 ∨ j = 4 ∨ j = 5 ∨ j = 6 ∨ j = 7 by omega) with h | h | h | h | h | h | h | h <;> subst h <;> rfl
theorem c_Car_copy_44_43 {L : Nat} {xs : Nat → Int32} {d : Nat} {Q : Option Value → xF → Prop} {F : xF}  (hz : F 43 7 = 0 ∨ F 43 7 = 1) (hQ : ∀ G : xF, (∀ j, j < 8 → G 44 j = F 43 j) → (∀ k, ¬ k = 44 → G k = F k) → Q none G) : V2 L xs d m_Car_copyFrom 0 (xEntry [.ref 44, .ref 43] 2) [] F Q := by
  refine V2.to (l' := [some (.ref 44), some (.ref 43)]) ?_ rfl rfl rfl rfl
  refine V2_aload_n (i := 0) d_Car_copyFrom_0 rfl rfl ?_
  refine V2_aload_n (i := 1) d_Car_copyFrom_1 rfl rfl ?_
  refine V2_get (v := F 43 0) d_Car_copyFrom_2 fl_Car_7 (by decide) rfl (by decide) rfl rfl ?_
  refine V2_topi (fun v1 ev1 => ?_)
  refine V2_put d_Car_copyFrom_5 fl_Car_7 (by decide) rfl (by decide) rfl ?_
  refine V2_aload_n (i := 0) d_Car_copyFrom_8 rfl rfl ?_
  refine V2_aload_n (i := 1) d_Car_copyFrom_9 rfl rfl ?_
  refine V2_get (v := F 43 1) d_Car_copyFrom_10 fl_Car_13 (by decide) rfl (by decide) rfl rfl ?_
  refine V2_topi (fun v2 ev2 => ?_)
  refine V2_put d_Car_copyFrom_13 fl_Car_13 (by decide) rfl (by decide) rfl ?_
  refine V2_aload_n (i := 0) d_Car_copyFrom_16 rfl rfl ?_
  refine V2_aload_n (i := 1) d_Car_copyFrom_17 rfl rfl ?_
  refine V2_get (v := F 43 2) d_Car_copyFrom_18 fl_Car_16 (by decide) rfl (by decide) rfl rfl ?_
  refine V2_topi (fun v3 ev3 => ?_)
  refine V2_put d_Car_copyFrom_21 fl_Car_16 (by decide) rfl (by decide) rfl ?_
  refine V2_aload_n (i := 0) d_Car_copyFrom_24 rfl rfl ?_
  refine V2_aload_n (i := 1) d_Car_copyFrom_25 rfl rfl ?_
  refine V2_get (v := F 43 3) d_Car_copyFrom_26 fl_Car_19 (by decide) rfl (by decide) rfl rfl ?_
  refine V2_topi (fun v4 ev4 => ?_)
  refine V2_put d_Car_copyFrom_29 fl_Car_19 (by decide) rfl (by decide) rfl ?_
  refine V2_aload_n (i := 0) d_Car_copyFrom_32 rfl rfl ?_
  refine V2_aload_n (i := 1) d_Car_copyFrom_33 rfl rfl ?_
  refine V2_get (v := F 43 4) d_Car_copyFrom_34 fl_Car_22 (by decide) rfl (by decide) rfl rfl ?_
  refine V2_topi (fun v5 ev5 => ?_)
  refine V2_put d_Car_copyFrom_37 fl_Car_22 (by decide) rfl (by decide) rfl ?_
  refine V2_aload_n (i := 0) d_Car_copyFrom_40 rfl rfl ?_
  refine V2_aload_n (i := 1) d_Car_copyFrom_41 rfl rfl ?_
  refine V2_get (v := F 43 5) d_Car_copyFrom_42 fl_Car_25 (by decide) rfl (by decide) rfl rfl ?_
  refine V2_topi (fun v6 ev6 => ?_)
  refine V2_put d_Car_copyFrom_45 fl_Car_25 (by decide) rfl (by decide) rfl ?_
  refine V2_aload_n (i := 0) d_Car_copyFrom_48 rfl rfl ?_
  refine V2_aload_n (i := 1) d_Car_copyFrom_49 rfl rfl ?_
  refine V2_get (v := F 43 6) d_Car_copyFrom_50 fl_Car_28 (by decide) rfl (by decide) rfl rfl ?_
  refine V2_topi (fun v7 ev7 => ?_)
  refine V2_put d_Car_copyFrom_53 fl_Car_28 (by decide) rfl (by decide) rfl ?_
  refine V2_aload_n (i := 0) d_Car_copyFrom_56 rfl rfl ?_
  refine V2_aload_n (i := 1) d_Car_copyFrom_57 rfl rfl ?_
  refine V2_get (v := F 43 7) d_Car_copyFrom_58 fl_Car_31 (by decide) rfl (by decide) rfl rfl ?_
  refine V2_topi (fun v8 ev8 => ?_)
  have hzz : v8 = 0 ∨ v8 = 1 := by subst ev8 ev7 ev6 ev5 ev4 ev3 ev2 ev1; exact hz
  refine V2_putz d_Car_copyFrom_61 fl_Car_31 (by decide) rfl (by decide) rfl (by assumption) ?_
  refine V2_return d_Car_copyFrom_64 rfl ?_
  subst ev8 ev7 ev6 ev5 ev4 ev3 ev2 ev1
  refine xQv (hQ (xrw F 44 (upd (upd (upd (upd (upd (upd (upd (upd (F 44) 0 (F 43 0)) 1 (F 43 1)) 2 (F 43 2)) 3 (F 43 3)) 4 (F 43 4)) 5 (F 43 5)) 6 (F 43 6)) 7 (F 43 7))) (fun j hj => ?_) (fun k hk => xrw_ne hk)) (by rw [xp_row F, xp_xrw, xp_xrw, xp_xrw, xp_xrw, xp_xrw, xp_xrw, xp_xrw])
  rw [xrw_same]
  rcases (show j = 0 ∨ j = 1 ∨ j = 2 ∨ j = 3 ∨ j = 4 ∨ j = 5 ∨ j = 6 ∨ j = 7 by omega) with h | h | h | h | h | h | h | h <;> subst h <;> rfl
theorem c_Car_copy_45_44 {L : Nat} {xs : Nat → Int32} {d : Nat} {Q : Option Value → xF → Prop} {F : xF}  (hz : F 44 7 = 0 ∨ F 44 7 = 1) (hQ : ∀ G : xF, (∀ j, j < 8 → G 45 j = F 44 j) → (∀ k, ¬ k = 45 → G k = F k) → Q none G) : V2 L xs d m_Car_copyFrom 0 (xEntry [.ref 45, .ref 44] 2) [] F Q := by
  refine V2.to (l' := [some (.ref 45), some (.ref 44)]) ?_ rfl rfl rfl rfl
  refine V2_aload_n (i := 0) d_Car_copyFrom_0 rfl rfl ?_
  refine V2_aload_n (i := 1) d_Car_copyFrom_1 rfl rfl ?_
  refine V2_get (v := F 44 0) d_Car_copyFrom_2 fl_Car_7 (by decide) rfl (by decide) rfl rfl ?_
  refine V2_topi (fun v1 ev1 => ?_)
  refine V2_put d_Car_copyFrom_5 fl_Car_7 (by decide) rfl (by decide) rfl ?_
  refine V2_aload_n (i := 0) d_Car_copyFrom_8 rfl rfl ?_
  refine V2_aload_n (i := 1) d_Car_copyFrom_9 rfl rfl ?_
  refine V2_get (v := F 44 1) d_Car_copyFrom_10 fl_Car_13 (by decide) rfl (by decide) rfl rfl ?_
  refine V2_topi (fun v2 ev2 => ?_)
  refine V2_put d_Car_copyFrom_13 fl_Car_13 (by decide) rfl (by decide) rfl ?_
  refine V2_aload_n (i := 0) d_Car_copyFrom_16 rfl rfl ?_
  refine V2_aload_n (i := 1) d_Car_copyFrom_17 rfl rfl ?_
  refine V2_get (v := F 44 2) d_Car_copyFrom_18 fl_Car_16 (by decide) rfl (by decide) rfl rfl ?_
  refine V2_topi (fun v3 ev3 => ?_)
  refine V2_put d_Car_copyFrom_21 fl_Car_16 (by decide) rfl (by decide) rfl ?_
  refine V2_aload_n (i := 0) d_Car_copyFrom_24 rfl rfl ?_
  refine V2_aload_n (i := 1) d_Car_copyFrom_25 rfl rfl ?_
  refine V2_get (v := F 44 3) d_Car_copyFrom_26 fl_Car_19 (by decide) rfl (by decide) rfl rfl ?_
  refine V2_topi (fun v4 ev4 => ?_)
  refine V2_put d_Car_copyFrom_29 fl_Car_19 (by decide) rfl (by decide) rfl ?_
  refine V2_aload_n (i := 0) d_Car_copyFrom_32 rfl rfl ?_
  refine V2_aload_n (i := 1) d_Car_copyFrom_33 rfl rfl ?_
  refine V2_get (v := F 44 4) d_Car_copyFrom_34 fl_Car_22 (by decide) rfl (by decide) rfl rfl ?_
  refine V2_topi (fun v5 ev5 => ?_)
  refine V2_put d_Car_copyFrom_37 fl_Car_22 (by decide) rfl (by decide) rfl ?_
  refine V2_aload_n (i := 0) d_Car_copyFrom_40 rfl rfl ?_
  refine V2_aload_n (i := 1) d_Car_copyFrom_41 rfl rfl ?_
  refine V2_get (v := F 44 5) d_Car_copyFrom_42 fl_Car_25 (by decide) rfl (by decide) rfl rfl ?_
  refine V2_topi (fun v6 ev6 => ?_)
  refine V2_put d_Car_copyFrom_45 fl_Car_25 (by decide) rfl (by decide) rfl ?_
  refine V2_aload_n (i := 0) d_Car_copyFrom_48 rfl rfl ?_
  refine V2_aload_n (i := 1) d_Car_copyFrom_49 rfl rfl ?_
  refine V2_get (v := F 44 6) d_Car_copyFrom_50 fl_Car_28 (by decide) rfl (by decide) rfl rfl ?_
  refine V2_topi (fun v7 ev7 => ?_)
  refine V2_put d_Car_copyFrom_53 fl_Car_28 (by decide) rfl (by decide) rfl ?_
  refine V2_aload_n (i := 0) d_Car_copyFrom_56 rfl rfl ?_
  refine V2_aload_n (i := 1) d_Car_copyFrom_57 rfl rfl ?_
  refine V2_get (v := F 44 7) d_Car_copyFrom_58 fl_Car_31 (by decide) rfl (by decide) rfl rfl ?_
  refine V2_topi (fun v8 ev8 => ?_)
  have hzz : v8 = 0 ∨ v8 = 1 := by subst ev8 ev7 ev6 ev5 ev4 ev3 ev2 ev1; exact hz
  refine V2_putz d_Car_copyFrom_61 fl_Car_31 (by decide) rfl (by decide) rfl (by assumption) ?_
  refine V2_return d_Car_copyFrom_64 rfl ?_
  subst ev8 ev7 ev6 ev5 ev4 ev3 ev2 ev1
  refine xQv (hQ (xrw F 45 (upd (upd (upd (upd (upd (upd (upd (upd (F 45) 0 (F 44 0)) 1 (F 44 1)) 2 (F 44 2)) 3 (F 44 3)) 4 (F 44 4)) 5 (F 44 5)) 6 (F 44 6)) 7 (F 44 7))) (fun j hj => ?_) (fun k hk => xrw_ne hk)) (by rw [xp_row F, xp_xrw, xp_xrw, xp_xrw, xp_xrw, xp_xrw, xp_xrw, xp_xrw])
  rw [xrw_same]
  rcases (show j = 0 ∨ j = 1 ∨ j = 2 ∨ j = 3 ∨ j = 4 ∨ j = 5 ∨ j = 6 ∨ j = 7 by omega) with h | h | h | h | h | h | h | h <;> subst h <;> rfl
theorem c_Car_copy_46_45 {L : Nat} {xs : Nat → Int32} {d : Nat} {Q : Option Value → xF → Prop} {F : xF}  (hz : F 45 7 = 0 ∨ F 45 7 = 1) (hQ : ∀ G : xF, (∀ j, j < 8 → G 46 j = F 45 j) → (∀ k, ¬ k = 46 → G k = F k) → Q none G) : V2 L xs d m_Car_copyFrom 0 (xEntry [.ref 46, .ref 45] 2) [] F Q := by
  refine V2.to (l' := [some (.ref 46), some (.ref 45)]) ?_ rfl rfl rfl rfl
  refine V2_aload_n (i := 0) d_Car_copyFrom_0 rfl rfl ?_
  refine V2_aload_n (i := 1) d_Car_copyFrom_1 rfl rfl ?_
  refine V2_get (v := F 45 0) d_Car_copyFrom_2 fl_Car_7 (by decide) rfl (by decide) rfl rfl ?_
  refine V2_topi (fun v1 ev1 => ?_)
  refine V2_put d_Car_copyFrom_5 fl_Car_7 (by decide) rfl (by decide) rfl ?_
  refine V2_aload_n (i := 0) d_Car_copyFrom_8 rfl rfl ?_
  refine V2_aload_n (i := 1) d_Car_copyFrom_9 rfl rfl ?_
  refine V2_get (v := F 45 1) d_Car_copyFrom_10 fl_Car_13 (by decide) rfl (by decide) rfl rfl ?_
  refine V2_topi (fun v2 ev2 => ?_)
  refine V2_put d_Car_copyFrom_13 fl_Car_13 (by decide) rfl (by decide) rfl ?_
  refine V2_aload_n (i := 0) d_Car_copyFrom_16 rfl rfl ?_
  refine V2_aload_n (i := 1) d_Car_copyFrom_17 rfl rfl ?_
  refine V2_get (v := F 45 2) d_Car_copyFrom_18 fl_Car_16 (by decide) rfl (by decide) rfl rfl ?_
  refine V2_topi (fun v3 ev3 => ?_)
  refine V2_put d_Car_copyFrom_21 fl_Car_16 (by decide) rfl (by decide) rfl ?_
  refine V2_aload_n (i := 0) d_Car_copyFrom_24 rfl rfl ?_
  refine V2_aload_n (i := 1) d_Car_copyFrom_25 rfl rfl ?_
  refine V2_get (v := F 45 3) d_Car_copyFrom_26 fl_Car_19 (by decide) rfl (by decide) rfl rfl ?_
  refine V2_topi (fun v4 ev4 => ?_)
  refine V2_put d_Car_copyFrom_29 fl_Car_19 (by decide) rfl (by decide) rfl ?_
  refine V2_aload_n (i := 0) d_Car_copyFrom_32 rfl rfl ?_
  refine V2_aload_n (i := 1) d_Car_copyFrom_33 rfl rfl ?_
  refine V2_get (v := F 45 4) d_Car_copyFrom_34 fl_Car_22 (by decide) rfl (by decide) rfl rfl ?_
  refine V2_topi (fun v5 ev5 => ?_)
  refine V2_put d_Car_copyFrom_37 fl_Car_22 (by decide) rfl (by decide) rfl ?_
  refine V2_aload_n (i := 0) d_Car_copyFrom_40 rfl rfl ?_
  refine V2_aload_n (i := 1) d_Car_copyFrom_41 rfl rfl ?_
  refine V2_get (v := F 45 5) d_Car_copyFrom_42 fl_Car_25 (by decide) rfl (by decide) rfl rfl ?_
  refine V2_topi (fun v6 ev6 => ?_)
  refine V2_put d_Car_copyFrom_45 fl_Car_25 (by decide) rfl (by decide) rfl ?_
  refine V2_aload_n (i := 0) d_Car_copyFrom_48 rfl rfl ?_
  refine V2_aload_n (i := 1) d_Car_copyFrom_49 rfl rfl ?_
  refine V2_get (v := F 45 6) d_Car_copyFrom_50 fl_Car_28 (by decide) rfl (by decide) rfl rfl ?_
  refine V2_topi (fun v7 ev7 => ?_)
  refine V2_put d_Car_copyFrom_53 fl_Car_28 (by decide) rfl (by decide) rfl ?_
  refine V2_aload_n (i := 0) d_Car_copyFrom_56 rfl rfl ?_
  refine V2_aload_n (i := 1) d_Car_copyFrom_57 rfl rfl ?_
  refine V2_get (v := F 45 7) d_Car_copyFrom_58 fl_Car_31 (by decide) rfl (by decide) rfl rfl ?_
  refine V2_topi (fun v8 ev8 => ?_)
  have hzz : v8 = 0 ∨ v8 = 1 := by subst ev8 ev7 ev6 ev5 ev4 ev3 ev2 ev1; exact hz
  refine V2_putz d_Car_copyFrom_61 fl_Car_31 (by decide) rfl (by decide) rfl (by assumption) ?_
  refine V2_return d_Car_copyFrom_64 rfl ?_
  subst ev8 ev7 ev6 ev5 ev4 ev3 ev2 ev1
  refine xQv (hQ (xrw F 46 (upd (upd (upd (upd (upd (upd (upd (upd (F 46) 0 (F 45 0)) 1 (F 45 1)) 2 (F 45 2)) 3 (F 45 3)) 4 (F 45 4)) 5 (F 45 5)) 6 (F 45 6)) 7 (F 45 7))) (fun j hj => ?_) (fun k hk => xrw_ne hk)) (by rw [xp_row F, xp_xrw, xp_xrw, xp_xrw, xp_xrw, xp_xrw, xp_xrw, xp_xrw])
  rw [xrw_same]
  rcases (show j = 0 ∨ j = 1 ∨ j = 2 ∨ j = 3 ∨ j = 4 ∨ j = 5 ∨ j = 6 ∨ j = 7 by omega) with h | h | h | h | h | h | h | h <;> subst h <;> rfl
theorem c_Push_copy_18_1 {L : Nat} {xs : Nat → Int32} {d : Nat} {Q : Option Value → xF → Prop} {F : xF} {S : Nat → Int32} (h : relPw F 1 S) (hi : invP S) (hQ : ∀ G : xF, relPw G 18 S → (∀ k, ¬ k = 20 → ¬ k = 22 → ¬ k = 24 → G k = F k) → Q none G) : V2 L xs (d + 2) m_Push_copyFrom 0 (xEntry [.ref 20, .ref 3] 2) [] F Q := by
  obtain ⟨eP, hP6⟩ := inv_PN hi
  refine V2.to (l' := [some (.ref 20), some (.ref 3)]) ?_ rfl rfl rfl rfl
  refine V2_aload_n (i := 0) d_Push_copyFrom_0 rfl rfl ?_
  refine V2_aload_n (i := 1) d_Push_copyFrom_1 rfl rfl ?_
  refine V2_get (v := F 3 2) d_Push_copyFrom_2 fl_Push_16 (by decide) rfl (by decide) rfl rfl ?_
  refine V2_topi (fun v1 ev1 => ?_)
  refine V2_put d_Push_copyFrom_5 fl_Push_16 (by decide) rfl (by decide) rfl ?_
  refine V2_aload_n (i := 1) d_Push_copyFrom_8 rfl rfl ?_
  refine V2_getr (a := 5) d_Push_copyFrom_9 fl_Push_9 (by decide) rfl (by decide) rfl ?_
  refine V2_iconst (v := 0) d_Push_copyFrom_12 rfl ?_
  refine V2_aload_n (i := 0) d_Push_copyFrom_13 rfl rfl ?_
  refine V2_getr (a := 22) d_Push_copyFrom_14 fl_Push_9 (by decide) rfl (by decide) rfl ?_
  refine V2_iconst (v := 0) d_Push_copyFrom_17 rfl ?_
  refine V2_bipush (v := 6) d_Push_copyFrom_18 rfl ?_
  refine V2_copy d_Push_copyFrom_20 lz_Push_63 (by decide) (by decide) rfl rfl (by decide) (by decide) (by decide) (by decide) (by decide) (Nat.le_of_ble_eq_true rfl) ?_
  refine V2_aload_n (i := 1) d_Push_copyFrom_23 rfl rfl ?_
  refine V2_getr (a := 7) d_Push_copyFrom_24 fl_Push_13 (by decide) rfl (by decide) rfl ?_
  refine V2_iconst (v := 0) d_Push_copyFrom_27 rfl ?_
  refine V2_aload_n (i := 0) d_Push_copyFrom_28 rfl rfl ?_
  refine V2_getr (a := 24) d_Push_copyFrom_29 fl_Push_13 (by decide) rfl (by decide) rfl ?_
  refine V2_iconst (v := 0) d_Push_copyFrom_32 rfl ?_
  refine V2_bipush (v := 6) d_Push_copyFrom_33 rfl ?_
  refine V2_copy d_Push_copyFrom_35 lz_Push_63 (by decide) (by decide) rfl rfl (by decide) (by decide) (by decide) (by decide) (by decide) (Nat.le_of_ble_eq_true rfl) ?_
  refine V2_return d_Push_copyFrom_38 rfl ?_
  subst ev1
  refine hQ _ ⟨h.1, h.2.1, fun p hp => ⟨(sb_cpy0 (Nat.lt_of_lt_of_le hp hP6)).trans (h.2.2 p hp).1, (sb_cpy0 (Nat.lt_of_lt_of_le hp hP6)).trans (h.2.2 p hp).2⟩⟩ (fun k a b c => (xrw_ne c).trans ((xrw_ne b).trans (xp_row_ne a)))
theorem c_Law_copy_25_8 {L : Nat} {xs : Nat → Int32} {d : Nat} {Q : Option Value → xF → Prop} {F : xF} {S : Nat → Int32} (h : relL F 8 0 S) (hid : F 25 0 = nI 0) (hQ : ∀ G : xF, relL G 25 0 S → (∀ k, ¬ k = 25 → ¬ k = 26 → G k = F k) → Q none G) : V2 L xs (d + 1) m_Law_copyFrom 0 (xEntry [.ref 25, .ref 8] 2) [] F Q := by
  obtain ⟨n, hn, en⟩ := h.1.2
  refine V2.to (l' := [some (.ref 25), some (.ref 8)]) ?_ rfl rfl rfl rfl
  refine V2_aload_n (i := 0) d_Law_copyFrom_0 rfl rfl ?_
  refine V2_iconst (v := 0) d_Law_copyFrom_1 rfl ?_
  refine V2_aload_n (i := 1) d_Law_copyFrom_2 rfl rfl ?_
  refine V2_get (v := F 8 3) d_Law_copyFrom_3 fl_Law_16 (by decide) rfl (by decide) rfl rfl ?_
  refine V2_topi (fun v1 ev1 => ?_)
  refine V2_bipush (v := 60) d_Law_copyFrom_6 rfl ?_
  refine V2_mmin d_Law_copyFrom_8 lz_Law_33 (Nat.le_of_ble_eq_true rfl) ?_
  refine V2_topi (fun v2 ev2 => ?_)
  refine V2_mmax d_Law_copyFrom_11 lz_Law_50 (Nat.le_of_ble_eq_true rfl) ?_
  refine V2_topi (fun v3 ev3 => ?_)
  have ez : v3 = nI n := by
    subst ev3 ev2 ev1
    rw [en]
    exact xcap (n := 60) (by decide) (by omega) (by decide)
  rw [ez]
  refine V2_put d_Law_copyFrom_14 fl_Law_16 (by decide) rfl (by decide) rfl ?_
  refine V2_aload_n (i := 1) d_Law_copyFrom_17 rfl rfl ?_
  refine V2_getr (a := 9) d_Law_copyFrom_18 fl_Law_9 (by decide) rfl (by decide) rfl ?_
  refine V2_iconst (v := 0) d_Law_copyFrom_21 rfl ?_
  refine V2_aload_n (i := 0) d_Law_copyFrom_22 rfl rfl ?_
  refine V2_getr (a := 26) d_Law_copyFrom_23 fl_Law_9 (by decide) rfl (by decide) rfl ?_
  refine V2_iconst (v := 0) d_Law_copyFrom_26 rfl ?_
  refine V2_aload_n (i := 0) d_Law_copyFrom_27 rfl rfl ?_
  refine V2_get (v := nI n) d_Law_copyFrom_28 fl_Law_16 (by decide) rfl (by decide) rfl rfl ?_
  refine V2_topi (fun v4 ev4 => ?_)
  refine V2_copy d_Law_copyFrom_31 lz_Law_53 (by decide) (by decide) rfl rfl (by decide) (by decide) (by subst ev4 ev3 ev2 ev1; exact nI_pos (by omega)) (by subst ev4 ev3 ev2 ev1; show 0 + _ ≤ _; rw [nI_clamp (by omega)]; omega) (by subst ev4 ev3 ev2 ev1; show 0 + _ ≤ _; rw [nI_clamp (by omega)]; omega) (Nat.le_of_ble_eq_true rfl) ?_
  refine V2_aload_n (i := 0) d_Law_copyFrom_34 rfl rfl ?_
  refine V2_aload_n (i := 1) d_Law_copyFrom_35 rfl rfl ?_
  refine V2_get (v := F 8 4) d_Law_copyFrom_36 fl_Law_20 (by decide) rfl (by decide) rfl rfl ?_
  refine V2_topi (fun v5 ev5 => ?_)
  have hzz : v5 = 0 ∨ v5 = 1 := by
    subst ev5 ev4 ev3 ev2 ev1
    rw [h.2.1]
    exact xb_01
  refine V2_putz d_Law_copyFrom_39 fl_Law_20 (by decide) rfl (by decide) rfl (by assumption) ?_
  refine V2_return d_Law_copyFrom_42 rfl ?_
  subst ev5 ev4 ev3 ev2 ev1
  refine xQv (hQ (xp (xrw (xp F 25 3 (nI n)) 26 (va_cpy (F 9) (F 26) 0 0 n)) 25 4 (F 8 4)) ⟨⟨hid, n, hn, rfl⟩, h.2.1, fun hp => ⟨en.symm.trans (h.2.2 hp).1, fun k hk => ?_⟩⟩ (fun k a b => (xp_row_ne a).trans ((xrw_ne b).trans (xp_row_ne a)))) (by rw [nI_clamp (by omega)]; rfl)
  have hk2 := hk
  rw [← (h.2.2 hp).1, en, nI_clamp (by omega)] at hk2
  exact (sb_cpy0 hk2).trans ((h.2.2 hp).2 k hk)
theorem c_Law_copy_28_11 {L : Nat} {xs : Nat → Int32} {d : Nat} {Q : Option Value → xF → Prop} {F : xF} {S : Nat → Int32} (h : relL F 11 1 S) (hid : F 28 0 = nI 1) (hQ : ∀ G : xF, relL G 28 1 S → (∀ k, ¬ k = 28 → ¬ k = 29 → G k = F k) → Q none G) : V2 L xs (d + 1) m_Law_copyFrom 0 (xEntry [.ref 28, .ref 11] 2) [] F Q := by
  obtain ⟨n, hn, en⟩ := h.1.2
  refine V2.to (l' := [some (.ref 28), some (.ref 11)]) ?_ rfl rfl rfl rfl
  refine V2_aload_n (i := 0) d_Law_copyFrom_0 rfl rfl ?_
  refine V2_iconst (v := 0) d_Law_copyFrom_1 rfl ?_
  refine V2_aload_n (i := 1) d_Law_copyFrom_2 rfl rfl ?_
  refine V2_get (v := F 11 3) d_Law_copyFrom_3 fl_Law_16 (by decide) rfl (by decide) rfl rfl ?_
  refine V2_topi (fun v1 ev1 => ?_)
  refine V2_bipush (v := 60) d_Law_copyFrom_6 rfl ?_
  refine V2_mmin d_Law_copyFrom_8 lz_Law_33 (Nat.le_of_ble_eq_true rfl) ?_
  refine V2_topi (fun v2 ev2 => ?_)
  refine V2_mmax d_Law_copyFrom_11 lz_Law_50 (Nat.le_of_ble_eq_true rfl) ?_
  refine V2_topi (fun v3 ev3 => ?_)
  have ez : v3 = nI n := by
    subst ev3 ev2 ev1
    rw [en]
    exact xcap (n := 60) (by decide) (by omega) (by decide)
  rw [ez]
  refine V2_put d_Law_copyFrom_14 fl_Law_16 (by decide) rfl (by decide) rfl ?_
  refine V2_aload_n (i := 1) d_Law_copyFrom_17 rfl rfl ?_
  refine V2_getr (a := 12) d_Law_copyFrom_18 fl_Law_9 (by decide) rfl (by decide) rfl ?_
  refine V2_iconst (v := 0) d_Law_copyFrom_21 rfl ?_
  refine V2_aload_n (i := 0) d_Law_copyFrom_22 rfl rfl ?_
  refine V2_getr (a := 29) d_Law_copyFrom_23 fl_Law_9 (by decide) rfl (by decide) rfl ?_
  refine V2_iconst (v := 0) d_Law_copyFrom_26 rfl ?_
  refine V2_aload_n (i := 0) d_Law_copyFrom_27 rfl rfl ?_
  refine V2_get (v := nI n) d_Law_copyFrom_28 fl_Law_16 (by decide) rfl (by decide) rfl rfl ?_
  refine V2_topi (fun v4 ev4 => ?_)
  refine V2_copy d_Law_copyFrom_31 lz_Law_53 (by decide) (by decide) rfl rfl (by decide) (by decide) (by subst ev4 ev3 ev2 ev1; exact nI_pos (by omega)) (by subst ev4 ev3 ev2 ev1; show 0 + _ ≤ _; rw [nI_clamp (by omega)]; omega) (by subst ev4 ev3 ev2 ev1; show 0 + _ ≤ _; rw [nI_clamp (by omega)]; omega) (Nat.le_of_ble_eq_true rfl) ?_
  refine V2_aload_n (i := 0) d_Law_copyFrom_34 rfl rfl ?_
  refine V2_aload_n (i := 1) d_Law_copyFrom_35 rfl rfl ?_
  refine V2_get (v := F 11 4) d_Law_copyFrom_36 fl_Law_20 (by decide) rfl (by decide) rfl rfl ?_
  refine V2_topi (fun v5 ev5 => ?_)
  have hzz : v5 = 0 ∨ v5 = 1 := by
    subst ev5 ev4 ev3 ev2 ev1
    rw [h.2.1]
    exact xb_01
  refine V2_putz d_Law_copyFrom_39 fl_Law_20 (by decide) rfl (by decide) rfl (by assumption) ?_
  refine V2_return d_Law_copyFrom_42 rfl ?_
  subst ev5 ev4 ev3 ev2 ev1
  refine xQv (hQ (xp (xrw (xp F 28 3 (nI n)) 29 (va_cpy (F 12) (F 29) 0 0 n)) 28 4 (F 11 4)) ⟨⟨hid, n, hn, rfl⟩, h.2.1, fun hp => ⟨en.symm.trans (h.2.2 hp).1, fun k hk => ?_⟩⟩ (fun k a b => (xp_row_ne a).trans ((xrw_ne b).trans (xp_row_ne a)))) (by rw [nI_clamp (by omega)]; rfl)
  have hk2 := hk
  rw [← (h.2.2 hp).1, en, nI_clamp (by omega)] at hk2
  exact (sb_cpy0 hk2).trans ((h.2.2 hp).2 k hk)
theorem c_tape_copy_18_1 {L : Nat} {xs : Nat → Int32} {d : Nat} {Q : Option Value → xF → Prop} {F : xF} {S : Nat → Int32} (h : relTape F 1 S) (hi : invTape S) (hQ : ∀ G : xF, relTape G 18 S → (∀ k, ¬ k = 31 → ¬ k = 32 → G k = F k) → Q none G) : V2 L xs (d + 1) m_Nums_copyFrom 0 (xEntry [.ref 31, .ref 14] 2) [] F Q := by
  obtain ⟨eT, hT⟩ := inv_TN hi
  refine c_Nums_copy_31_14 (P := TN S) (h.1.trans eT) hT ?_
  exact hQ _ ⟨eT.symm, fun i hh => (sb_cpy0 hh).trans (h.2 i hh)⟩ (fun k a b => (xrw_ne b).trans (xp_row_ne a))
theorem c_wait_copy_18_1 {L : Nat} {xs : Nat → Int32} {d : Nat} {Q : Option Value → xF → Prop} {F : xF} {S : Nat → Int32} (h : relWait F 1 S) (hi : invWait S) (hQ : ∀ G : xF, relWait G 18 S → (∀ k, ¬ k = 33 → ¬ k = 34 → G k = F k) → Q none G) : V2 L xs (d + 1) m_Nums_copyFrom 0 (xEntry [.ref 33, .ref 16] 2) [] F Q := by
  obtain ⟨eT, hT⟩ := inv_WN hi
  refine c_Nums_copy_33_16 (P := WN S) (h.1.trans eT) hT ?_
  exact hQ _ ⟨eT.symm, fun i hh => (sb_cpy0 hh).trans (h.2 i hh)⟩ (fun k a b => (xrw_ne b).trans (xp_row_ne a))
theorem c_World_copy_18_1 {L : Nat} {xs : Nat → Int32} {d : Nat} {Q : Option Value → xF → Prop} {F : xF} {S : Nat → Int32} (h : relW F 1 S) (hi : invS S) (hid : F 25 0 = nI 0 ∧ F 28 0 = nI 1) (hQ : ∀ G : xF, relW G 18 S → (∀ k, (k < 18 ∨ 34 < k) → G k = F k) → Q none G) : V2 L xs (d + 3) m_World_copyFrom 0 (xEntry [.ref 18, .ref 1] 2) [] F Q := by
  refine V2.to (l' := [some (.ref 18), some (.ref 1)]) ?_ rfl rfl rfl rfl
  refine V2_aload_n (i := 0) d_World_copyFrom_0 rfl rfl ?_
  refine V2_getr (a := 19) d_World_copyFrom_1 fl_World_10 (by decide) rfl (by decide) rfl ?_
  refine V2_aload_n (i := 1) d_World_copyFrom_4 rfl rfl ?_
  refine V2_getr (a := 2) d_World_copyFrom_5 fl_World_10 (by decide) rfl (by decide) rfl ?_
  refine V2_callV [.ref 2] d_World_copyFrom_8 rfl rfl lk_World_99 mo_Car_copyFrom (by decide) rfl rfl rfl (Nat.le_of_ble_eq_true rfl) (Nat.le_of_ble_eq_true rfl) ?_
  refine c_Car_copy_19_2 (by rw [show F 2 7 = S 5 from h.1.2.2.2.2.2.2.2]; exact hi.1.2.2.2.2.2.1) (fun G0 p0 g0 => ?_)
  refine V2_aload_n (i := 0) d_World_copyFrom_11 rfl rfl ?_
  refine V2_getr (a := 20) d_World_copyFrom_12 fl_World_19 (by decide) rfl (by decide) rfl ?_
  refine V2_aload_n (i := 1) d_World_copyFrom_15 rfl rfl ?_
  refine V2_getr (a := 3) d_World_copyFrom_16 fl_World_19 (by decide) rfl (by decide) rfl ?_
  refine V2_callV [.ref 3] d_World_copyFrom_19 rfl rfl lk_World_103 mo_Push_copyFrom (by decide) rfl rfl rfl (Nat.le_of_ble_eq_true rfl) (Nat.le_of_ble_eq_true rfl) ?_
  refine c_Push_copy_18_1 (relPw_c h.2.1 hi.2.2.1 (fun k _ _ => (g0 k (by omega))) (fun _ _ _ => rfl)) hi.2.2.1 (fun G1 p1 g1 => ?_)
  refine V2_aload_n (i := 0) d_World_copyFrom_22 rfl rfl ?_
  refine V2_getr (a := 25) d_World_copyFrom_23 fl_World_28 (by decide) rfl (by decide) rfl ?_
  refine V2_aload_n (i := 1) d_World_copyFrom_26 rfl rfl ?_
  refine V2_getr (a := 8) d_World_copyFrom_27 fl_World_28 (by decide) rfl (by decide) rfl ?_
  refine V2_callV [.ref 8] d_World_copyFrom_30 rfl rfl lk_World_106 mo_Law_copyFrom (by decide) rfl rfl rfl (Nat.le_of_ble_eq_true rfl) (Nat.le_of_ble_eq_true rfl) ?_
  refine c_Law_copy_25_8 (relL_c h.2.2.1 hi.2.2.2.1 (((g1 _ (by omega) (by omega) (by omega))).trans ((g0 _ (by omega)))) (((g1 _ (by omega) (by omega) (by omega))).trans ((g0 _ (by omega)))) (fun _ _ _ => rfl)) ((congrFun (((g1 _ (by omega) (by omega) (by omega))).trans ((g0 _ (by omega)))) 0).trans hid.1) (fun G2 p2 g2 => ?_)
  refine V2_aload_n (i := 0) d_World_copyFrom_33 rfl rfl ?_
  refine V2_getr (a := 28) d_World_copyFrom_34 fl_World_32 (by decide) rfl (by decide) rfl ?_
  refine V2_aload_n (i := 1) d_World_copyFrom_37 rfl rfl ?_
  refine V2_getr (a := 11) d_World_copyFrom_38 fl_World_32 (by decide) rfl (by decide) rfl ?_
  refine V2_callV [.ref 11] d_World_copyFrom_41 rfl rfl lk_World_106 mo_Law_copyFrom (by decide) rfl rfl rfl (Nat.le_of_ble_eq_true rfl) (Nat.le_of_ble_eq_true rfl) ?_
  refine c_Law_copy_28_11 (relL_c h.2.2.2.1 hi.2.2.2.2.1 (((g2 _ (by omega) (by omega))).trans (((g1 _ (by omega) (by omega) (by omega))).trans ((g0 _ (by omega))))) (((g2 _ (by omega) (by omega))).trans (((g1 _ (by omega) (by omega) (by omega))).trans ((g0 _ (by omega))))) (fun _ _ _ => rfl)) ((congrFun (((g2 _ (by omega) (by omega))).trans (((g1 _ (by omega) (by omega) (by omega))).trans ((g0 _ (by omega))))) 0).trans hid.2) (fun G3 p3 g3 => ?_)
  refine V2_aload_n (i := 0) d_World_copyFrom_44 rfl rfl ?_
  refine V2_getr (a := 31) d_World_copyFrom_45 fl_World_38 (by decide) rfl (by decide) rfl ?_
  refine V2_aload_n (i := 1) d_World_copyFrom_48 rfl rfl ?_
  refine V2_getr (a := 14) d_World_copyFrom_49 fl_World_38 (by decide) rfl (by decide) rfl ?_
  refine V2_callV [.ref 14] d_World_copyFrom_52 rfl rfl lk_World_109 mo_Nums_copyFrom (by decide) rfl rfl rfl (Nat.le_of_ble_eq_true rfl) (Nat.le_of_ble_eq_true rfl) ?_
  refine c_tape_copy_18_1 (relTape_c h.2.2.2.2.1 hi.2.2.2.2.2.1 (((g3 _ (by omega) (by omega))).trans (((g2 _ (by omega) (by omega))).trans (((g1 _ (by omega) (by omega) (by omega))).trans ((g0 _ (by omega)))))) (((g3 _ (by omega) (by omega))).trans (((g2 _ (by omega) (by omega))).trans (((g1 _ (by omega) (by omega) (by omega))).trans ((g0 _ (by omega)))))) rfl (fun _ _ _ => rfl)) hi.2.2.2.2.2.1 (fun G4 p4 g4 => ?_)
  refine V2_aload_n (i := 0) d_World_copyFrom_55 rfl rfl ?_
  refine V2_getr (a := 33) d_World_copyFrom_56 fl_World_42 (by decide) rfl (by decide) rfl ?_
  refine V2_aload_n (i := 1) d_World_copyFrom_59 rfl rfl ?_
  refine V2_getr (a := 16) d_World_copyFrom_60 fl_World_42 (by decide) rfl (by decide) rfl ?_
  refine V2_callV [.ref 16] d_World_copyFrom_63 rfl rfl lk_World_109 mo_Nums_copyFrom (by decide) rfl rfl rfl (Nat.le_of_ble_eq_true rfl) (Nat.le_of_ble_eq_true rfl) ?_
  refine c_wait_copy_18_1 (relWait_c h.2.2.2.2.2.1 (((g4 _ (by omega) (by omega))).trans (((g3 _ (by omega) (by omega))).trans (((g2 _ (by omega) (by omega))).trans (((g1 _ (by omega) (by omega) (by omega))).trans ((g0 _ (by omega))))))) (((g4 _ (by omega) (by omega))).trans (((g3 _ (by omega) (by omega))).trans (((g2 _ (by omega) (by omega))).trans (((g1 _ (by omega) (by omega) (by omega))).trans ((g0 _ (by omega))))))) rfl (fun _ _ => rfl)) hi.2.2.2.2.2.2 (fun G5 p5 g5 => ?_)
  refine V2_aload_n (i := 0) d_World_copyFrom_66 rfl rfl ?_
  refine V2_aload_n (i := 1) d_World_copyFrom_67 rfl rfl ?_
  refine V2_get (v := G5 1 6) d_World_copyFrom_68 fl_World_45 (by decide) rfl (by decide) rfl rfl ?_
  refine V2_topi (fun v1 ev1 => ?_)
  refine V2_put d_World_copyFrom_71 fl_World_45 (by decide) rfl (by decide) rfl ?_
  refine V2_return d_World_copyFrom_74 rfl ?_
  subst ev1
  refine hQ _ ⟨relCr_row h.1 (fun j hj => (congrFun ((xp_row_ne (by omega)).trans (((g5 _ (by omega) (by omega))).trans (((g4 _ (by omega) (by omega))).trans (((g3 _ (by omega) (by omega))).trans (((g2 _ (by omega) (by omega))).trans ((g1 _ (by omega) (by omega) (by omega)))))))) j).trans (p0 j hj)), relPw_c p1 hi.2.2.1 (fun k _ _ => (xp_row_ne (by omega)).trans (((g5 k (by omega) (by omega))).trans (((g4 k (by omega) (by omega))).trans (((g3 k (by omega) (by omega))).trans ((g2 k (by omega) (by omega))))))) (fun _ _ _ => rfl), relL_c p2 hi.2.2.2.1 ((xp_row_ne (by omega)).trans (((g5 _ (by omega) (by omega))).trans (((g4 _ (by omega) (by omega))).trans ((g3 _ (by omega) (by omega)))))) ((xp_row_ne (by omega)).trans (((g5 _ (by omega) (by omega))).trans (((g4 _ (by omega) (by omega))).trans ((g3 _ (by omega) (by omega)))))) (fun _ _ _ => rfl), relL_c p3 hi.2.2.2.2.1 ((xp_row_ne (by omega)).trans (((g5 _ (by omega) (by omega))).trans ((g4 _ (by omega) (by omega))))) ((xp_row_ne (by omega)).trans (((g5 _ (by omega) (by omega))).trans ((g4 _ (by omega) (by omega))))) (fun _ _ _ => rfl), relTape_c p4 hi.2.2.2.2.2.1 ((xp_row_ne (by omega)).trans ((g5 _ (by omega) (by omega)))) ((xp_row_ne (by omega)).trans ((g5 _ (by omega) (by omega)))) rfl (fun _ _ _ => rfl), relWait_c p5 ((xp_row_ne (by omega))) ((xp_row_ne (by omega))) rfl (fun _ _ => rfl), ?_⟩ (fun k hk => (xp_row_ne (by omega)).trans (((g5 k (by omega) (by omega))).trans (((g4 k (by omega) (by omega))).trans (((g3 k (by omega) (by omega))).trans (((g2 k (by omega) (by omega))).trans (((g1 k (by omega) (by omega) (by omega))).trans ((g0 k (by omega)))))))))
  rw [xp_same]
  exact (congrFun (((g5 _ (by omega) (by omega))).trans (((g4 _ (by omega) (by omega))).trans (((g3 _ (by omega) (by omega))).trans (((g2 _ (by omega) (by omega))).trans (((g1 _ (by omega) (by omega) (by omega))).trans ((g0 _ (by omega)))))))) 6).trans h.2.2.2.2.2.2
theorem c_Push_copy_1_18 {L : Nat} {xs : Nat → Int32} {d : Nat} {Q : Option Value → xF → Prop} {F : xF} {S : Nat → Int32} (h : relPw F 18 S) (hi : invP S) (hQ : ∀ G : xF, relPw G 1 S → (∀ k, ¬ k = 3 → ¬ k = 5 → ¬ k = 7 → G k = F k) → Q none G) : V2 L xs (d + 2) m_Push_copyFrom 0 (xEntry [.ref 3, .ref 20] 2) [] F Q := by
  obtain ⟨eP, hP6⟩ := inv_PN hi
  refine V2.to (l' := [some (.ref 3), some (.ref 20)]) ?_ rfl rfl rfl rfl
  refine V2_aload_n (i := 0) d_Push_copyFrom_0 rfl rfl ?_
  refine V2_aload_n (i := 1) d_Push_copyFrom_1 rfl rfl ?_
  refine V2_get (v := F 20 2) d_Push_copyFrom_2 fl_Push_16 (by decide) rfl (by decide) rfl rfl ?_
  refine V2_topi (fun v1 ev1 => ?_)
  refine V2_put d_Push_copyFrom_5 fl_Push_16 (by decide) rfl (by decide) rfl ?_
  refine V2_aload_n (i := 1) d_Push_copyFrom_8 rfl rfl ?_
  refine V2_getr (a := 22) d_Push_copyFrom_9 fl_Push_9 (by decide) rfl (by decide) rfl ?_
  refine V2_iconst (v := 0) d_Push_copyFrom_12 rfl ?_
  refine V2_aload_n (i := 0) d_Push_copyFrom_13 rfl rfl ?_
  refine V2_getr (a := 5) d_Push_copyFrom_14 fl_Push_9 (by decide) rfl (by decide) rfl ?_
  refine V2_iconst (v := 0) d_Push_copyFrom_17 rfl ?_
  refine V2_bipush (v := 6) d_Push_copyFrom_18 rfl ?_
  refine V2_copy d_Push_copyFrom_20 lz_Push_63 (by decide) (by decide) rfl rfl (by decide) (by decide) (by decide) (by decide) (by decide) (Nat.le_of_ble_eq_true rfl) ?_
  refine V2_aload_n (i := 1) d_Push_copyFrom_23 rfl rfl ?_
  refine V2_getr (a := 24) d_Push_copyFrom_24 fl_Push_13 (by decide) rfl (by decide) rfl ?_
  refine V2_iconst (v := 0) d_Push_copyFrom_27 rfl ?_
  refine V2_aload_n (i := 0) d_Push_copyFrom_28 rfl rfl ?_
  refine V2_getr (a := 7) d_Push_copyFrom_29 fl_Push_13 (by decide) rfl (by decide) rfl ?_
  refine V2_iconst (v := 0) d_Push_copyFrom_32 rfl ?_
  refine V2_bipush (v := 6) d_Push_copyFrom_33 rfl ?_
  refine V2_copy d_Push_copyFrom_35 lz_Push_63 (by decide) (by decide) rfl rfl (by decide) (by decide) (by decide) (by decide) (by decide) (Nat.le_of_ble_eq_true rfl) ?_
  refine V2_return d_Push_copyFrom_38 rfl ?_
  subst ev1
  refine hQ _ ⟨h.1, h.2.1, fun p hp => ⟨(sb_cpy0 (Nat.lt_of_lt_of_le hp hP6)).trans (h.2.2 p hp).1, (sb_cpy0 (Nat.lt_of_lt_of_le hp hP6)).trans (h.2.2 p hp).2⟩⟩ (fun k a b c => (xrw_ne c).trans ((xrw_ne b).trans (xp_row_ne a)))
theorem c_Law_copy_8_25 {L : Nat} {xs : Nat → Int32} {d : Nat} {Q : Option Value → xF → Prop} {F : xF} {S : Nat → Int32} (h : relL F 25 0 S) (hid : F 8 0 = nI 0) (hQ : ∀ G : xF, relL G 8 0 S → (∀ k, ¬ k = 8 → ¬ k = 9 → G k = F k) → Q none G) : V2 L xs (d + 1) m_Law_copyFrom 0 (xEntry [.ref 8, .ref 25] 2) [] F Q := by
  obtain ⟨n, hn, en⟩ := h.1.2
  refine V2.to (l' := [some (.ref 8), some (.ref 25)]) ?_ rfl rfl rfl rfl
  refine V2_aload_n (i := 0) d_Law_copyFrom_0 rfl rfl ?_
  refine V2_iconst (v := 0) d_Law_copyFrom_1 rfl ?_
  refine V2_aload_n (i := 1) d_Law_copyFrom_2 rfl rfl ?_
  refine V2_get (v := F 25 3) d_Law_copyFrom_3 fl_Law_16 (by decide) rfl (by decide) rfl rfl ?_
  refine V2_topi (fun v1 ev1 => ?_)
  refine V2_bipush (v := 60) d_Law_copyFrom_6 rfl ?_
  refine V2_mmin d_Law_copyFrom_8 lz_Law_33 (Nat.le_of_ble_eq_true rfl) ?_
  refine V2_topi (fun v2 ev2 => ?_)
  refine V2_mmax d_Law_copyFrom_11 lz_Law_50 (Nat.le_of_ble_eq_true rfl) ?_
  refine V2_topi (fun v3 ev3 => ?_)
  have ez : v3 = nI n := by
    subst ev3 ev2 ev1
    rw [en]
    exact xcap (n := 60) (by decide) (by omega) (by decide)
  rw [ez]
  refine V2_put d_Law_copyFrom_14 fl_Law_16 (by decide) rfl (by decide) rfl ?_
  refine V2_aload_n (i := 1) d_Law_copyFrom_17 rfl rfl ?_
  refine V2_getr (a := 26) d_Law_copyFrom_18 fl_Law_9 (by decide) rfl (by decide) rfl ?_
  refine V2_iconst (v := 0) d_Law_copyFrom_21 rfl ?_
  refine V2_aload_n (i := 0) d_Law_copyFrom_22 rfl rfl ?_
  refine V2_getr (a := 9) d_Law_copyFrom_23 fl_Law_9 (by decide) rfl (by decide) rfl ?_
  refine V2_iconst (v := 0) d_Law_copyFrom_26 rfl ?_
  refine V2_aload_n (i := 0) d_Law_copyFrom_27 rfl rfl ?_
  refine V2_get (v := nI n) d_Law_copyFrom_28 fl_Law_16 (by decide) rfl (by decide) rfl rfl ?_
  refine V2_topi (fun v4 ev4 => ?_)
  refine V2_copy d_Law_copyFrom_31 lz_Law_53 (by decide) (by decide) rfl rfl (by decide) (by decide) (by subst ev4 ev3 ev2 ev1; exact nI_pos (by omega)) (by subst ev4 ev3 ev2 ev1; show 0 + _ ≤ _; rw [nI_clamp (by omega)]; omega) (by subst ev4 ev3 ev2 ev1; show 0 + _ ≤ _; rw [nI_clamp (by omega)]; omega) (Nat.le_of_ble_eq_true rfl) ?_
  refine V2_aload_n (i := 0) d_Law_copyFrom_34 rfl rfl ?_
  refine V2_aload_n (i := 1) d_Law_copyFrom_35 rfl rfl ?_
  refine V2_get (v := F 25 4) d_Law_copyFrom_36 fl_Law_20 (by decide) rfl (by decide) rfl rfl ?_
  refine V2_topi (fun v5 ev5 => ?_)
  have hzz : v5 = 0 ∨ v5 = 1 := by
    subst ev5 ev4 ev3 ev2 ev1
    rw [h.2.1]
    exact xb_01
  refine V2_putz d_Law_copyFrom_39 fl_Law_20 (by decide) rfl (by decide) rfl (by assumption) ?_
  refine V2_return d_Law_copyFrom_42 rfl ?_
  subst ev5 ev4 ev3 ev2 ev1
  refine xQv (hQ (xp (xrw (xp F 8 3 (nI n)) 9 (va_cpy (F 26) (F 9) 0 0 n)) 8 4 (F 25 4)) ⟨⟨hid, n, hn, rfl⟩, h.2.1, fun hp => ⟨en.symm.trans (h.2.2 hp).1, fun k hk => ?_⟩⟩ (fun k a b => (xp_row_ne a).trans ((xrw_ne b).trans (xp_row_ne a)))) (by rw [nI_clamp (by omega)]; rfl)
  have hk2 := hk
  rw [← (h.2.2 hp).1, en, nI_clamp (by omega)] at hk2
  exact (sb_cpy0 hk2).trans ((h.2.2 hp).2 k hk)
theorem c_Law_copy_11_28 {L : Nat} {xs : Nat → Int32} {d : Nat} {Q : Option Value → xF → Prop} {F : xF} {S : Nat → Int32} (h : relL F 28 1 S) (hid : F 11 0 = nI 1) (hQ : ∀ G : xF, relL G 11 1 S → (∀ k, ¬ k = 11 → ¬ k = 12 → G k = F k) → Q none G) : V2 L xs (d + 1) m_Law_copyFrom 0 (xEntry [.ref 11, .ref 28] 2) [] F Q := by
  obtain ⟨n, hn, en⟩ := h.1.2
  refine V2.to (l' := [some (.ref 11), some (.ref 28)]) ?_ rfl rfl rfl rfl
  refine V2_aload_n (i := 0) d_Law_copyFrom_0 rfl rfl ?_
  refine V2_iconst (v := 0) d_Law_copyFrom_1 rfl ?_
  refine V2_aload_n (i := 1) d_Law_copyFrom_2 rfl rfl ?_
  refine V2_get (v := F 28 3) d_Law_copyFrom_3 fl_Law_16 (by decide) rfl (by decide) rfl rfl ?_
  refine V2_topi (fun v1 ev1 => ?_)
  refine V2_bipush (v := 60) d_Law_copyFrom_6 rfl ?_
  refine V2_mmin d_Law_copyFrom_8 lz_Law_33 (Nat.le_of_ble_eq_true rfl) ?_
  refine V2_topi (fun v2 ev2 => ?_)
  refine V2_mmax d_Law_copyFrom_11 lz_Law_50 (Nat.le_of_ble_eq_true rfl) ?_
  refine V2_topi (fun v3 ev3 => ?_)
  have ez : v3 = nI n := by
    subst ev3 ev2 ev1
    rw [en]
    exact xcap (n := 60) (by decide) (by omega) (by decide)
  rw [ez]
  refine V2_put d_Law_copyFrom_14 fl_Law_16 (by decide) rfl (by decide) rfl ?_
  refine V2_aload_n (i := 1) d_Law_copyFrom_17 rfl rfl ?_
  refine V2_getr (a := 29) d_Law_copyFrom_18 fl_Law_9 (by decide) rfl (by decide) rfl ?_
  refine V2_iconst (v := 0) d_Law_copyFrom_21 rfl ?_
  refine V2_aload_n (i := 0) d_Law_copyFrom_22 rfl rfl ?_
  refine V2_getr (a := 12) d_Law_copyFrom_23 fl_Law_9 (by decide) rfl (by decide) rfl ?_
  refine V2_iconst (v := 0) d_Law_copyFrom_26 rfl ?_
  refine V2_aload_n (i := 0) d_Law_copyFrom_27 rfl rfl ?_
  refine V2_get (v := nI n) d_Law_copyFrom_28 fl_Law_16 (by decide) rfl (by decide) rfl rfl ?_
  refine V2_topi (fun v4 ev4 => ?_)
  refine V2_copy d_Law_copyFrom_31 lz_Law_53 (by decide) (by decide) rfl rfl (by decide) (by decide) (by subst ev4 ev3 ev2 ev1; exact nI_pos (by omega)) (by subst ev4 ev3 ev2 ev1; show 0 + _ ≤ _; rw [nI_clamp (by omega)]; omega) (by subst ev4 ev3 ev2 ev1; show 0 + _ ≤ _; rw [nI_clamp (by omega)]; omega) (Nat.le_of_ble_eq_true rfl) ?_
  refine V2_aload_n (i := 0) d_Law_copyFrom_34 rfl rfl ?_
  refine V2_aload_n (i := 1) d_Law_copyFrom_35 rfl rfl ?_
  refine V2_get (v := F 28 4) d_Law_copyFrom_36 fl_Law_20 (by decide) rfl (by decide) rfl rfl ?_
  refine V2_topi (fun v5 ev5 => ?_)
  have hzz : v5 = 0 ∨ v5 = 1 := by
    subst ev5 ev4 ev3 ev2 ev1
    rw [h.2.1]
    exact xb_01
  refine V2_putz d_Law_copyFrom_39 fl_Law_20 (by decide) rfl (by decide) rfl (by assumption) ?_
  refine V2_return d_Law_copyFrom_42 rfl ?_
  subst ev5 ev4 ev3 ev2 ev1
  refine xQv (hQ (xp (xrw (xp F 11 3 (nI n)) 12 (va_cpy (F 29) (F 12) 0 0 n)) 11 4 (F 28 4)) ⟨⟨hid, n, hn, rfl⟩, h.2.1, fun hp => ⟨en.symm.trans (h.2.2 hp).1, fun k hk => ?_⟩⟩ (fun k a b => (xp_row_ne a).trans ((xrw_ne b).trans (xp_row_ne a)))) (by rw [nI_clamp (by omega)]; rfl)
  have hk2 := hk
  rw [← (h.2.2 hp).1, en, nI_clamp (by omega)] at hk2
  exact (sb_cpy0 hk2).trans ((h.2.2 hp).2 k hk)
theorem c_tape_copy_1_18 {L : Nat} {xs : Nat → Int32} {d : Nat} {Q : Option Value → xF → Prop} {F : xF} {S : Nat → Int32} (h : relTape F 18 S) (hi : invTape S) (hQ : ∀ G : xF, relTape G 1 S → (∀ k, ¬ k = 14 → ¬ k = 15 → G k = F k) → Q none G) : V2 L xs (d + 1) m_Nums_copyFrom 0 (xEntry [.ref 14, .ref 31] 2) [] F Q := by
  obtain ⟨eT, hT⟩ := inv_TN hi
  refine c_Nums_copy_14_31 (P := TN S) (h.1.trans eT) hT ?_
  exact hQ _ ⟨eT.symm, fun i hh => (sb_cpy0 hh).trans (h.2 i hh)⟩ (fun k a b => (xrw_ne b).trans (xp_row_ne a))
theorem c_wait_copy_1_18 {L : Nat} {xs : Nat → Int32} {d : Nat} {Q : Option Value → xF → Prop} {F : xF} {S : Nat → Int32} (h : relWait F 18 S) (hi : invWait S) (hQ : ∀ G : xF, relWait G 1 S → (∀ k, ¬ k = 16 → ¬ k = 17 → G k = F k) → Q none G) : V2 L xs (d + 1) m_Nums_copyFrom 0 (xEntry [.ref 16, .ref 33] 2) [] F Q := by
  obtain ⟨eT, hT⟩ := inv_WN hi
  refine c_Nums_copy_16_33 (P := WN S) (h.1.trans eT) hT ?_
  exact hQ _ ⟨eT.symm, fun i hh => (sb_cpy0 hh).trans (h.2 i hh)⟩ (fun k a b => (xrw_ne b).trans (xp_row_ne a))
theorem c_World_copy_1_18 {L : Nat} {xs : Nat → Int32} {d : Nat} {Q : Option Value → xF → Prop} {F : xF} {S : Nat → Int32} (h : relW F 18 S) (hi : invS S) (hid : F 8 0 = nI 0 ∧ F 11 0 = nI 1) (hQ : ∀ G : xF, relW G 1 S → (∀ k, (k < 1 ∨ 17 < k) → G k = F k) → Q none G) : V2 L xs (d + 3) m_World_copyFrom 0 (xEntry [.ref 1, .ref 18] 2) [] F Q := by
  refine V2.to (l' := [some (.ref 1), some (.ref 18)]) ?_ rfl rfl rfl rfl
  refine V2_aload_n (i := 0) d_World_copyFrom_0 rfl rfl ?_
  refine V2_getr (a := 2) d_World_copyFrom_1 fl_World_10 (by decide) rfl (by decide) rfl ?_
  refine V2_aload_n (i := 1) d_World_copyFrom_4 rfl rfl ?_
  refine V2_getr (a := 19) d_World_copyFrom_5 fl_World_10 (by decide) rfl (by decide) rfl ?_
  refine V2_callV [.ref 19] d_World_copyFrom_8 rfl rfl lk_World_99 mo_Car_copyFrom (by decide) rfl rfl rfl (Nat.le_of_ble_eq_true rfl) (Nat.le_of_ble_eq_true rfl) ?_
  refine c_Car_copy_2_19 (by rw [show F 19 7 = S 5 from h.1.2.2.2.2.2.2.2]; exact hi.1.2.2.2.2.2.1) (fun G0 p0 g0 => ?_)
  refine V2_aload_n (i := 0) d_World_copyFrom_11 rfl rfl ?_
  refine V2_getr (a := 3) d_World_copyFrom_12 fl_World_19 (by decide) rfl (by decide) rfl ?_
  refine V2_aload_n (i := 1) d_World_copyFrom_15 rfl rfl ?_
  refine V2_getr (a := 20) d_World_copyFrom_16 fl_World_19 (by decide) rfl (by decide) rfl ?_
  refine V2_callV [.ref 20] d_World_copyFrom_19 rfl rfl lk_World_103 mo_Push_copyFrom (by decide) rfl rfl rfl (Nat.le_of_ble_eq_true rfl) (Nat.le_of_ble_eq_true rfl) ?_
  refine c_Push_copy_1_18 (relPw_c h.2.1 hi.2.2.1 (fun k _ _ => (g0 k (by omega))) (fun _ _ _ => rfl)) hi.2.2.1 (fun G1 p1 g1 => ?_)
  refine V2_aload_n (i := 0) d_World_copyFrom_22 rfl rfl ?_
  refine V2_getr (a := 8) d_World_copyFrom_23 fl_World_28 (by decide) rfl (by decide) rfl ?_
  refine V2_aload_n (i := 1) d_World_copyFrom_26 rfl rfl ?_
  refine V2_getr (a := 25) d_World_copyFrom_27 fl_World_28 (by decide) rfl (by decide) rfl ?_
  refine V2_callV [.ref 25] d_World_copyFrom_30 rfl rfl lk_World_106 mo_Law_copyFrom (by decide) rfl rfl rfl (Nat.le_of_ble_eq_true rfl) (Nat.le_of_ble_eq_true rfl) ?_
  refine c_Law_copy_8_25 (relL_c h.2.2.1 hi.2.2.2.1 (((g1 _ (by omega) (by omega) (by omega))).trans ((g0 _ (by omega)))) (((g1 _ (by omega) (by omega) (by omega))).trans ((g0 _ (by omega)))) (fun _ _ _ => rfl)) ((congrFun (((g1 _ (by omega) (by omega) (by omega))).trans ((g0 _ (by omega)))) 0).trans hid.1) (fun G2 p2 g2 => ?_)
  refine V2_aload_n (i := 0) d_World_copyFrom_33 rfl rfl ?_
  refine V2_getr (a := 11) d_World_copyFrom_34 fl_World_32 (by decide) rfl (by decide) rfl ?_
  refine V2_aload_n (i := 1) d_World_copyFrom_37 rfl rfl ?_
  refine V2_getr (a := 28) d_World_copyFrom_38 fl_World_32 (by decide) rfl (by decide) rfl ?_
  refine V2_callV [.ref 28] d_World_copyFrom_41 rfl rfl lk_World_106 mo_Law_copyFrom (by decide) rfl rfl rfl (Nat.le_of_ble_eq_true rfl) (Nat.le_of_ble_eq_true rfl) ?_
  refine c_Law_copy_11_28 (relL_c h.2.2.2.1 hi.2.2.2.2.1 (((g2 _ (by omega) (by omega))).trans (((g1 _ (by omega) (by omega) (by omega))).trans ((g0 _ (by omega))))) (((g2 _ (by omega) (by omega))).trans (((g1 _ (by omega) (by omega) (by omega))).trans ((g0 _ (by omega))))) (fun _ _ _ => rfl)) ((congrFun (((g2 _ (by omega) (by omega))).trans (((g1 _ (by omega) (by omega) (by omega))).trans ((g0 _ (by omega))))) 0).trans hid.2) (fun G3 p3 g3 => ?_)
  refine V2_aload_n (i := 0) d_World_copyFrom_44 rfl rfl ?_
  refine V2_getr (a := 14) d_World_copyFrom_45 fl_World_38 (by decide) rfl (by decide) rfl ?_
  refine V2_aload_n (i := 1) d_World_copyFrom_48 rfl rfl ?_
  refine V2_getr (a := 31) d_World_copyFrom_49 fl_World_38 (by decide) rfl (by decide) rfl ?_
  refine V2_callV [.ref 31] d_World_copyFrom_52 rfl rfl lk_World_109 mo_Nums_copyFrom (by decide) rfl rfl rfl (Nat.le_of_ble_eq_true rfl) (Nat.le_of_ble_eq_true rfl) ?_
  refine c_tape_copy_1_18 (relTape_c h.2.2.2.2.1 hi.2.2.2.2.2.1 (((g3 _ (by omega) (by omega))).trans (((g2 _ (by omega) (by omega))).trans (((g1 _ (by omega) (by omega) (by omega))).trans ((g0 _ (by omega)))))) (((g3 _ (by omega) (by omega))).trans (((g2 _ (by omega) (by omega))).trans (((g1 _ (by omega) (by omega) (by omega))).trans ((g0 _ (by omega)))))) rfl (fun _ _ _ => rfl)) hi.2.2.2.2.2.1 (fun G4 p4 g4 => ?_)
  refine V2_aload_n (i := 0) d_World_copyFrom_55 rfl rfl ?_
  refine V2_getr (a := 16) d_World_copyFrom_56 fl_World_42 (by decide) rfl (by decide) rfl ?_
  refine V2_aload_n (i := 1) d_World_copyFrom_59 rfl rfl ?_
  refine V2_getr (a := 33) d_World_copyFrom_60 fl_World_42 (by decide) rfl (by decide) rfl ?_
  refine V2_callV [.ref 33] d_World_copyFrom_63 rfl rfl lk_World_109 mo_Nums_copyFrom (by decide) rfl rfl rfl (Nat.le_of_ble_eq_true rfl) (Nat.le_of_ble_eq_true rfl) ?_
  refine c_wait_copy_1_18 (relWait_c h.2.2.2.2.2.1 (((g4 _ (by omega) (by omega))).trans (((g3 _ (by omega) (by omega))).trans (((g2 _ (by omega) (by omega))).trans (((g1 _ (by omega) (by omega) (by omega))).trans ((g0 _ (by omega))))))) (((g4 _ (by omega) (by omega))).trans (((g3 _ (by omega) (by omega))).trans (((g2 _ (by omega) (by omega))).trans (((g1 _ (by omega) (by omega) (by omega))).trans ((g0 _ (by omega))))))) rfl (fun _ _ => rfl)) hi.2.2.2.2.2.2 (fun G5 p5 g5 => ?_)
  refine V2_aload_n (i := 0) d_World_copyFrom_66 rfl rfl ?_
  refine V2_aload_n (i := 1) d_World_copyFrom_67 rfl rfl ?_
  refine V2_get (v := G5 18 6) d_World_copyFrom_68 fl_World_45 (by decide) rfl (by decide) rfl rfl ?_
  refine V2_topi (fun v1 ev1 => ?_)
  refine V2_put d_World_copyFrom_71 fl_World_45 (by decide) rfl (by decide) rfl ?_
  refine V2_return d_World_copyFrom_74 rfl ?_
  subst ev1
  refine hQ _ ⟨relCr_row h.1 (fun j hj => (congrFun ((xp_row_ne (by omega)).trans (((g5 _ (by omega) (by omega))).trans (((g4 _ (by omega) (by omega))).trans (((g3 _ (by omega) (by omega))).trans (((g2 _ (by omega) (by omega))).trans ((g1 _ (by omega) (by omega) (by omega)))))))) j).trans (p0 j hj)), relPw_c p1 hi.2.2.1 (fun k _ _ => (xp_row_ne (by omega)).trans (((g5 k (by omega) (by omega))).trans (((g4 k (by omega) (by omega))).trans (((g3 k (by omega) (by omega))).trans ((g2 k (by omega) (by omega))))))) (fun _ _ _ => rfl), relL_c p2 hi.2.2.2.1 ((xp_row_ne (by omega)).trans (((g5 _ (by omega) (by omega))).trans (((g4 _ (by omega) (by omega))).trans ((g3 _ (by omega) (by omega)))))) ((xp_row_ne (by omega)).trans (((g5 _ (by omega) (by omega))).trans (((g4 _ (by omega) (by omega))).trans ((g3 _ (by omega) (by omega)))))) (fun _ _ _ => rfl), relL_c p3 hi.2.2.2.2.1 ((xp_row_ne (by omega)).trans (((g5 _ (by omega) (by omega))).trans ((g4 _ (by omega) (by omega))))) ((xp_row_ne (by omega)).trans (((g5 _ (by omega) (by omega))).trans ((g4 _ (by omega) (by omega))))) (fun _ _ _ => rfl), relTape_c p4 hi.2.2.2.2.2.1 ((xp_row_ne (by omega)).trans ((g5 _ (by omega) (by omega)))) ((xp_row_ne (by omega)).trans ((g5 _ (by omega) (by omega)))) rfl (fun _ _ _ => rfl), relWait_c p5 ((xp_row_ne (by omega))) ((xp_row_ne (by omega))) rfl (fun _ _ => rfl), ?_⟩ (fun k hk => (xp_row_ne (by omega)).trans (((g5 k (by omega) (by omega))).trans (((g4 k (by omega) (by omega))).trans (((g3 k (by omega) (by omega))).trans (((g2 k (by omega) (by omega))).trans (((g1 k (by omega) (by omega) (by omega))).trans ((g0 k (by omega)))))))))
  rw [xp_same]
  exact (congrFun (((g5 _ (by omega) (by omega))).trans (((g4 _ (by omega) (by omega))).trans (((g3 _ (by omega) (by omega))).trans (((g2 _ (by omega) (by omega))).trans (((g1 _ (by omega) (by omega) (by omega))).trans ((g0 _ (by omega)))))))) 6).trans h.2.2.2.2.2.2
theorem c_R_carry_66_67_loop {L : Nat} {xs : Nat → Int32} {d : Nat} {Q : Option Value → xF → Prop} {F : xF} (hQ : Q none (xrw F 67 (cutS (F 66) (F 67) 358))) : ∀ (n : Nat) (k : Nat), k ≤ 358 → 358 < n + k → V2 L xs d m_R_carry 2 [some (.ref 66), some (.ref 67), some (.int (nI k))] [] (xrw F 67 (cutS (F 66) (F 67) k)) Q := by
  intro n
  induction n with
  | zero => exact fun k h1 h2 => absurd h2 (by omega)
  | succ n ih =>
    intro k h1 h2
    refine V2_iload_n (i := 2) d_R_carry_2 rfl rfl ?_
    refine V2_sipush (v := 358) d_R_carry_3 rfl ?_
    refine V2_icmp_ge (tgt := 21) d_R_carry_6 rfl (fun c1 => ?_) (fun c1 => ?_)
    · refine V2_return d_R_carry_21 rfl ?_
      have hk : k = 358 := by
        have := (nI_leI (a := 358) (b := k) (by omega) (by omega)).mp c1
        omega
      subst hk
      exact hQ
    · have hk : k < 358 := Nat.not_le.mp (fun hh => c1 ((nI_leI (a := 358) (b := k) (by omega) (by omega)).mpr hh))
      refine V2_aload_n (i := 1) d_R_carry_9 rfl rfl ?_
      refine V2_iload_n (i := 2) d_R_carry_10 rfl rfl ?_
      refine V2_aload_n (i := 0) d_R_carry_11 rfl rfl ?_
      refine V2_iload_n (i := 2) d_R_carry_12 rfl rfl ?_
      refine V2_ialoadJ (v := F 66 ((k))) (k) d_R_carry_13 (by decide) rfl (xixA (n := k) rfl (by omega) (by decide)) (xixB (n := k) rfl (by omega)) rfl ?_
      refine V2_topi (fun v2 ev2 => ?_)
      refine V2_iastore (j := (k)) d_R_carry_14 (by decide) rfl (xixA (n := k) rfl (by omega) (by decide)) (xixB (n := k) rfl (by omega)) ?_
      obtain ⟨v3, ev3⟩ : ∃ y : Int32, y = nI k + 1 := ⟨_, rfl⟩
      refine V2_iinc (i := 2) (v := v3) (l' := [some (.ref 66), some (.ref 67), some (.int v3)]) d_R_carry_15 rfl (by rw [ev3]; rfl) (xst_r (Nat.le_of_ble_eq_true rfl) rfl rfl) ?_
      refine V2_goto (tgt := 2) d_R_carry_18 rfl ?_
      exact V2.to (ih (k + 1) (by omega) (by omega)) rfl (by rw [ev3, nI_1]) rfl (by subst ev3 ev2; rw [xp_xrw, cutS_upd])
theorem c_R_carry_66_67 {L : Nat} {xs : Nat → Int32} {d : Nat} {Q : Option Value → xF → Prop} {F : xF}   (hQ : Q none (xrw F 67 (cutS (F 66) (F 67) 358))) : V2 L xs d m_R_carry 0 (xEntry [.ref 66, .ref 67] 3) [] F Q := by
  refine V2.to (l' := [some (.ref 66), some (.ref 67), none]) ?_ rfl rfl rfl rfl
  refine V2_iconst (v := 0) d_R_carry_0 rfl ?_
  refine V2_istore_n (i := 2) (l' := [some (.ref 66), some (.ref 67), some (.int (0 : Int32))]) d_R_carry_1 rfl (xst_r (Nat.le_of_ble_eq_true rfl) rfl rfl) ?_
  exact V2.to (c_R_carry_66_67_loop hQ 359 0 (by omega) (by omega)) rfl rfl rfl (by rw [show cutS (F 66) (F 67) 0 = F 67 from rfl, xrw_self])
theorem c_R_carry_67_66_loop {L : Nat} {xs : Nat → Int32} {d : Nat} {Q : Option Value → xF → Prop} {F : xF} (hQ : Q none (xrw F 66 (cutS (F 67) (F 66) 358))) : ∀ (n : Nat) (k : Nat), k ≤ 358 → 358 < n + k → V2 L xs d m_R_carry 2 [some (.ref 67), some (.ref 66), some (.int (nI k))] [] (xrw F 66 (cutS (F 67) (F 66) k)) Q := by
  intro n
  induction n with
  | zero => exact fun k h1 h2 => absurd h2 (by omega)
  | succ n ih =>
    intro k h1 h2
    refine V2_iload_n (i := 2) d_R_carry_2 rfl rfl ?_
    refine V2_sipush (v := 358) d_R_carry_3 rfl ?_
    refine V2_icmp_ge (tgt := 21) d_R_carry_6 rfl (fun c1 => ?_) (fun c1 => ?_)
    · refine V2_return d_R_carry_21 rfl ?_
      have hk : k = 358 := by
        have := (nI_leI (a := 358) (b := k) (by omega) (by omega)).mp c1
        omega
      subst hk
      exact hQ
    · have hk : k < 358 := Nat.not_le.mp (fun hh => c1 ((nI_leI (a := 358) (b := k) (by omega) (by omega)).mpr hh))
      refine V2_aload_n (i := 1) d_R_carry_9 rfl rfl ?_
      refine V2_iload_n (i := 2) d_R_carry_10 rfl rfl ?_
      refine V2_aload_n (i := 0) d_R_carry_11 rfl rfl ?_
      refine V2_iload_n (i := 2) d_R_carry_12 rfl rfl ?_
      refine V2_ialoadJ (v := F 67 ((k))) (k) d_R_carry_13 (by decide) rfl (xixA (n := k) rfl (by omega) (by decide)) (xixB (n := k) rfl (by omega)) rfl ?_
      refine V2_topi (fun v2 ev2 => ?_)
      refine V2_iastore (j := (k)) d_R_carry_14 (by decide) rfl (xixA (n := k) rfl (by omega) (by decide)) (xixB (n := k) rfl (by omega)) ?_
      obtain ⟨v3, ev3⟩ : ∃ y : Int32, y = nI k + 1 := ⟨_, rfl⟩
      refine V2_iinc (i := 2) (v := v3) (l' := [some (.ref 67), some (.ref 66), some (.int v3)]) d_R_carry_15 rfl (by rw [ev3]; rfl) (xst_r (Nat.le_of_ble_eq_true rfl) rfl rfl) ?_
      refine V2_goto (tgt := 2) d_R_carry_18 rfl ?_
      exact V2.to (ih (k + 1) (by omega) (by omega)) rfl (by rw [ev3, nI_1]) rfl (by subst ev3 ev2; rw [xp_xrw, cutS_upd])
theorem c_R_carry_67_66 {L : Nat} {xs : Nat → Int32} {d : Nat} {Q : Option Value → xF → Prop} {F : xF}   (hQ : Q none (xrw F 66 (cutS (F 67) (F 66) 358))) : V2 L xs d m_R_carry 0 (xEntry [.ref 67, .ref 66] 3) [] F Q := by
  refine V2.to (l' := [some (.ref 67), some (.ref 66), none]) ?_ rfl rfl rfl rfl
  refine V2_iconst (v := 0) d_R_carry_0 rfl ?_
  refine V2_istore_n (i := 2) (l' := [some (.ref 67), some (.ref 66), some (.int (0 : Int32))]) d_R_carry_1 rfl (xst_r (Nat.le_of_ble_eq_true rfl) rfl rfl) ?_
  exact V2.to (c_R_carry_67_66_loop hQ 359 0 (by omega) (by omega)) rfl rfl rfl (by rw [show cutS (F 67) (F 66) 0 = F 66 from rfl, xrw_self])
def k_image (F : xF) : Int32 × xF := (F 65 3 + 1, xp (xrw F 67 (cutS (F 66) (F 67) 358)) 65 3 (F 65 3 + 1))
def k_restore (F : xF) : Int32 × xF := if F 65 3 = 0 then (-1000000000 - 2, errF F 2) else (F 67 7, xrw F 66 (cutS (F 67) (F 66) 358))
theorem mid_image {F G : xF} {v : Int32} (h : Rel F) (hw : relW G 18 (F 66)) (hf : ∀ k, (k < 18 ∨ 34 < k) → G k = F k) (hid : G 25 0 = nI 0 ∧ G 28 0 = nI 1) : Mid F (xp G 0 8 v) (xp (xrw F 67 (cutS (F 66) (F 67) 358)) 65 3 v) := by
  have hm : ∀ k, ¬ k = 65 → ¬ k = 67 → xp (xrw F 67 (cutS (F 66) (F 67) 358)) 65 3 v k = F k := fun k a b => (xp_row_ne a).trans (xrw_ne b)
  have hc : ∀ k, ¬ k = 0 → (k < 18 ∨ 34 < k) → xp G 0 8 v k = F k := fun k a b => (xp_row_ne a).trans (hf k b)
  have e15 : xp (xrw F 67 (cutS (F 66) (F 67) 358)) 65 3 v 65 15 = F 65 15 := by
    rw [xp_ne (Or.inr (by decide)), xrw_ne (by decide)]
  obtain ⟨g1, g2, g3, g4, g5, g6, g7⟩ := h.1
  refine ⟨fun k hk => hc k (by omega) (by omega), ?_, ⟨hid, fun _ => ?_⟩, ?_, ?_, ?_, ?_, ?_⟩
  · rw [hm 66 (by decide) (by decide)]
    exact relW_same g1 (fun k a b => hc k (by omega) (by omega))
  · rw [xp_row_ne (show ¬ 67 = 65 by decide), xrw_same]
    exact relW_congr (relW_same hw (fun k a b => xp_row_ne (by omega))) h.2.1 (fun j hj => cutS_in hj)
  · intro k hk
    rw [hm 69 (by decide) (by decide), hc 56 (by decide) (by decide)]
    exact g3 k hk
  · rw [xp_same, xp_same]
  · rw [e15, hc 53 (by decide) (by decide)]
    exact g5
  · rw [e15, hc 54 (by decide) (by decide), hm 73 (by decide) (by decide)]
    exact g6
  · intro t ht
    unfold relSheet
    rw [hm 74 (by decide) (by decide), hm 75 (by decide) (by decide), hm 76 (by decide) (by decide), hc (57 + 2 * t) (by omega) (by omega), hc (58 + 2 * t) (by omega) (by omega)]
    exact g7 t ht
theorem rel_image {F0 F : xF} {v : Int32} (h : Rel F0) (hM : Mid F0 F (xp (xrw F0 67 (cutS (F0 66) (F0 67) 358)) 65 3 v)) : Rel (xp (xrw F 67 (cutS (F 66) (F 67) 358)) 65 3 v) := by
  have e6 : F 66 = F0 66 := hM.1 66 (by decide)
  have e7 : F 67 = F0 67 := hM.1 67 (by decide)
  have e5 : F 65 = F0 65 := hM.1 65 (by decide)
  refine rel_end hM (fun a ha => (xp_row_ne (by omega)).trans (xrw_ne (by omega))) (fun a ha => ?_) ?_
  · by_cases h5 : a = 65
    · subst h5
      rw [xp_at, xp_at, xrw_ne (by decide), xrw_ne (by decide), e5]
    · rw [xp_row_ne h5, xp_row_ne h5]
      by_cases h7 : a = 67
      · subst h7
        rw [xrw_same, xrw_same, e6, e7]
      · rw [xrw_ne h7, xrw_ne h7]
        exact hM.1 a (by omega)
  · have hm : ∀ k, ¬ k = 65 → ¬ k = 67 → xp (xrw F0 67 (cutS (F0 66) (F0 67) 358)) 65 3 v k = F0 k := fun k a b => (xp_row_ne a).trans (xrw_ne b)
    have ej : ∀ j, ¬ j = 3 → xp (xrw F0 67 (cutS (F0 66) (F0 67) 358)) 65 3 v 65 j = F0 65 j := fun j hj => by
      rw [xp_ne (Or.inr hj), xrw_ne (by decide)]
    obtain ⟨i1, i2, i3, i4, i5⟩ := h.2
    refine ⟨?_, fun _ => ?_, ?_, ?_, ?_⟩
    · rw [hm 66 (by decide) (by decide)]
      exact i1
    · rw [xp_row_ne (show ¬ 67 = 65 by decide), xrw_same]
      exact invS_congr i1 (fun j hj => cutS_in hj)
    · rw [ej 5 (by decide)]
      exact i3
    · rw [ej 15 (by decide)]
      exact i4
    · intro t ht
      unfold invSheet
      rw [hm 74 (by decide) (by decide), hm 75 (by decide) (by decide)]
      exact i5 t ht
theorem c_cls_image {L : Nat} {xs : Nat → Int32} {d : Nat} {Q : Option Value → xF → Prop} {F : xF}  (hR : Rel F) (hQ : ∀ F1, Mid F F1 (k_image F).2 → Q (some (.int (k_image F).1)) F1) : V2 L xs (d + 4) m_P_image 0 (xEntry [.ref 0] 1) [] F Q := by
  refine V2.to (l' := [some (.ref 0)]) ?_ rfl rfl rfl rfl
  refine V2_aload_n (i := 0) d_P_image_0 rfl rfl ?_
  refine V2_getr (a := 18) d_P_image_1 fl_P_16 (by decide) rfl (by decide) rfl ?_
  refine V2_aload_n (i := 0) d_P_image_4 rfl rfl ?_
  refine V2_getr (a := 1) d_P_image_5 fl_P_10 (by decide) rfl (by decide) rfl ?_
  refine V2_callV [.ref 1] d_P_image_8 rfl rfl lk_P_334 mo_World_copyFrom (by decide) rfl rfl rfl (Nat.le_of_ble_eq_true rfl) (Nat.le_of_ble_eq_true rfl) ?_
  refine c_World_copy_18_1 hR.1.1 hR.2.1 hR.1.2.1.1 (fun G hw hf => ?_)
  refine V2_aload_n (i := 0) d_P_image_11 rfl rfl ?_
  refine V2_dup d_P_image_12 rfl ?_
  refine V2_get (v := G 0 8) d_P_image_13 fl_P_57 (by decide) rfl (by decide) rfl rfl ?_
  refine V2_topi (fun v1 ev1 => ?_)
  refine V2_iconst (v := 1) d_P_image_16 rfl ?_
  refine V2_iadd d_P_image_17 ?_
  refine V2_topi (fun v2 ev2 => ?_)
  refine V2_put d_P_image_18 fl_P_57 (by decide) rfl (by decide) rfl ?_
  refine V2_aload_n (i := 0) d_P_image_21 rfl rfl ?_
  refine V2_get (v := v2) d_P_image_22 fl_P_57 (by decide) rfl (by decide) rfl rfl ?_
  refine V2_ireturn d_P_image_25 rfl ?_
  have e9 : v2 = F 65 3 + 1 := by
    subst ev2 ev1
    rw [hf 0 (by omega), hR.1.2.2.2.1]
  rw [e9]
  refine hQ _ (mid_image hR hw hf ⟨hw.2.2.1.1.1, hw.2.2.2.1.1.1⟩)
theorem c_mod_image {L : Nat} {xs : Nat → Int32} {d : Nat} {Q : Option Value → xF → Prop} {F : xF} {F0 : xF} (hR : Rel F0) (hM : Mid F0 F (k_image F0).2) (hQ : ∀ F2, Rel F2 → Q (some (.int (k_image F0).1)) F2) : V2 L xs (d + 1) m_R_image 0 (xEntry [.ref 65] 1) [] F Q := by
  have e66 : F 66 = F0 66 := hM.1 66 (by decide)
  refine V2.to (l' := [some (.ref 65)]) ?_ rfl rfl rfl rfl
  refine V2_aload_n (i := 0) d_R_image_0 rfl rfl ?_
  refine V2_getr (a := 66) d_R_image_1 fl_R_7 (by decide) rfl (by decide) rfl ?_
  refine V2_aload_n (i := 0) d_R_image_4 rfl rfl ?_
  refine V2_getr (a := 67) d_R_image_5 fl_R_13 (by decide) rfl (by decide) rfl ?_
  refine V2_callS [.ref 66, .ref 67] d_R_image_8 rfl rfl lk_R_261 mo_R_carry (Nat.le_of_ble_eq_true rfl) (Nat.le_of_ble_eq_true rfl) ?_
  refine c_R_carry_66_67 ?_
  refine V2_aload_n (i := 0) d_R_image_11 rfl rfl ?_
  refine V2_dup d_R_image_12 rfl ?_
  refine V2_get (v := F 65 3) d_R_image_13 fl_R_265 (by decide) rfl (by decide) rfl rfl ?_
  refine V2_topi (fun v1 ev1 => ?_)
  refine V2_iconst (v := 1) d_R_image_16 rfl ?_
  refine V2_iadd d_R_image_17 ?_
  refine V2_topi (fun v2 ev2 => ?_)
  refine V2_put d_R_image_18 fl_R_265 (by decide) rfl (by decide) rfl ?_
  refine V2_aload_n (i := 0) d_R_image_21 rfl rfl ?_
  refine V2_get (v := v2) d_R_image_22 fl_R_265 (by decide) rfl (by decide) rfl rfl ?_
  refine V2_ireturn d_R_image_25 rfl ?_
  have e9 : v2 = F0 65 3 + 1 := by
    subst ev2 ev1
    rw [hM.1 65 (by decide)]
  rw [e9]
  exact hQ _ (rel_image hR hM)
theorem c_cls_restore {L : Nat} {xs : Nat → Int32} {d : Nat} {Q : Option Value → xF → Prop} {F : xF}  (hR : Rel F) (hQ : ∀ F1, Mid F F1 (k_restore F).2 → Q (some (.int (k_restore F).1)) F1) : V2 L xs (d + 4) m_P_restore 0 (xEntry [.ref 0] 1) [] F Q := by
  refine V2.to (l' := [some (.ref 0)]) ?_ rfl rfl rfl rfl
  refine V2_aload_n (i := 0) d_P_restore_0 rfl rfl ?_
  refine V2_get (v := F 0 8) d_P_restore_1 fl_P_57 (by decide) rfl (by decide) rfl rfl ?_
  refine V2_topi (fun v1 ev1 => ?_)
  refine V2_if_ne (tgt := 13) d_P_restore_4 rfl (fun c2 => ?_) (fun c2 => ?_)
  · refine V2_aload_n (i := 0) d_P_restore_13 rfl rfl ?_
    refine V2_getr (a := 1) d_P_restore_14 fl_P_10 (by decide) rfl (by decide) rfl ?_
    refine V2_aload_n (i := 0) d_P_restore_17 rfl rfl ?_
    refine V2_getr (a := 18) d_P_restore_18 fl_P_16 (by decide) rfl (by decide) rfl ?_
    refine V2_callV [.ref 18] d_P_restore_21 rfl rfl lk_P_334 mo_World_copyFrom (by decide) rfl rfl rfl (Nat.le_of_ble_eq_true rfl) (Nat.le_of_ble_eq_true rfl) ?_
    have hne : ¬ F 65 3 = 0 := by
      have h9 := c2
      subst ev1
      rw [← hR.1.2.2.2.1]
      exact h9
    refine c_World_copy_1_18 (hR.1.2.1.2 hne) (hR.2.2.1 hne) ⟨hR.1.1.2.2.1.1.1, hR.1.1.2.2.2.1.1.1⟩ (fun G hw hf => ?_)
    refine V2_aload_n (i := 0) d_P_restore_24 rfl rfl ?_
    refine V2_getr (a := 1) d_P_restore_25 fl_P_10 (by decide) rfl (by decide) rfl ?_
    refine V2_getr (a := 2) d_P_restore_28 fl_P_93 (by decide) rfl (by decide) rfl ?_
    refine V2_get (v := G 2 5) d_P_restore_31 fl_P_337 (by decide) rfl (by decide) rfl rfl ?_
    refine V2_topi (fun v3 ev3 => ?_)
    refine V2_ireturn d_P_restore_34 rfl ?_
    have e : k_restore F = (F 67 7, xrw F 66 (cutS (F 67) (F 66) 358)) := if_neg hne
    rw [e] at hQ
    subst ev3 ev1
    exact xQi (hQ G (mid_W hR (fun k hk => hf k (by omega)) (relW_congr hw (hR.2.2.1 hne) (fun j hj => cutS_in hj)))) hw.1.2.2.2.2.2.1 rfl
  · refine V2_aload_n (i := 0) d_P_restore_7 rfl rfl ?_
    refine V2_iconst (v := 2) d_P_restore_8 rfl ?_
    refine V2_callV [.int (2 : Int32)] d_P_restore_9 rfl rfl lk_P_66 mo_P_fails (by decide) rfl rfl rfl (Nat.le_of_ble_eq_true rfl) (Nat.le_of_ble_eq_true rfl) ?_
    refine c_P_fails2 ?_
    refine V2_topi (fun v4 ev4 => ?_)
    refine V2_ireturn d_P_restore_12 rfl ?_
    have hb0 : F 65 3 = 0 := (by have h9 := c2; subst ev4 ev1; rw [← hR.1.2.2.2.1]; exact h9)
    have e : k_restore F = (-1000000000 - 2, errF F 2) := if_pos hb0
    rw [e] at hQ
    subst ev4 ev1
    exact xQi (hQ _ (mid_err hR (by decide))) rfl rfl
theorem c_mod_restore {L : Nat} {xs : Nat → Int32} {d : Nat} {Q : Option Value → xF → Prop} {F : xF} {F0 : xF} (hR : Rel F0) (hM : Mid F0 F (k_restore F0).2) (hQ : ∀ F2, Rel F2 → Q (some (.int (k_restore F0).1)) F2) : V2 L xs (d + 1) m_R_restore 0 (xEntry [.ref 65] 1) [] F Q := by
  have e66 : F 66 = F0 66 := hM.1 66 (by decide)
  refine V2.to (l' := [some (.ref 65)]) ?_ rfl rfl rfl rfl
  refine V2_aload_n (i := 0) d_R_restore_0 rfl rfl ?_
  refine V2_get (v := F 65 3) d_R_restore_1 fl_R_265 (by decide) rfl (by decide) rfl rfl ?_
  refine V2_topi (fun v1 ev1 => ?_)
  refine V2_if_ne (tgt := 13) d_R_restore_4 rfl (fun c2 => ?_) (fun c2 => ?_)
  · refine V2_aload_n (i := 0) d_R_restore_13 rfl rfl ?_
    refine V2_getr (a := 67) d_R_restore_14 fl_R_13 (by decide) rfl (by decide) rfl ?_
    refine V2_aload_n (i := 0) d_R_restore_17 rfl rfl ?_
    refine V2_getr (a := 66) d_R_restore_18 fl_R_7 (by decide) rfl (by decide) rfl ?_
    refine V2_callS [.ref 67, .ref 66] d_R_restore_21 rfl rfl lk_R_261 mo_R_carry (Nat.le_of_ble_eq_true rfl) (Nat.le_of_ble_eq_true rfl) ?_
    refine c_R_carry_67_66 ?_
    refine V2_aload_n (i := 0) d_R_restore_24 rfl rfl ?_
    refine V2_getr (a := 66) d_R_restore_25 fl_R_7 (by decide) rfl (by decide) rfl ?_
    refine V2_bipush (v := 7) d_R_restore_28 rfl ?_
    refine V2_ialoadJ 7 d_R_restore_30 (by decide) rfl (xixA (n := 7) rfl (by decide) (by decide)) rfl rfl ?_
    refine V2_ireturn d_R_restore_31 rfl ?_
    have hne : ¬ F0 65 3 = 0 := by
      have h9 := c2
      subst ev1
      rw [← hM.1 65 (by decide)]
      exact h9
    have e : k_restore F0 = (F0 67 7, xrw F0 66 (cutS (F0 67) (F0 66) 358)) := if_neg hne
    rw [e] at hQ hM
    have e67 : F 67 = F0 67 := hM.1 67 (by decide)
    subst ev1
    exact xQi (hQ (xrw F 66 (cutS (F0 67) (F0 66) 358)) (rel_W hR hM (invS_congr (hR.2.2.1 hne) (fun j hj => cutS_in hj)))) (by rw [xrw_same, e66, e67]; rfl) (by rw [e66, e67])
  · refine V2_aload_n (i := 0) d_R_restore_7 rfl rfl ?_
    refine V2_iconst (v := 2) d_R_restore_8 rfl ?_
    refine V2_callV [.int (2 : Int32)] d_R_restore_9 rfl rfl lk_R_55 mo_R_error (by decide) rfl rfl rfl (Nat.le_of_ble_eq_true rfl) (Nat.le_of_ble_eq_true rfl) ?_
    refine c_R_error2 ?_
    refine V2_topi (fun v3 ev3 => ?_)
    refine V2_ireturn d_R_restore_12 rfl ?_
    have hb0 : F0 65 3 = 0 := (by have h9 := c2; subst ev3 ev1; rw [← hM.1 65 (by decide)]; exact h9)
    have e : k_restore F0 = (-1000000000 - 2, errF F0 2) := if_pos hb0
    rw [e] at hQ hM
    subst ev3 ev1
    exact xQi (hQ _ (rel_err hR hM)) rfl rfl
