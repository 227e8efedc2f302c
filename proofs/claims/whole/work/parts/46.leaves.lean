/-! leaves -/
theorem xp_row_ne {F : xF} {k j a : Nat} {x : Int32} (h : ¬ a = k) : xp F k j x a = F a := by
  funext b
  exact xp_ne (Or.inl h)
def k_leaves (F : xF) : Int32 × xF := if F 66 11 = 0 then (-1000000000 - 3, errF F 3) else (F 66 11 - 1, xrw F 66 (upd (F 66) 11 (F 66 11 - 1)))
theorem drop_11 {S : Nat → Int32} {p : Nat} (e : S 11 = nI (p + 1)) : S 11 - 1 = nI p := by
  rw [e]
  exact nI_sub1 (by omega)
theorem relPw_drop {F : xF} {p : Nat} (h : Rel F) (e : F 66 11 = nI (p + 1)) (h6 : p + 1 ≤ 6) : relPw (xp F 3 2 (nI p)) 1 (upd (F 66) 11 (F 66 11 - 1)) := by
  have a5 : ∀ k, ¬ k = 3 → xp F 3 2 (nI p) k = F k := fun k h1 => xp_row_ne h1
  have e11 : upd (F 66) 11 (F 66 11 - 1) 11 = nI p := upd_same.trans (drop_11 e)
  unfold relPw
  rw [e11]
  refine ⟨?_, ?_, fun q hq => ?_⟩
  · exact xp_same F 3 2 (nI p)
  · exact xp_same F 3 2 (nI p)
  · rw [nI_clamp (by omega)] at hq
    rw [upd_ne (show ¬ 12 + 2 * q = 11 by omega), upd_ne (show ¬ 12 + 2 * q + 1 = 11 by omega), a5 (1 + 4) (by decide), a5 (1 + 6) (by decide)]
    exact h.1.1.2.1.2.2 q (by rw [e, nI_clamp (by omega)]; omega)
theorem invP_drop {S : Nat → Int32} {p : Nat} (h : invP S) (e : S 11 = nI (p + 1)) (h6 : p + 1 ≤ 6) : invP (upd S 11 (S 11 - 1)) := by
  obtain ⟨P, hP, eP, hp⟩ := h
  have eq : (nI (p + 1)).toNatClampNeg = (nI P).toNatClampNeg := by rw [← e, eP]
  rw [nI_clamp (by omega), nI_clamp (by omega)] at eq
  refine ⟨p, by omega, upd_same.trans (drop_11 e), fun q hq => ?_⟩
  rw [upd_ne (show ¬ 12 + 2 * q = 11 by omega), upd_ne (show ¬ 12 + 2 * q + 1 = 11 by omega)]
  exact hp q (by omega)
theorem PN_pos {S : Nat → Int32} (h : invP S) (h0 : ¬ S 11 = 0) : ∃ p, S 11 = nI (p + 1) ∧ p + 1 ≤ 6 := by
  obtain ⟨P, hP, e, _⟩ := h
  rcases P with _ | p
  · exact absurd e h0
  · exact ⟨p, e, hP⟩
theorem c_cls_leaves {L : Nat} {xs : Nat → Int32} {d : Nat} {Q : Option Value → xF → Prop} {F : xF}  (hR : Rel F) (hQ : ∀ F1, Mid F F1 (k_leaves F).2 → Q (some (.int (k_leaves F).1)) F1) : V2 L xs (d + 3) m_P_leaves 0 (xEntry [.ref 0] 1) [] F Q := by
  refine V2.to (l' := [some (.ref 0)]) ?_ rfl rfl rfl rfl
  refine V2_aload_n (i := 0) d_P_leaves_0 rfl rfl ?_
  refine V2_getr (a := 1) d_P_leaves_1 fl_P_10 (by decide) rfl (by decide) rfl ?_
  refine V2_getr (a := 3) d_P_leaves_4 fl_P_70 (by decide) rfl (by decide) rfl ?_
  refine V2_callV [] d_P_leaves_7 rfl rfl lk_P_116 mo_Push_size (by decide) rfl rfl rfl (Nat.le_of_ble_eq_true rfl) (Nat.le_of_ble_eq_true rfl) ?_
  refine V2.to (l' := [some (.ref 3)]) ?_ rfl rfl rfl rfl
  refine V2_aload_n (i := 0) d_Push_size_0 rfl rfl ?_
  refine V2_get (v := F 3 2) d_Push_size_1 fl_Push_16 (by decide) rfl (by decide) rfl rfl ?_
  refine V2_topi (fun v1 ev1 => ?_)
  refine V2_ireturn d_Push_size_4 rfl ?_
  refine V2.to (st' := [.int v1]) ?_ rfl rfl rfl rfl
  refine V2_if_ne (tgt := 19) d_P_leaves_10 rfl (fun c2 => ?_) (fun c2 => ?_)
  · refine V2_aload_n (i := 0) d_P_leaves_19 rfl rfl ?_
    refine V2_getr (a := 1) d_P_leaves_20 fl_P_10 (by decide) rfl (by decide) rfl ?_
    refine V2_getr (a := 3) d_P_leaves_23 fl_P_70 (by decide) rfl (by decide) rfl ?_
    refine V2_callV [] d_P_leaves_26 rfl rfl lk_P_120 mo_Push_dropLast (by decide) rfl rfl rfl (Nat.le_of_ble_eq_true rfl) (Nat.le_of_ble_eq_true rfl) ?_
    have h9 := c2
    have h0 : ¬ F 66 11 = 0 := by
      intro h
      apply h9
      subst ev1
      exact hR.1.1.2.1.1.trans h
    obtain ⟨p, ep, hp6⟩ := PN_pos hR.2.1.2.2.1 h0
    refine c_Push_dropLast (P := p) (hR.1.1.2.1.1.trans ep) (by omega) ?_
    refine V2_aload_n (i := 0) d_P_leaves_29 rfl rfl ?_
    refine V2_getr (a := 1) d_P_leaves_30 fl_P_10 (by decide) rfl (by decide) rfl ?_
    refine V2_getr (a := 3) d_P_leaves_33 fl_P_70 (by decide) rfl (by decide) rfl ?_
    refine V2_callV [] d_P_leaves_36 rfl rfl lk_P_116 mo_Push_size (by decide) rfl rfl rfl (Nat.le_of_ble_eq_true rfl) (Nat.le_of_ble_eq_true rfl) ?_
    refine V2.to (l' := [some (.ref 3)]) ?_ rfl rfl rfl rfl
    refine V2_aload_n (i := 0) d_Push_size_0 rfl rfl ?_
    refine V2_get (v := (nI p)) d_Push_size_1 fl_Push_16 (by decide) rfl (by decide) rfl rfl ?_
    refine V2_topi (fun v3 ev3 => ?_)
    refine V2_ireturn d_Push_size_4 rfl ?_
    refine V2.to (st' := [.int v3]) ?_ rfl rfl rfl rfl
    refine V2_ireturn d_P_leaves_39 rfl ?_
    have e : k_leaves F = (F 66 11 - 1, xrw F 66 (upd (F 66) 11 (F 66 11 - 1))) := if_neg h0
    rw [e] at hQ
    subst ev3 ev1
    exact xQi (hQ _ (mid_W hR (fun k hk => xp_row_ne (by omega)) (relW_people hR.1.1 hR.2.1 (relPw_drop hR ep hp6) (fun k hk => xp_row_ne (by omega)) (fun j hj => upd_ne (by omega))))) (drop_11 ep).symm rfl
  · refine V2_aload_n (i := 0) d_P_leaves_13 rfl rfl ?_
    refine V2_iconst (v := 3) d_P_leaves_14 rfl ?_
    refine V2_callV [.int (3 : Int32)] d_P_leaves_15 rfl rfl lk_P_66 mo_P_fails (by decide) rfl rfl rfl (Nat.le_of_ble_eq_true rfl) (Nat.le_of_ble_eq_true rfl) ?_
    refine c_P_fails3 ?_
    refine V2_topi (fun v4 ev4 => ?_)
    refine V2_ireturn d_P_leaves_18 rfl ?_
    have h9 := c2
    have h0 : F 66 11 = 0 := by
      subst ev4 ev1
      rw [← hR.1.1.2.1.1]
      exact h9
    have e : k_leaves F = (-1000000000 - 3, errF F 3) := if_pos h0
    rw [e] at hQ
    subst ev4 ev1
    exact xQi (hQ _ (mid_err hR (by decide))) rfl rfl
theorem c_mod_leaves {L : Nat} {xs : Nat → Int32} {d : Nat} {Q : Option Value → xF → Prop} {F : xF} {F0 : xF} (hR : Rel F0) (hM : Mid F0 F (k_leaves F0).2) (hQ : ∀ F2, Rel F2 → Q (some (.int (k_leaves F0).1)) F2) : V2 L xs (d + 1) m_R_leaves 0 (xEntry [.ref 65] 1) [] F Q := by
  refine V2.to (l' := [some (.ref 65)]) ?_ rfl rfl rfl rfl
  refine V2_aload_n (i := 0) d_R_leaves_0 rfl rfl ?_
  refine V2_getr (a := 66) d_R_leaves_1 fl_R_7 (by decide) rfl (by decide) rfl ?_
  refine V2_bipush (v := 11) d_R_leaves_4 rfl ?_
  refine V2_iaload (v := F 66 11) d_R_leaves_6 (by decide) rfl (xixA (n := 11) rfl (by decide) (by decide)) rfl ?_
  refine V2_topi (fun v1 ev1 => ?_)
  refine V2_if_ne (tgt := 16) d_R_leaves_7 rfl (fun c2 => ?_) (fun c2 => ?_)
  · refine V2_aload_n (i := 0) d_R_leaves_16 rfl rfl ?_
    refine V2_getr (a := 66) d_R_leaves_17 fl_R_7 (by decide) rfl (by decide) rfl ?_
    refine V2_bipush (v := 11) d_R_leaves_20 rfl ?_
    refine V2_dup2 d_R_leaves_22 rfl rfl ?_
    refine V2_iaload (v := F 66 11) d_R_leaves_23 (by decide) rfl (xixA (n := 11) rfl (by decide) (by decide)) rfl ?_
    refine V2_topi (fun v3 ev3 => ?_)
    refine V2_iconst (v := 1) d_R_leaves_24 rfl ?_
    refine V2_isub d_R_leaves_25 ?_
    refine V2_topi (fun v4 ev4 => ?_)
    refine V2_iastore (j := 11) d_R_leaves_26 (by decide) rfl (xixA (n := 11) rfl (by decide) (by decide)) rfl ?_
    refine V2_aload_n (i := 0) d_R_leaves_27 rfl rfl ?_
    refine V2_getr (a := 66) d_R_leaves_28 fl_R_7 (by decide) rfl (by decide) rfl ?_
    refine V2_bipush (v := 11) d_R_leaves_31 rfl ?_
    refine V2_iaload (v := v4) d_R_leaves_33 (by decide) rfl (xixA (n := 11) rfl (by decide) (by decide)) rfl ?_
    refine V2_ireturn d_R_leaves_34 rfl ?_
    have h9 := c2
    have e66 : F 66 = F0 66 := hM.1 66 (by decide)
    have h0 : ¬ F0 66 11 = 0 := by
      intro h
      apply h9
      subst ev4 ev3 ev1
      rw [e66]
      exact h
    obtain ⟨p, ep, hp6⟩ := PN_pos hR.2.1.2.2.1 h0
    have e : k_leaves F0 = (F0 66 11 - 1, xrw F0 66 (upd (F0 66) 11 (F0 66 11 - 1))) := if_neg h0
    rw [e] at hQ hM
    subst ev4 ev3 ev1
    exact xQi (hQ (xrw F 66 (upd (F0 66) 11 (F0 66 11 - 1))) (rel_W hR hM (invS_people hR.2.1 (invP_drop hR.2.1.2.2.1 ep hp6) (fun j hj => upd_ne (by omega))))) (by rw [e66]) (by rw [xp_row, e66])
  · refine V2_aload_n (i := 0) d_R_leaves_10 rfl rfl ?_
    refine V2_iconst (v := 3) d_R_leaves_11 rfl ?_
    refine V2_callV [.int (3 : Int32)] d_R_leaves_12 rfl rfl lk_R_55 mo_R_error (by decide) rfl rfl rfl (Nat.le_of_ble_eq_true rfl) (Nat.le_of_ble_eq_true rfl) ?_
    refine c_R_error3 ?_
    refine V2_topi (fun v5 ev5 => ?_)
    refine V2_ireturn d_R_leaves_15 rfl ?_
    have h9 := c2
    have e66 : F 66 = F0 66 := hM.1 66 (by decide)
    have h0 : F0 66 11 = 0 := by
      subst ev5 ev1
      rw [← e66]
      exact h9
    have e : k_leaves F0 = (-1000000000 - 3, errF F0 3) := if_pos h0
    rw [e] at hQ hM
    subst ev5 ev1
    exact xQi (hQ _ (rel_err hR hM)) rfl rfl
