/-! now, swing -/
/-- how many people a row holds -/
def PN (S : Nat → Int32) : Nat := (S 11).toNatClampNeg
theorem inv_PN {S : Nat → Int32} (h : invP S) : S 11 = nI (PN S) ∧ PN S ≤ 6 := by
  obtain ⟨P, hP, e, _⟩ := h
  have e2 : PN S = P := by
    unfold PN
    rw [e]
    exact nI_clamp (by omega)
  rw [e2]
  exact ⟨e, hP⟩
theorem rel_relP {F : xF} (h : Rel F) : relP F (F 66) (PN (F 66)) := by
  obtain ⟨e, h6⟩ := inv_PN h.2.1.2.2.1
  obtain ⟨g1, g2, g3⟩ := h.1.1.2.1
  exact ⟨g1.trans e, g2.trans e, h6, g3⟩
theorem xrw_comm {F : xF} {k j : Nat} {r q : Nat → Int32} (h : ¬ k = j) : xrw (xrw F k r) j q = xrw (xrw F j q) k r := by
  funext a b
  unfold xrw
  by_cases h1 : a = j
  · rw [if_pos h1, if_neg (by omega), if_pos h1]
  · rw [if_neg h1, if_neg h1]
noncomputable def k_now (F : xF) (w : Int32) : Int32 × xF := if w = 0 then (gripM (F 66) 63 (PN (F 66)), F) else if w = 1 then (pushSum (F 66) 63 (PN (F 66)), F) else if w = 2 then (rubM (F 66), F) else (-1000000000 - 1, errF F 1)
noncomputable def k_swing (F : xF) (gas : Int32) : Int32 × xF := if 0 ≤ gas ∧ gas ≤ 9 then (if F 66 5 = 1 ∨ 9999 ≤ F 66 7 then (-1000000000 - 3, errF F 3) else (goS (F 66) gas 63 (PN (F 66)) 2, xrw F 66 (goS (F 66) gas 63 (PN (F 66))))) else (-1000000000 - 1, errF F 1)
theorem rel_go {F0 F : xF} {gas : Int32} {S' : Nat → Int32} (h : Rel F0) (hM : Mid F0 F (xrw F0 66 S')) (hS' : S' = goS (F0 66) gas 63 (PN (F0 66))) (hn : ¬ 9999 ≤ F0 66 7) : Rel (xrw F 66 S') := by
  subst hS'
  have e0 : (9999 : Int32).toInt = 9999 := by decide
  have e1 : (1 : Int32).toInt = 1 := by decide
  have h7 := h.2.1.2.1
  rw [Int32.le_iff_toInt_le, e0] at hn
  refine rel_low h hM (go_inv h.2.1.1) ?_ (fun j hj => goM_hi _ _ _ _ (by omega))
  show 0 ≤ (goM _ _ _ _ 7).toInt ∧ (goM _ _ _ _ 7).toInt ≤ 9999
  rw [goM_7, toI_add (by omega) (by omega) (by omega) (by omega)]
  omega
theorem c_cls_now {L : Nat} {xs : Nat → Int32} {d : Nat} {Q : Option Value → xF → Prop} {F : xF} {w : Int32} (hR : Rel F) (hQ : ∀ F1, Mid F F1 (k_now F w).2 → Q (some (.int (k_now F w).1)) F1) : V2 L xs (d + 6) m_P_now 0 (xEntry [.ref 0, .int w] 2) [] F Q := by
  obtain ⟨eP, hP6⟩ := inv_PN hR.2.1.2.2.1
  refine V2.to (l' := [some (.ref 0), some (.int w)]) ?_ rfl rfl rfl rfl
  refine V2_iload_n (i := 1) d_P_now_0 rfl rfl ?_
  by_cases c1_0 : w = 0
  · refine V2_tableIn (tgt := 28) (off := 27) d_P_now_1 (by rw [c1_0]; decide) (by rw [c1_0]; decide) (by rw [c1_0]; decide) rfl ?_
    refine V2_aload_n (i := 0) d_P_now_28 rfl rfl ?_
    refine V2_getr (a := 1) d_P_now_29 fl_P_10 (by decide) rfl (by decide) rfl ?_
    refine V2_aload_n (i := 0) d_P_now_32 rfl rfl ?_
    refine V2_getr (a := 1) d_P_now_33 fl_P_10 (by decide) rfl (by decide) rfl ?_
    refine V2_getr (a := 2) d_P_now_36 fl_P_93 (by decide) rfl (by decide) rfl ?_
    refine V2_bipush (v := 63) d_P_now_39 rfl ?_
    refine V2_callV [.ref 2, .int (63 : Int32)] d_P_now_41 rfl rfl lk_P_217 mo_World_gripOf (by decide) rfl rfl rfl (Nat.le_of_ble_eq_true rfl) (Nat.le_of_ble_eq_true rfl) ?_
    refine c_World_gripOf_2 hR.1.1.1 (rel_relP hR) hR.1.1.2.2.1 hR.2.1.2.2.2.1 (fun q10 => ?_)
    refine V2_topi (fun v2 ev2 => ?_)
    refine V2_ireturn d_P_now_44 rfl ?_
    subst c1_0
    have e : k_now F 0 = (gripM (F 66) 63 (PN (F 66)), F) := by unfold k_now; rw [if_pos rfl]
    rw [e] at hQ
    subst ev2
    exact xQi (hQ _ (mid_10 (mid_same hR))) rfl rfl
  by_cases c1_1 : w = 1
  · refine V2_tableIn (tgt := 45) (off := 44) d_P_now_1 (by rw [c1_1]; decide) (by rw [c1_1]; decide) (by rw [c1_1]; decide) rfl ?_
    refine V2_aload_n (i := 0) d_P_now_45 rfl rfl ?_
    refine V2_getr (a := 1) d_P_now_46 fl_P_10 (by decide) rfl (by decide) rfl ?_
    refine V2_aload_n (i := 0) d_P_now_49 rfl rfl ?_
    refine V2_getr (a := 1) d_P_now_50 fl_P_10 (by decide) rfl (by decide) rfl ?_
    refine V2_getr (a := 2) d_P_now_53 fl_P_93 (by decide) rfl (by decide) rfl ?_
    refine V2_bipush (v := 63) d_P_now_56 rfl ?_
    refine V2_callV [.ref 2, .int (63 : Int32)] d_P_now_58 rfl rfl lk_P_221 mo_World_pushOf (by decide) rfl rfl rfl (Nat.le_of_ble_eq_true rfl) (Nat.le_of_ble_eq_true rfl) ?_
    refine c_World_pushOf_2 hR.1.1.1 (rel_relP hR) ?_
    refine V2_topi (fun v3 ev3 => ?_)
    refine V2_ireturn d_P_now_61 rfl ?_
    subst c1_1
    have e : k_now F 1 = (pushSum (F 66) 63 (PN (F 66)), F) := by unfold k_now; rw [if_neg (by decide), if_pos rfl]
    rw [e] at hQ
    subst ev3
    exact xQi (hQ _ (mid_same hR)) rfl rfl
  by_cases c1_2 : w = 2
  · refine V2_tableIn (tgt := 62) (off := 61) d_P_now_1 (by rw [c1_2]; decide) (by rw [c1_2]; decide) (by rw [c1_2]; decide) rfl ?_
    refine V2_aload_n (i := 0) d_P_now_62 rfl rfl ?_
    refine V2_getr (a := 1) d_P_now_63 fl_P_10 (by decide) rfl (by decide) rfl ?_
    refine V2_aload_n (i := 0) d_P_now_66 rfl rfl ?_
    refine V2_getr (a := 1) d_P_now_67 fl_P_10 (by decide) rfl (by decide) rfl ?_
    refine V2_getr (a := 2) d_P_now_70 fl_P_93 (by decide) rfl (by decide) rfl ?_
    refine V2_callV [.ref 2] d_P_now_73 rfl rfl lk_P_223 mo_World_rubOf (by decide) rfl rfl rfl (Nat.le_of_ble_eq_true rfl) (Nat.le_of_ble_eq_true rfl) ?_
    refine c_World_rubOf_2 hR.1.1.1 hR.1.1.2.2.2.1 hR.2.1.2.2.2.2.1 (fun q13 => ?_)
    refine V2_topi (fun v4 ev4 => ?_)
    refine V2_ireturn d_P_now_76 rfl ?_
    subst c1_2
    have e : k_now F 2 = (rubM (F 66), F) := by unfold k_now; rw [if_neg (by decide), if_neg (by decide), if_pos rfl]
    rw [e] at hQ
    subst ev4
    exact xQi (hQ _ (mid_13 (mid_same hR))) rfl rfl
  refine V2_tableOut (tgt := 77) d_P_now_1 (by have := lv_neT (a := 0) c1_0 rfl; have := lv_neT (a := 1) c1_1 rfl; have := lv_neT (a := 2) c1_2 rfl; omega) rfl ?_
  refine V2_aload_n (i := 0) d_P_now_77 rfl rfl ?_
  refine V2_iconst (v := 1) d_P_now_78 rfl ?_
  refine V2_callV [.int (1 : Int32)] d_P_now_79 rfl rfl lk_P_66 mo_P_fails (by decide) rfl rfl rfl (Nat.le_of_ble_eq_true rfl) (Nat.le_of_ble_eq_true rfl) ?_
  refine c_P_fails1 ?_
  refine V2_topi (fun v5 ev5 => ?_)
  refine V2_ireturn d_P_now_82 rfl ?_
  have e : k_now F w = (-1000000000 - 1, errF F 1) := by unfold k_now; rw [if_neg c1_0, if_neg c1_1, if_neg c1_2]
  rw [e] at hQ
  subst ev5
  exact xQi (hQ _ (mid_err hR (by decide))) rfl rfl
theorem c_mod_now {L : Nat} {xs : Nat → Int32} {d : Nat} {Q : Option Value → xF → Prop} {F : xF} {w : Int32} {F0 : xF} (hR : Rel F0) (hM : Mid F0 F (k_now F0 w).2) (hQ : ∀ F2, Rel F2 → Q (some (.int (k_now F0 w).1)) F2) : V2 L xs (d + 4) m_R_now 0 (xEntry [.ref 65, .int w] 2) [] F Q := by
  obtain ⟨eP, hP6⟩ := inv_PN hR.2.1.2.2.1
  refine V2.to (l' := [some (.ref 65), some (.int w)]) ?_ rfl rfl rfl rfl
  refine V2_iload_n (i := 1) d_R_now_0 rfl rfl ?_
  by_cases c1_0 : w = 0
  · refine V2_tableIn (tgt := 28) (off := 27) d_R_now_1 (by rw [c1_0]; decide) (by rw [c1_0]; decide) (by rw [c1_0]; decide) rfl ?_
    refine V2_aload_n (i := 0) d_R_now_28 rfl rfl ?_
    refine V2_callV [] d_R_now_29 rfl rfl lk_R_139 mo_R_grip (by decide) rfl rfl rfl (Nat.le_of_ble_eq_true rfl) (Nat.le_of_ble_eq_true rfl) ?_
    refine c_R_grip (by rw [hM.1 66 (by decide)]; exact hR.2.1.2.2.2.1) (P := PN (F0 66)) (by rw [hM.1 66 (by decide)]; exact eP) hP6 (fun q71 q72 => ?_)
    refine V2_topi (fun v2 ev2 => ?_)
    refine V2_ireturn d_R_now_32 rfl ?_
    subst c1_0
    have e : k_now F0 0 = (gripM (F0 66) 63 (PN (F0 66)), F0) := by unfold k_now; rw [if_pos rfl]
    rw [e] at hQ hM
    subst ev2
    have e66 : F 66 = F0 66 := hM.1 66 (by decide)
    have e65 : F 65 5 = 63 := (congrFun (hM.1 65 (by decide)) 5).trans hR.2.2.2.1
    refine xQi (hQ _ (rel_xrw (rel_xrw (rel_same hR hM) (k := 71) (q := q71) (by omega)) (k := 72) (q := q72) (by omega))) ?_ rfl
    show gripM (F 66) (F 65 5) (PN (F0 66)) = gripM (F0 66) 63 (PN (F0 66))
    rw [e66, e65]
  by_cases c1_1 : w = 1
  · refine V2_tableIn (tgt := 33) (off := 32) d_R_now_1 (by rw [c1_1]; decide) (by rw [c1_1]; decide) (by rw [c1_1]; decide) rfl ?_
    refine V2_aload_n (i := 0) d_R_now_33 rfl rfl ?_
    refine V2_callV [] d_R_now_34 rfl rfl lk_R_142 mo_R_pushes (by decide) rfl rfl rfl (Nat.le_of_ble_eq_true rfl) (Nat.le_of_ble_eq_true rfl) ?_
    refine c_R_pushes (P := PN (F0 66)) (by rw [hM.1 66 (by decide)]; exact eP) hP6 ?_
    refine V2_topi (fun v3 ev3 => ?_)
    refine V2_ireturn d_R_now_37 rfl ?_
    subst c1_1
    have e : k_now F0 1 = (pushSum (F0 66) 63 (PN (F0 66)), F0) := by unfold k_now; rw [if_neg (by decide), if_pos rfl]
    rw [e] at hQ hM
    subst ev3
    have e66 : F 66 = F0 66 := hM.1 66 (by decide)
    have e65 : F 65 5 = 63 := (congrFun (hM.1 65 (by decide)) 5).trans hR.2.2.2.1
    refine xQi (hQ _ (rel_same hR hM)) ?_ rfl
    show pushSum (F 66) (F 65 5) (PN (F0 66)) = pushSum (F0 66) 63 (PN (F0 66))
    rw [e66, e65]
  by_cases c1_2 : w = 2
  · refine V2_tableIn (tgt := 38) (off := 37) d_R_now_1 (by rw [c1_2]; decide) (by rw [c1_2]; decide) (by rw [c1_2]; decide) rfl ?_
    refine V2_aload_n (i := 0) d_R_now_38 rfl rfl ?_
    refine V2_callV [] d_R_now_39 rfl rfl lk_R_145 mo_R_rub (by decide) rfl rfl rfl (Nat.le_of_ble_eq_true rfl) (Nat.le_of_ble_eq_true rfl) ?_
    refine c_R_rub (by rw [hM.1 66 (by decide)]; exact hR.2.1.2.2.2.2.1) (fun q71 q72 => ?_)
    refine V2_topi (fun v4 ev4 => ?_)
    refine V2_ireturn d_R_now_42 rfl ?_
    subst c1_2
    have e : k_now F0 2 = (rubM (F0 66), F0) := by unfold k_now; rw [if_neg (by decide), if_neg (by decide), if_pos rfl]
    rw [e] at hQ hM
    subst ev4
    have e66 : F 66 = F0 66 := hM.1 66 (by decide)
    have e65 : F 65 5 = 63 := (congrFun (hM.1 65 (by decide)) 5).trans hR.2.2.2.1
    refine xQi (hQ _ (rel_xrw (rel_xrw (rel_same hR hM) (k := 71) (q := q71) (by omega)) (k := 72) (q := q72) (by omega))) ?_ rfl
    show rubM (F 66) = rubM (F0 66)
    rw [e66]
  refine V2_tableOut (tgt := 43) d_R_now_1 (by have := lv_neT (a := 0) c1_0 rfl; have := lv_neT (a := 1) c1_1 rfl; have := lv_neT (a := 2) c1_2 rfl; omega) rfl ?_
  refine V2_aload_n (i := 0) d_R_now_43 rfl rfl ?_
  refine V2_iconst (v := 1) d_R_now_44 rfl ?_
  refine V2_callV [.int (1 : Int32)] d_R_now_45 rfl rfl lk_R_55 mo_R_error (by decide) rfl rfl rfl (Nat.le_of_ble_eq_true rfl) (Nat.le_of_ble_eq_true rfl) ?_
  refine c_R_error1 ?_
  refine V2_topi (fun v5 ev5 => ?_)
  refine V2_ireturn d_R_now_48 rfl ?_
  have e : k_now F0 w = (-1000000000 - 1, errF F0 1) := by unfold k_now; rw [if_neg c1_0, if_neg c1_1, if_neg c1_2]
  rw [e] at hQ hM
  subst ev5
  exact xQi (hQ _ (rel_err hR hM)) rfl rfl
theorem c_cls_swing {L : Nat} {xs : Nat → Int32} {d : Nat} {Q : Option Value → xF → Prop} {F : xF} {gas : Int32} (hR : Rel F) (hQ : ∀ F1, Mid F F1 (k_swing F gas).2 → Q (some (.int (k_swing F gas).1)) F1) : V2 L xs (d + 7) m_P_swing 0 (xEntry [.ref 0, .int gas] 2) [] F Q := by
  have q0 : (0 : Int32).toInt = 0 := by decide
  have q1 : (1 : Int32).toInt = 1 := by decide
  have q2 : (2 : Int32).toInt = 2 := by decide
  have q3 : (3 : Int32).toInt = 3 := by decide
  have q4 : (4 : Int32).toInt = 4 := by decide
  have q5 : (5 : Int32).toInt = 5 := by decide
  have q6 : (6 : Int32).toInt = 6 := by decide
  have q7 : (7 : Int32).toInt = 7 := by decide
  have q9 : (9 : Int32).toInt = 9 := by decide
  have q20 : (20 : Int32).toInt = 20 := by decide
  have q30 : (30 : Int32).toInt = 30 := by decide
  have q60 : (60 : Int32).toInt = 60 := by decide
  have q99 : (99 : Int32).toInt = 99 := by decide
  have q9999 : (9999 : Int32).toInt = 9999 := by decide
  obtain ⟨eP, hP6⟩ := inv_PN hR.2.1.2.2.1
  refine V2.to (l' := [some (.ref 0), some (.int gas)]) ?_ rfl rfl rfl rfl
  refine V2_iload_n (i := 1) d_P_swing_0 rfl rfl ?_
  refine V2_callS [.int gas] d_P_swing_1 rfl rfl lk_P_189 mo_P_isGas (Nat.le_of_ble_eq_true rfl) (Nat.le_of_ble_eq_true rfl) ?_
  refine V2.to (l' := [some (.int gas)]) ?_ rfl rfl rfl rfl
  refine V2_iload_n (i := 0) d_P_isGas_0 rfl rfl ?_
  refine V2_iconst (v := 0) d_P_isGas_1 rfl ?_
  refine V2_bipush (v := 9) d_P_isGas_2 rfl ?_
  refine V2_callS [.int gas, .int (0 : Int32), .int (9 : Int32)] d_P_isGas_4 rfl rfl lk_P_133 mo_P_within (Nat.le_of_ble_eq_true rfl) (Nat.le_of_ble_eq_true rfl) ?_
  refine V2.to (l' := [some (.int gas), some (.int (0 : Int32)), some (.int (9 : Int32))]) ?_ rfl rfl rfl rfl
  refine V2_iload_n (i := 0) d_P_within_0 rfl rfl ?_
  refine V2_iload_n (i := 1) d_P_within_1 rfl rfl ?_
  refine V2_icmp_lt (tgt := 14) d_P_within_2 rfl (fun c1 => ?_) (fun c1 => ?_)
  · refine V2_iconst (v := 0) d_P_within_14 rfl ?_
    refine V2_zreturn d_P_within_15 rfl (by decide) ?_
    refine V2.to (st' := [.int (0 : Int32)]) ?_ rfl rfl rfl rfl
    refine V2_zreturn d_P_isGas_7 rfl (by decide) ?_
    refine V2.to (st' := [.int (0 : Int32)]) ?_ rfl rfl rfl rfl
    refine V2_if_ne (tgt := 13) d_P_swing_4 rfl (fun c => (by first | exact absurd c (by decide) | exact absurd (by decide) c)) (fun _ => ?_)
    refine V2_aload_n (i := 0) d_P_swing_7 rfl rfl ?_
    refine V2_iconst (v := 1) d_P_swing_8 rfl ?_
    refine V2_callV [.int (1 : Int32)] d_P_swing_9 rfl rfl lk_P_66 mo_P_fails (by decide) rfl rfl rfl (Nat.le_of_ble_eq_true rfl) (Nat.le_of_ble_eq_true rfl) ?_
    refine c_P_fails1 ?_
    refine V2_topi (fun v2 ev2 => ?_)
    refine V2_ireturn d_P_swing_12 rfl ?_
    have hb : ¬ (0 ≤ gas ∧ gas ≤ 9) := (by clear hQ; (try (subst ev2)); (try simp only [xb_eq, xb_ne, Int32.lt_iff_toInt_lt, Int32.le_iff_toInt_le] at *); omega)
    have e : k_swing F gas = (-1000000000 - 1, errF F 1) := if_neg hb
    rw [e] at hQ
    subst ev2
    exact xQi (hQ _ (mid_err hR (by decide))) rfl rfl
  · refine V2_iload_n (i := 0) d_P_within_5 rfl rfl ?_
    refine V2_iload_n (i := 2) d_P_within_6 rfl rfl ?_
    refine V2_icmp_gt (tgt := 14) d_P_within_7 rfl (fun c3 => ?_) (fun c3 => ?_)
    · refine V2_iconst (v := 0) d_P_within_14 rfl ?_
      refine V2_zreturn d_P_within_15 rfl (by decide) ?_
      refine V2.to (st' := [.int (0 : Int32)]) ?_ rfl rfl rfl rfl
      refine V2_zreturn d_P_isGas_7 rfl (by decide) ?_
      refine V2.to (st' := [.int (0 : Int32)]) ?_ rfl rfl rfl rfl
      refine V2_if_ne (tgt := 13) d_P_swing_4 rfl (fun c => (by first | exact absurd c (by decide) | exact absurd (by decide) c)) (fun _ => ?_)
      refine V2_aload_n (i := 0) d_P_swing_7 rfl rfl ?_
      refine V2_iconst (v := 1) d_P_swing_8 rfl ?_
      refine V2_callV [.int (1 : Int32)] d_P_swing_9 rfl rfl lk_P_66 mo_P_fails (by decide) rfl rfl rfl (Nat.le_of_ble_eq_true rfl) (Nat.le_of_ble_eq_true rfl) ?_
      refine c_P_fails1 ?_
      refine V2_topi (fun v4 ev4 => ?_)
      refine V2_ireturn d_P_swing_12 rfl ?_
      have hb : ¬ (0 ≤ gas ∧ gas ≤ 9) := (by clear hQ; (try (subst ev4)); (try simp only [xb_eq, xb_ne, Int32.lt_iff_toInt_lt, Int32.le_iff_toInt_le] at *); omega)
      have e : k_swing F gas = (-1000000000 - 1, errF F 1) := if_neg hb
      rw [e] at hQ
      subst ev4
      exact xQi (hQ _ (mid_err hR (by decide))) rfl rfl
    · refine V2_iconst (v := 1) d_P_within_10 rfl ?_
      refine V2_goto (tgt := 15) d_P_within_11 rfl ?_
      refine V2_zreturn d_P_within_15 rfl (by decide) ?_
      refine V2.to (st' := [.int (1 : Int32)]) ?_ rfl rfl rfl rfl
      refine V2_zreturn d_P_isGas_7 rfl (by decide) ?_
      refine V2.to (st' := [.int (1 : Int32)]) ?_ rfl rfl rfl rfl
      refine V2_if_ne (tgt := 13) d_P_swing_4 rfl (fun _ => ?_) (fun c => (by first | exact absurd c (by decide) | exact absurd (by decide) c))
      refine V2_aload_n (i := 0) d_P_swing_13 rfl rfl ?_
      refine V2_callV [] d_P_swing_14 rfl rfl lk_P_192 mo_P_isAtRest (by decide) rfl rfl rfl (Nat.le_of_ble_eq_true rfl) (Nat.le_of_ble_eq_true rfl) ?_
      refine V2.to (l' := [some (.ref 0)]) ?_ rfl rfl rfl rfl
      refine V2_aload_n (i := 0) d_P_isAtRest_0 rfl rfl ?_
      refine V2_getr (a := 1) d_P_isAtRest_1 fl_P_10 (by decide) rfl (by decide) rfl ?_
      refine V2_getr (a := 2) d_P_isAtRest_4 fl_P_93 (by decide) rfl (by decide) rfl ?_
      refine V2_get (v := F 2 7) d_P_isAtRest_7 fl_P_237 (by decide) rfl (by decide) rfl rfl ?_
      refine V2_topi (fun v5 ev5 => ?_)
      refine V2_if_ne (tgt := 29) d_P_isAtRest_10 rfl (fun c6 => ?_) (fun c6 => ?_)
      · refine V2_iconst (v := 1) d_P_isAtRest_29 rfl ?_
        refine V2_goto (tgt := 34) d_P_isAtRest_30 rfl ?_
        refine V2_zreturn d_P_isAtRest_34 rfl (by decide) ?_
        refine V2.to (st' := [.int (1 : Int32)]) ?_ rfl rfl rfl rfl
        refine V2_if_eq (tgt := 26) d_P_swing_17 rfl (fun c => (by first | exact absurd c (by decide) | exact absurd (by decide) c)) (fun _ => ?_)
        refine V2_aload_n (i := 0) d_P_swing_20 rfl rfl ?_
        refine V2_iconst (v := 3) d_P_swing_21 rfl ?_
        refine V2_callV [.int (3 : Int32)] d_P_swing_22 rfl rfl lk_P_66 mo_P_fails (by decide) rfl rfl rfl (Nat.le_of_ble_eq_true rfl) (Nat.le_of_ble_eq_true rfl) ?_
        refine c_P_fails3 ?_
        refine V2_topi (fun v7 ev7 => ?_)
        refine V2_ireturn d_P_swing_25 rfl ?_
        have hb : 0 ≤ gas ∧ gas ≤ 9 := (by clear hQ; (try (subst ev7 ev5)); (try simp only [xb_eq, xb_ne, Int32.lt_iff_toInt_lt, Int32.le_iff_toInt_le] at *); omega)
        have e7 : F 2 7 = F 66 5 := hR.1.1.1.2.2.2.2.2.2.2
        have e5 : F 2 5 = F 66 7 := hR.1.1.1.2.2.2.2.2.1
        have o5 : F 66 5 = 0 ∨ F 66 5 = 1 := hR.2.1.1.2.2.2.2.2.1
        have ho : F 66 5 = 1 ∨ 9999 ≤ F 66 7 := by
          simp only [Int32.le_iff_toInt_le, ← Int32.toInt_inj]
          exact (by clear hQ; (try subst ev7 ev5); (try rw [e7] at *); (try rw [e5] at *); (try rw [e66] at *); (try simp only [xb_eq, xb_ne, Int32.lt_iff_toInt_lt, Int32.le_iff_toInt_le] at *); (try simp only [← Int32.toInt_inj] at *); omega)
        have e : k_swing F gas = (-1000000000 - 3, errF F 3) := (if_pos hb).trans (if_pos ho)
        rw [e] at hQ
        subst ev7 ev5
        exact xQi (hQ _ (mid_err hR (by decide))) rfl rfl
      · refine V2_aload_n (i := 0) d_P_isAtRest_13 rfl rfl ?_
        refine V2_getr (a := 1) d_P_isAtRest_14 fl_P_10 (by decide) rfl (by decide) rfl ?_
        refine V2_getr (a := 2) d_P_isAtRest_17 fl_P_93 (by decide) rfl (by decide) rfl ?_
        refine V2_get (v := F 2 5) d_P_isAtRest_20 fl_P_337 (by decide) rfl (by decide) rfl rfl ?_
        refine V2_topi (fun v8 ev8 => ?_)
        refine V2_sipush (v := 9999) d_P_isAtRest_23 rfl ?_
        refine V2_icmp_lt (tgt := 33) d_P_isAtRest_26 rfl (fun c9 => ?_) (fun c9 => ?_)
        · refine V2_iconst (v := 0) d_P_isAtRest_33 rfl ?_
          refine V2_zreturn d_P_isAtRest_34 rfl (by decide) ?_
          refine V2.to (st' := [.int (0 : Int32)]) ?_ rfl rfl rfl rfl
          refine V2_if_eq (tgt := 26) d_P_swing_17 rfl (fun _ => ?_) (fun c => (by first | exact absurd c (by decide) | exact absurd (by decide) c))
          refine V2_aload_n (i := 0) d_P_swing_26 rfl rfl ?_
          refine V2_getr (a := 1) d_P_swing_27 fl_P_10 (by decide) rfl (by decide) rfl ?_
          refine V2_aload_n (i := 0) d_P_swing_30 rfl rfl ?_
          refine V2_getr (a := 1) d_P_swing_31 fl_P_10 (by decide) rfl (by decide) rfl ?_
          refine V2_getr (a := 2) d_P_swing_34 fl_P_93 (by decide) rfl (by decide) rfl ?_
          refine V2_iload_n (i := 1) d_P_swing_37 rfl rfl ?_
          refine V2_bipush (v := 63) d_P_swing_38 rfl ?_
          refine V2_callV [.ref 2, .int gas, .int (63 : Int32)] d_P_swing_40 rfl rfl lk_P_195 mo_World_drive (by decide) rfl rfl rfl (Nat.le_of_ble_eq_true rfl) (Nat.le_of_ble_eq_true rfl) ?_
          refine c_World_drive_2 (S := F 66) (P := PN (F 66)) hR.1.1.1 (rel_relP hR) hR.1.1.2.2.1 hR.2.1.2.2.2.1 hR.1.1.2.2.2.1 hR.2.1.2.2.2.2.1 hR.2.1.1 (by clear hQ; (try (subst ev8 ev5)); (try simp only [xb_eq, xb_ne, Int32.lt_iff_toInt_lt, Int32.le_iff_toInt_le] at *); omega) (fun q10 q13 row hrow => ?_)
          refine V2_topi (fun v10 ev10 => ?_)
          refine V2_pop d_P_swing_43 rfl ?_
          refine V2_aload_n (i := 0) d_P_swing_44 rfl rfl ?_
          refine V2_getr (a := 1) d_P_swing_45 fl_P_10 (by decide) rfl (by decide) rfl ?_
          refine V2_getr (a := 2) d_P_swing_48 fl_P_93 (by decide) rfl (by decide) rfl ?_
          refine V2_get (v := _) d_P_swing_51 fl_P_199 (by decide) rfl (by decide) rfl rfl ?_
          refine V2_ireturn d_P_swing_54 rfl ?_
          have hb : 0 ≤ gas ∧ gas ≤ 9 := (by clear hQ; (try (subst ev10 ev8 ev5)); (try simp only [xb_eq, xb_ne, Int32.lt_iff_toInt_lt, Int32.le_iff_toInt_le] at *); omega)
          have e7 : F 2 7 = F 66 5 := hR.1.1.1.2.2.2.2.2.2.2
          have e5 : F 2 5 = F 66 7 := hR.1.1.1.2.2.2.2.2.1
          have o5 : F 66 5 = 0 ∨ F 66 5 = 1 := hR.2.1.1.2.2.2.2.2.1
          have ho : ¬ (F 66 5 = 1 ∨ 9999 ≤ F 66 7) := by
            simp only [Int32.le_iff_toInt_le, ← Int32.toInt_inj]
            exact (by clear hQ; (try subst ev10 ev8 ev5); (try rw [e7] at *); (try rw [e5] at *); (try rw [e66] at *); (try simp only [xb_eq, xb_ne, Int32.lt_iff_toInt_lt, Int32.le_iff_toInt_le] at *); (try simp only [← Int32.toInt_inj] at *); omega)
          have e : k_swing F gas = (goS (F 66) gas 63 (PN (F 66)) 2, xrw F 66 (goS (F 66) gas 63 (PN (F 66)))) := (if_pos hb).trans (if_neg ho)
          rw [e] at hQ
          subst ev10 ev8 ev5
          refine xQi (hQ _ (mid_13 (q := q13) (mid_10 (q := q10) (mid_low hR hrow rfl (fun j hj => goM_hi _ _ _ _ (by omega)))))) ?_ ?_
          · exact hrow.2.2.1
          · rw [xrw_comm (show ¬ 13 = 2 by decide), xrw_comm (show ¬ 10 = 2 by decide)]
        · refine V2_iconst (v := 1) d_P_isAtRest_29 rfl ?_
          refine V2_goto (tgt := 34) d_P_isAtRest_30 rfl ?_
          refine V2_zreturn d_P_isAtRest_34 rfl (by decide) ?_
          refine V2.to (st' := [.int (1 : Int32)]) ?_ rfl rfl rfl rfl
          refine V2_if_eq (tgt := 26) d_P_swing_17 rfl (fun c => (by first | exact absurd c (by decide) | exact absurd (by decide) c)) (fun _ => ?_)
          refine V2_aload_n (i := 0) d_P_swing_20 rfl rfl ?_
          refine V2_iconst (v := 3) d_P_swing_21 rfl ?_
          refine V2_callV [.int (3 : Int32)] d_P_swing_22 rfl rfl lk_P_66 mo_P_fails (by decide) rfl rfl rfl (Nat.le_of_ble_eq_true rfl) (Nat.le_of_ble_eq_true rfl) ?_
          refine c_P_fails3 ?_
          refine V2_topi (fun v11 ev11 => ?_)
          refine V2_ireturn d_P_swing_25 rfl ?_
          have hb : 0 ≤ gas ∧ gas ≤ 9 := (by clear hQ; (try (subst ev11 ev8 ev5)); (try simp only [xb_eq, xb_ne, Int32.lt_iff_toInt_lt, Int32.le_iff_toInt_le] at *); omega)
          have e7 : F 2 7 = F 66 5 := hR.1.1.1.2.2.2.2.2.2.2
          have e5 : F 2 5 = F 66 7 := hR.1.1.1.2.2.2.2.2.1
          have o5 : F 66 5 = 0 ∨ F 66 5 = 1 := hR.2.1.1.2.2.2.2.2.1
          have ho : F 66 5 = 1 ∨ 9999 ≤ F 66 7 := by
            simp only [Int32.le_iff_toInt_le, ← Int32.toInt_inj]
            exact (by clear hQ; (try subst ev11 ev8 ev5); (try rw [e7] at *); (try rw [e5] at *); (try rw [e66] at *); (try simp only [xb_eq, xb_ne, Int32.lt_iff_toInt_lt, Int32.le_iff_toInt_le] at *); (try simp only [← Int32.toInt_inj] at *); omega)
          have e : k_swing F gas = (-1000000000 - 3, errF F 3) := (if_pos hb).trans (if_pos ho)
          rw [e] at hQ
          subst ev11 ev8 ev5
          exact xQi (hQ _ (mid_err hR (by decide))) rfl rfl
theorem c_mod_swing {L : Nat} {xs : Nat → Int32} {d : Nat} {Q : Option Value → xF → Prop} {F : xF} {gas : Int32} {F0 : xF} (hR : Rel F0) (hM : Mid F0 F (k_swing F0 gas).2) (hQ : ∀ F2, Rel F2 → Q (some (.int (k_swing F0 gas).1)) F2) : V2 L xs (d + 5) m_R_swing 0 (xEntry [.ref 65, .int gas] 3) [] F Q := by
  have q0 : (0 : Int32).toInt = 0 := by decide
  have q1 : (1 : Int32).toInt = 1 := by decide
  have q2 : (2 : Int32).toInt = 2 := by decide
  have q3 : (3 : Int32).toInt = 3 := by decide
  have q4 : (4 : Int32).toInt = 4 := by decide
  have q5 : (5 : Int32).toInt = 5 := by decide
  have q6 : (6 : Int32).toInt = 6 := by decide
  have q7 : (7 : Int32).toInt = 7 := by decide
  have q9 : (9 : Int32).toInt = 9 := by decide
  have q20 : (20 : Int32).toInt = 20 := by decide
  have q30 : (30 : Int32).toInt = 30 := by decide
  have q60 : (60 : Int32).toInt = 60 := by decide
  have q99 : (99 : Int32).toInt = 99 := by decide
  have q9999 : (9999 : Int32).toInt = 9999 := by decide
  obtain ⟨eP, hP6⟩ := inv_PN hR.2.1.2.2.1
  refine V2.to (l' := [some (.ref 65), some (.int gas), none]) ?_ rfl rfl rfl rfl
  refine V2_iload_n (i := 1) d_R_swing_0 rfl rfl ?_
  refine V2_callS [.int gas] d_R_swing_1 rfl rfl lk_R_181 mo_R_isGas (Nat.le_of_ble_eq_true rfl) (Nat.le_of_ble_eq_true rfl) ?_
  refine V2.to (l' := [some (.int gas)]) ?_ rfl rfl rfl rfl
  refine V2_iload_n (i := 0) d_R_isGas_0 rfl rfl ?_
  refine V2_iconst (v := 0) d_R_isGas_1 rfl ?_
  refine V2_bipush (v := 9) d_R_isGas_2 rfl ?_
  refine V2_callS [.int gas, .int (0 : Int32), .int (9 : Int32)] d_R_isGas_4 rfl rfl lk_R_51 mo_R_in (Nat.le_of_ble_eq_true rfl) (Nat.le_of_ble_eq_true rfl) ?_
  refine c_R_in ?_
  refine V2_topi (fun v1 ev1 => ?_)
  refine V2_zreturn d_R_isGas_7 rfl (by rw [ev1]; exact xb_01) ?_
  refine V2.to (st' := [.int v1]) ?_ rfl rfl rfl rfl
  refine V2_if_ne (tgt := 13) d_R_swing_4 rfl (fun c2 => ?_) (fun c2 => ?_)
  · refine V2_aload_n (i := 0) d_R_swing_13 rfl rfl ?_
    refine V2_callV [] d_R_swing_14 rfl rfl lk_R_184 mo_R_canSwing (by decide) rfl rfl rfl (Nat.le_of_ble_eq_true rfl) (Nat.le_of_ble_eq_true rfl) ?_
    refine V2.to (l' := [some (.ref 65)]) ?_ rfl rfl rfl rfl
    refine V2_aload_n (i := 0) d_R_canSwing_0 rfl rfl ?_
    refine V2_callV [] d_R_canSwing_1 rfl rfl lk_R_152 mo_R_isOut (by decide) rfl rfl rfl (Nat.le_of_ble_eq_true rfl) (Nat.le_of_ble_eq_true rfl) ?_
    refine c_R_isOut ?_
    refine V2_topi (fun v3 ev3 => ?_)
    refine V2_if_ne (tgt := 24) d_R_canSwing_4 rfl (fun c4 => ?_) (fun c4 => ?_)
    · refine V2_iconst (v := 0) d_R_canSwing_24 rfl ?_
      refine V2_zreturn d_R_canSwing_25 rfl (by decide) ?_
      refine V2.to (st' := [.int (0 : Int32)]) ?_ rfl rfl rfl rfl
      refine V2_if_ne (tgt := 26) d_R_swing_17 rfl (fun c => (by first | exact absurd c (by decide) | exact absurd (by decide) c)) (fun _ => ?_)
      refine V2_aload_n (i := 0) d_R_swing_20 rfl rfl ?_
      refine V2_iconst (v := 3) d_R_swing_21 rfl ?_
      refine V2_callV [.int (3 : Int32)] d_R_swing_22 rfl rfl lk_R_55 mo_R_error (by decide) rfl rfl rfl (Nat.le_of_ble_eq_true rfl) (Nat.le_of_ble_eq_true rfl) ?_
      refine c_R_error3 ?_
      refine V2_topi (fun v5 ev5 => ?_)
      refine V2_ireturn d_R_swing_25 rfl ?_
      have hb : 0 ≤ gas ∧ gas ≤ 9 := (by clear hQ; (try (subst ev5 ev3 ev1)); (try simp only [xb_eq, xb_ne, Int32.lt_iff_toInt_lt, Int32.le_iff_toInt_le] at *); omega)
      have e66 : F 66 = F0 66 := hM.1 66 (by decide)
      have ho : F0 66 5 = 1 ∨ 9999 ≤ F0 66 7 := by
        simp only [Int32.le_iff_toInt_le, ← Int32.toInt_inj]
        exact (by clear hQ; (try subst ev5 ev3 ev1); (try rw [e7] at *); (try rw [e5] at *); (try rw [e66] at *); (try simp only [xb_eq, xb_ne, Int32.lt_iff_toInt_lt, Int32.le_iff_toInt_le] at *); (try simp only [← Int32.toInt_inj] at *); omega)
      have e : k_swing F0 gas = (-1000000000 - 3, errF F0 3) := (if_pos hb).trans (if_pos ho)
      rw [e] at hQ hM
      subst ev5 ev3 ev1
      exact xQi (hQ _ (rel_err hR hM)) rfl rfl
    · refine V2_aload_n (i := 0) d_R_canSwing_7 rfl rfl ?_
      refine V2_getr (a := 66) d_R_canSwing_8 fl_R_7 (by decide) rfl (by decide) rfl ?_
      refine V2_bipush (v := 7) d_R_canSwing_11 rfl ?_
      refine V2_iaload (v := F 66 7) d_R_canSwing_13 (by decide) rfl (xixA (n := 7) rfl (by decide) (by decide)) rfl ?_
      refine V2_topi (fun v6 ev6 => ?_)
      refine V2_sipush (v := 9999) d_R_canSwing_14 rfl ?_
      refine V2_icmp_ge (tgt := 24) d_R_canSwing_17 rfl (fun c7 => ?_) (fun c7 => ?_)
      · refine V2_iconst (v := 0) d_R_canSwing_24 rfl ?_
        refine V2_zreturn d_R_canSwing_25 rfl (by decide) ?_
        refine V2.to (st' := [.int (0 : Int32)]) ?_ rfl rfl rfl rfl
        refine V2_if_ne (tgt := 26) d_R_swing_17 rfl (fun c => (by first | exact absurd c (by decide) | exact absurd (by decide) c)) (fun _ => ?_)
        refine V2_aload_n (i := 0) d_R_swing_20 rfl rfl ?_
        refine V2_iconst (v := 3) d_R_swing_21 rfl ?_
        refine V2_callV [.int (3 : Int32)] d_R_swing_22 rfl rfl lk_R_55 mo_R_error (by decide) rfl rfl rfl (Nat.le_of_ble_eq_true rfl) (Nat.le_of_ble_eq_true rfl) ?_
        refine c_R_error3 ?_
        refine V2_topi (fun v8 ev8 => ?_)
        refine V2_ireturn d_R_swing_25 rfl ?_
        have hb : 0 ≤ gas ∧ gas ≤ 9 := (by clear hQ; (try (subst ev8 ev6 ev3 ev1)); (try simp only [xb_eq, xb_ne, Int32.lt_iff_toInt_lt, Int32.le_iff_toInt_le] at *); omega)
        have e66 : F 66 = F0 66 := hM.1 66 (by decide)
        have ho : F0 66 5 = 1 ∨ 9999 ≤ F0 66 7 := by
          simp only [Int32.le_iff_toInt_le, ← Int32.toInt_inj]
          exact (by clear hQ; (try subst ev8 ev6 ev3 ev1); (try rw [e7] at *); (try rw [e5] at *); (try rw [e66] at *); (try simp only [xb_eq, xb_ne, Int32.lt_iff_toInt_lt, Int32.le_iff_toInt_le] at *); (try simp only [← Int32.toInt_inj] at *); omega)
        have e : k_swing F0 gas = (-1000000000 - 3, errF F0 3) := (if_pos hb).trans (if_pos ho)
        rw [e] at hQ hM
        subst ev8 ev6 ev3 ev1
        exact xQi (hQ _ (rel_err hR hM)) rfl rfl
      · refine V2_iconst (v := 1) d_R_canSwing_20 rfl ?_
        refine V2_goto (tgt := 25) d_R_canSwing_21 rfl ?_
        refine V2_zreturn d_R_canSwing_25 rfl (by decide) ?_
        refine V2.to (st' := [.int (1 : Int32)]) ?_ rfl rfl rfl rfl
        refine V2_if_ne (tgt := 26) d_R_swing_17 rfl (fun _ => ?_) (fun c => (by first | exact absurd c (by decide) | exact absurd (by decide) c))
        refine V2_aload_n (i := 0) d_R_swing_26 rfl rfl ?_
        refine V2_iload_n (i := 1) d_R_swing_27 rfl rfl ?_
        refine V2_callV [.int gas] d_R_swing_28 rfl rfl lk_R_155 mo_R_goes (by decide) rfl rfl rfl (Nat.le_of_ble_eq_true rfl) (Nat.le_of_ble_eq_true rfl) ?_
        refine c_R_goes (by rw [hM.1 66 (by decide)]; exact hR.2.1.2.2.2.1) (by rw [hM.1 66 (by decide)]; exact hR.2.1.2.2.2.2.1) (P := PN (F0 66)) (by rw [hM.1 66 (by decide)]; exact eP) hP6 (fun q71 q72 => ?_)
        refine V2_topi (fun v9 ev9 => ?_)
        refine V2_istore_n (i := 2) (l' := [some (.ref 65), some (.int gas), some (.int v9)]) d_R_swing_31 rfl (xst_i (Nat.le_of_ble_eq_true rfl) rfl rfl) ?_
        refine V2_aload_n (i := 0) d_R_swing_32 rfl rfl ?_
        refine V2_getr (a := 66) d_R_swing_33 fl_R_7 (by decide) rfl (by decide) rfl ?_
        refine V2_iconst (v := 2) d_R_swing_36 rfl ?_
        refine V2_iaload (v := _) d_R_swing_37 (by decide) rfl (xixA (n := 2) rfl (by decide) (by decide)) rfl ?_
        refine V2_ireturn d_R_swing_38 rfl ?_
        have hb : 0 ≤ gas ∧ gas ≤ 9 := (by clear hQ; (try (subst ev9 ev6 ev3 ev1)); (try simp only [xb_eq, xb_ne, Int32.lt_iff_toInt_lt, Int32.le_iff_toInt_le] at *); omega)
        have e66 : F 66 = F0 66 := hM.1 66 (by decide)
        have ho : ¬ (F0 66 5 = 1 ∨ 9999 ≤ F0 66 7) := by
          simp only [Int32.le_iff_toInt_le, ← Int32.toInt_inj]
          exact (by clear hQ; (try subst ev9 ev6 ev3 ev1); (try rw [e7] at *); (try rw [e5] at *); (try rw [e66] at *); (try simp only [xb_eq, xb_ne, Int32.lt_iff_toInt_lt, Int32.le_iff_toInt_le] at *); (try simp only [← Int32.toInt_inj] at *); omega)
        have e : k_swing F0 gas = (goS (F0 66) gas 63 (PN (F0 66)) 2, xrw F0 66 (goS (F0 66) gas 63 (PN (F0 66)))) := (if_pos hb).trans (if_neg ho)
        rw [e] at hQ hM
        subst ev9 ev6 ev3 ev1
        have e65 : F 65 5 = 63 := (congrFun (hM.1 65 (by decide)) 5).trans hR.2.2.2.1
        rw [e66, e65]
        refine xQi (hQ _ (rel_xrw (rel_xrw (rel_go hR hM rfl (fun h => ho (Or.inr h))) (k := 71) (q := q71) (by omega)) (k := 72) (q := q72) (by omega))) (congrFun (xrw_same _ 66 _) 2) ?_
        rw [xrw_comm (show ¬ 72 = 66 by decide), xrw_comm (show ¬ 71 = 66 by decide)]
  · refine V2_aload_n (i := 0) d_R_swing_7 rfl rfl ?_
    refine V2_iconst (v := 1) d_R_swing_8 rfl ?_
    refine V2_callV [.int (1 : Int32)] d_R_swing_9 rfl rfl lk_R_55 mo_R_error (by decide) rfl rfl rfl (Nat.le_of_ble_eq_true rfl) (Nat.le_of_ble_eq_true rfl) ?_
    refine c_R_error1 ?_
    refine V2_topi (fun v10 ev10 => ?_)
    refine V2_ireturn d_R_swing_12 rfl ?_
    have hb : ¬ (0 ≤ gas ∧ gas ≤ 9) := (by clear hQ; (try (subst ev10 ev1)); (try simp only [xb_eq, xb_ne, Int32.lt_iff_toInt_lt, Int32.le_iff_toInt_le] at *); omega)
    have e : k_swing F0 gas = (-1000000000 - 1, errF F0 1) := if_neg hb
    rw [e] at hQ hM
    subst ev10 ev1
    exact xQi (hQ _ (rel_err hR hM)) rfl rfl
