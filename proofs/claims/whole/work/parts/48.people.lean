/-! tell, pusher, become, as, pusherIs -/
def k_tell (F : xF) (v : Int32) : Int32 × xF := if (F 66 10).toInt = 24 then (-1000000000 - 4, errF F 4) else (nI (WN (F 66) + 1), xrw F 66 (upd (upd (F 66) (334 + WN (F 66)) v) 10 (nI (WN (F 66) + 1))))
def k_pusher (F : xF) (km : Int32) : Int32 × xF := if 0 ≤ km.toInt ∧ km.toInt ≤ 69 then (if (F 66 11).toInt = 6 then (-1000000000 - 4, errF F 4) else (nI (PN (F 66)), xrw F 66 (upd (upd (upd (F 66) (12 + 2 * PN (F 66)) (km / 10)) (12 + 2 * PN (F 66) + 1) (km % 10)) 11 (nI (PN (F 66) + 1))))) else (-1000000000 - 1, errF F 1)
def k_become (F : xF) (pu km : Int32) : Int32 × xF := if (0 ≤ pu.toInt ∧ pu.toInt < (PN (F 66) : Int)) ∧ 0 ≤ km.toInt ∧ km.toInt ≤ 69 then (F 66 (12 + 2 * pu.toNatClampNeg), xrw F 66 (upd (upd (F 66) (12 + 2 * pu.toNatClampNeg + 1) (km % 10)) (12 + 2 * pu.toNatClampNeg) (km / 10))) else (-1000000000 - 1, errF F 1)
def k_as (F : xF) (pu o : Int32) : Int32 × xF := if (0 ≤ pu.toInt ∧ pu.toInt < (PN (F 66) : Int)) ∧ 0 ≤ o.toInt ∧ o.toInt ≤ 6 then (if o = F 66 (12 + 2 * pu.toNatClampNeg) ∨ o = 0 ∨ (F 66 (12 + 2 * pu.toNatClampNeg) = 4 ∧ o = 1) ∨ (F 66 (12 + 2 * pu.toNatClampNeg) = 5 ∧ o = 2) then (F 66 (12 + 2 * pu.toNatClampNeg + 1), F) else (-1000000000 - 5, errF F 5)) else (-1000000000 - 1, errF F 1)
def k_pusherIs (F : xF) (pu w : Int32) : Int32 × xF := if (0 ≤ pu.toInt ∧ pu.toInt < (PN (F 66) : Int)) ∧ 0 ≤ w.toInt ∧ w.toInt ≤ 3 then ((if w.toInt = 0 then F 66 (12 + 2 * pu.toNatClampNeg) else if w.toInt = 1 then F 66 (12 + 2 * pu.toNatClampNeg + 1) else if w.toInt = 2 then pushS (F 66) pu.toNatClampNeg else weightS (F 66) pu.toNatClampNeg), F) else (-1000000000 - 1, errF F 1)
theorem sub_nI {c : Int32} {n W : Nat} (hc : c = nI n) (hn : n ≤ 1000) (hW : W ≤ 1000) : (c - nI W).toInt = (n : Int) - (W : Int) := by
  have e1 := nI_toInt (n := n) (by omega)
  have e2 := nI_toInt (n := W) (by omega)
  subst hc
  rw [toI_sub (by omega) (by omega) (by omega) (by omega), e1, e2]
theorem push_eq {F : xF} {p : Nat} (h : Rel F) (hp : p < PN (F 66)) : pushK (F 5 p) (F 7 p) (F 2 3) (F 2 2) (F 2 5) = pushS (F 66) p := by
  obtain ⟨g1, g2⟩ := (rel_relP h).2.2.2 p hp
  have c := h.1.1.1
  unfold pushS
  rw [g1, g2, show F 2 3 = F 66 3 from c.2.2.2.1, show F 2 2 = F 66 2 from c.2.2.1, show F 2 5 = F 66 7 from c.2.2.2.2.2.1]
theorem weight_eq {F : xF} {p : Nat} (h : Rel F) (hp : p < PN (F 66)) : (if F 5 p = 6 then F 7 p else 0) = weightS (F 66) p := by
  obtain ⟨g1, g2⟩ := (rel_relP h).2.2.2 p hp
  unfold weightS
  rw [g1, g2]
theorem kind_range {S : Nat → Int32} {p : Nat} (h : invP S) (hp : p < PN S) : (0 ≤ (S (12 + 2 * p)).toInt ∧ (S (12 + 2 * p)).toInt ≤ 6) ∧ 0 ≤ (S (12 + 2 * p + 1)).toInt ∧ (S (12 + 2 * p + 1)).toInt ≤ 9 := by
  obtain ⟨P, hP, e, h9⟩ := h
  have e2 : PN S = P := by
    unfold PN
    rw [e]
    exact nI_clamp (by omega)
  exact h9 p (by omega)
theorem kind7 {k : Int32} (h : 0 ≤ k.toInt ∧ k.toInt ≤ 6) : k = 0 ∨ k = 1 ∨ k = 2 ∨ k = 3 ∨ k = 4 ∨ k = 5 ∨ k = 6 := by
  have q0 : (0 : Int32).toInt = 0 := by decide
  have q1 : (1 : Int32).toInt = 1 := by decide
  have q2 : (2 : Int32).toInt = 2 := by decide
  have q3 : (3 : Int32).toInt = 3 := by decide
  have q4 : (4 : Int32).toInt = 4 := by decide
  have q5 : (5 : Int32).toInt = 5 := by decide
  have q6 : (6 : Int32).toInt = 6 := by decide
  simp only [← Int32.toInt_inj]
  omega
theorem c_cls_tell {L : Nat} {xs : Nat → Int32} {d : Nat} {Q : Option Value → xF → Prop} {F : xF} {v : Int32} (hR : Rel F) (hQ : ∀ F1, Mid F F1 (k_tell F v).2 → Q (some (.int (k_tell F v).1)) F1) : V2 L xs (d + 1) m_P_tell 0 (xEntry [.ref 0, .int v] 2) [] F Q := by
  have q0 : (0 : Int32).toInt = 0 := by decide
  have q1 : (1 : Int32).toInt = 1 := by decide
  have q2 : (2 : Int32).toInt = 2 := by decide
  have q3 : (3 : Int32).toInt = 3 := by decide
  have q4 : (4 : Int32).toInt = 4 := by decide
  have q5 : (5 : Int32).toInt = 5 := by decide
  have q6 : (6 : Int32).toInt = 6 := by decide
  have q7 : (7 : Int32).toInt = 7 := by decide
  have q8 : (8 : Int32).toInt = 8 := by decide
  have q9 : (9 : Int32).toInt = 9 := by decide
  have q10 : (10 : Int32).toInt = 10 := by decide
  have q12 : (12 : Int32).toInt = 12 := by decide
  have q16 : (16 : Int32).toInt = 16 := by decide
  have q20 : (20 : Int32).toInt = 20 := by decide
  have q24 : (24 : Int32).toInt = 24 := by decide
  have q30 : (30 : Int32).toInt = 30 := by decide
  have q32 : (32 : Int32).toInt = 32 := by decide
  have q40 : (40 : Int32).toInt = 40 := by decide
  have q60 : (60 : Int32).toInt = 60 := by decide
  have q69 : (69 : Int32).toInt = 69 := by decide
  have q99 : (99 : Int32).toInt = 99 := by decide
  have q9999 : (9999 : Int32).toInt = 9999 := by decide
  have q274 : (274 : Int32).toInt = 274 := by decide
  have q334 : (334 : Int32).toInt = 334 := by decide
  obtain ⟨eW, hW⟩ := inv_WN hR.2.1.2.2.2.2.2.2
  have nW : (F 66 10).toInt = (WN (F 66) : Int) := WN_int hR.2.1.2.2.2.2.2.2
  have e16 : F 16 1 = F 66 10 := hR.1.1.2.2.2.2.2.1.1
  have s16 : ((24 : Int32) - F 16 1).toInt = (24 : Int) - (WN (F 66) : Int) := by
    rw [e16, eW]
    exact sub_nI (n := 24) rfl (by omega) (by omega)
  refine V2.to (l' := [some (.ref 0), some (.int v)]) ?_ rfl rfl rfl rfl
  refine V2_aload_n (i := 0) d_P_tell_0 rfl rfl ?_
  refine V2_getr (a := 1) d_P_tell_1 fl_P_10 (by decide) rfl (by decide) rfl ?_
  refine V2_getr (a := 16) d_P_tell_4 fl_P_340 (by decide) rfl (by decide) rfl ?_
  refine V2_iconst (v := 1) d_P_tell_7 rfl ?_
  refine V2_callV [.int (1 : Int32)] d_P_tell_8 rfl rfl lk_P_148 mo_Nums_hasRoom (by decide) rfl rfl rfl (Nat.le_of_ble_eq_true rfl) (Nat.le_of_ble_eq_true rfl) ?_
  refine c_Nums_hasRoom_16 ?_
  refine V2_topi (fun v1 ev1 => ?_)
  refine V2_if_ne (tgt := 20) d_P_tell_11 rfl (fun c2 => ?_) (fun c2 => ?_)
  · refine V2_aload_n (i := 0) d_P_tell_20 rfl rfl ?_
    refine V2_getr (a := 1) d_P_tell_21 fl_P_10 (by decide) rfl (by decide) rfl ?_
    refine V2_getr (a := 16) d_P_tell_24 fl_P_340 (by decide) rfl (by decide) rfl ?_
    refine V2_iload_n (i := 1) d_P_tell_27 rfl rfl ?_
    refine V2_callV [.int v] d_P_tell_28 rfl rfl lk_P_154 mo_Nums_add (by decide) rfl rfl rfl (Nat.le_of_ble_eq_true rfl) (Nat.le_of_ble_eq_true rfl) ?_
    have hlt : WN (F 66) < 24 := (by (try clear hQ); (try subst ev1); ((try simp only [xb_eq, xb_ne, Int32.lt_iff_toInt_lt, Int32.le_iff_toInt_le] at *) <;> (try simp only [← Int32.toInt_inj, true_and, false_and, or_false, false_or, or_true, true_or, and_true, and_false] at *) <;> omega))
    refine c_Nums_add_16 (P := WN (F 66)) (e16.trans eW) hlt ?_
    refine V2_aload_n (i := 0) d_P_tell_31 rfl rfl ?_
    refine V2_getr (a := 1) d_P_tell_32 fl_P_10 (by decide) rfl (by decide) rfl ?_
    refine V2_getr (a := 16) d_P_tell_35 fl_P_340 (by decide) rfl (by decide) rfl ?_
    refine V2_callV [] d_P_tell_38 rfl rfl lk_P_157 mo_Nums_size (by decide) rfl rfl rfl (Nat.le_of_ble_eq_true rfl) (Nat.le_of_ble_eq_true rfl) ?_
    refine V2.to (l' := [some (.ref 16)]) ?_ rfl rfl rfl rfl
    refine V2_aload_n (i := 0) d_Nums_size_0 rfl rfl ?_
    refine V2_get (v := (nI (WN (F 66) + 1))) d_Nums_size_1 fl_Nums_7 (by decide) rfl (by decide) rfl rfl ?_
    refine V2_topi (fun v3 ev3 => ?_)
    refine V2_ireturn d_Nums_size_4 rfl ?_
    refine V2.to (st' := [.int v3]) ?_ rfl rfl rfl rfl
    refine V2_ireturn d_P_tell_41 rfl ?_
    have hb0 : ¬ ((F 66 10).toInt = 24) := (by (try clear hQ); (try subst ev3 ev1); ((try simp only [xb_eq, xb_ne, Int32.lt_iff_toInt_lt, Int32.le_iff_toInt_le] at *) <;> (try simp only [← Int32.toInt_inj, true_and, false_and, or_false, false_or, or_true, true_or, and_true, and_false] at *) <;> omega))
    have e : k_tell F v = (nI (WN (F 66) + 1), xrw F 66 (upd (upd (F 66) (334 + WN (F 66)) v) 10 (nI (WN (F 66) + 1)))) := if_neg hb0
    rw [e] at hQ
    subst ev3 ev1
    exact xQi (hQ _ (mid_W hR (fun k hk => (xp_row_ne (by omega)).trans (xp_row_ne (by omega))) (relW_wait hR.1.1 hR.2.1 (relWait_add hR.1.1.2.2.2.2.2.1 eW hlt) (fun k a b => (xp_row_ne a).trans (xp_row_ne b)) (fun j a b => (upd_ne a).trans (upd_ne (by omega)))))) rfl rfl
  · refine V2_aload_n (i := 0) d_P_tell_14 rfl rfl ?_
    refine V2_iconst (v := 4) d_P_tell_15 rfl ?_
    refine V2_callV [.int (4 : Int32)] d_P_tell_16 rfl rfl lk_P_66 mo_P_fails (by decide) rfl rfl rfl (Nat.le_of_ble_eq_true rfl) (Nat.le_of_ble_eq_true rfl) ?_
    refine c_P_fails4 ?_
    refine V2_topi (fun v4 ev4 => ?_)
    refine V2_ireturn d_P_tell_19 rfl ?_
    have hb0 : (F 66 10).toInt = 24 := (by (try clear hQ); (try subst ev4 ev1); ((try simp only [xb_eq, xb_ne, Int32.lt_iff_toInt_lt, Int32.le_iff_toInt_le] at *) <;> (try simp only [← Int32.toInt_inj, true_and, false_and, or_false, false_or, or_true, true_or, and_true, and_false] at *) <;> omega))
    have e : k_tell F v = (-1000000000 - 4, errF F 4) := if_pos hb0
    rw [e] at hQ
    subst ev4 ev1
    exact xQi (hQ _ (mid_err hR (by decide))) rfl rfl
theorem c_mod_tell {L : Nat} {xs : Nat → Int32} {d : Nat} {Q : Option Value → xF → Prop} {F : xF} {v : Int32} {F0 : xF} (hR : Rel F0) (hM : Mid F0 F (k_tell F0 v).2) (hQ : ∀ F2, Rel F2 → Q (some (.int (k_tell F0 v).1)) F2) : V2 L xs (d + 1) m_R_tell 0 (xEntry [.ref 65, .int v] 2) [] F Q := by
  have q0 : (0 : Int32).toInt = 0 := by decide
  have q1 : (1 : Int32).toInt = 1 := by decide
  have q2 : (2 : Int32).toInt = 2 := by decide
  have q3 : (3 : Int32).toInt = 3 := by decide
  have q4 : (4 : Int32).toInt = 4 := by decide
  have q5 : (5 : Int32).toInt = 5 := by decide
  have q6 : (6 : Int32).toInt = 6 := by decide
  have q7 : (7 : Int32).toInt = 7 := by decide
  have q8 : (8 : Int32).toInt = 8 := by decide
  have q9 : (9 : Int32).toInt = 9 := by decide
  have q10 : (10 : Int32).toInt = 10 := by decide
  have q12 : (12 : Int32).toInt = 12 := by decide
  have q16 : (16 : Int32).toInt = 16 := by decide
  have q20 : (20 : Int32).toInt = 20 := by decide
  have q24 : (24 : Int32).toInt = 24 := by decide
  have q30 : (30 : Int32).toInt = 30 := by decide
  have q32 : (32 : Int32).toInt = 32 := by decide
  have q40 : (40 : Int32).toInt = 40 := by decide
  have q60 : (60 : Int32).toInt = 60 := by decide
  have q69 : (69 : Int32).toInt = 69 := by decide
  have q99 : (99 : Int32).toInt = 99 := by decide
  have q9999 : (9999 : Int32).toInt = 9999 := by decide
  have q274 : (274 : Int32).toInt = 274 := by decide
  have q334 : (334 : Int32).toInt = 334 := by decide
  obtain ⟨eW, hW⟩ := inv_WN hR.2.1.2.2.2.2.2.2
  have nW : (F0 66 10).toInt = (WN (F0 66) : Int) := WN_int hR.2.1.2.2.2.2.2.2
  have e66 : F 66 = F0 66 := hM.1 66 (by decide)
  have e66b : F 66 10 = F0 66 10 := congrFun e66 10
  refine V2.to (l' := [some (.ref 65), some (.int v)]) ?_ rfl rfl rfl rfl
  refine V2_aload_n (i := 0) d_R_tell_0 rfl rfl ?_
  refine V2_getr (a := 66) d_R_tell_1 fl_R_7 (by decide) rfl (by decide) rfl ?_
  refine V2_bipush (v := 10) d_R_tell_4 rfl ?_
  refine V2_iaload (v := F 66 10) d_R_tell_6 (by decide) rfl (xixA (n := 10) rfl (by decide) (by decide)) rfl ?_
  refine V2_topi (fun v1 ev1 => ?_)
  refine V2_bipush (v := 24) d_R_tell_7 rfl ?_
  refine V2_icmp_ne (tgt := 18) d_R_tell_9 rfl (fun c2 => ?_) (fun c2 => ?_)
  · have hlt : WN (F0 66) < 24 := (by (try clear hQ); (try subst ev1); ((try simp only [xb_eq, xb_ne, Int32.lt_iff_toInt_lt, Int32.le_iff_toInt_le] at *) <;> (try simp only [← Int32.toInt_inj, true_and, false_and, or_false, false_or, or_true, true_or, and_true, and_false] at *) <;> omega))
    refine V2_aload_n (i := 0) d_R_tell_18 rfl rfl ?_
    refine V2_getr (a := 66) d_R_tell_19 fl_R_7 (by decide) rfl (by decide) rfl ?_
    refine V2_sipush (v := 334) d_R_tell_22 rfl ?_
    refine V2_aload_n (i := 0) d_R_tell_25 rfl rfl ?_
    refine V2_getr (a := 66) d_R_tell_26 fl_R_7 (by decide) rfl (by decide) rfl ?_
    refine V2_bipush (v := 10) d_R_tell_29 rfl ?_
    refine V2_iaload (v := F 66 10) d_R_tell_31 (by decide) rfl (xixA (n := 10) rfl (by decide) (by decide)) rfl ?_
    refine V2_topi (fun v3 ev3 => ?_)
    refine V2_iadd d_R_tell_32 ?_
    refine V2_topi (fun v4 ev4 => ?_)
    refine V2_iload_n (i := 1) d_R_tell_33 rfl rfl ?_
    refine V2_iastore (j := (334 + WN (F0 66))) d_R_tell_34 (by decide) rfl (xixA (n := 334 + WN (F0 66)) (by subst ev4 ev3 ev1; rw [e66, eW]; simp only [nI, Int32.ofNat_add]; rfl) (by omega) (by decide)) (xixB (n := 334 + WN (F0 66)) (by subst ev4 ev3 ev1; rw [e66, eW]; simp only [nI, Int32.ofNat_add]; rfl) (by omega)) ?_
    refine V2_aload_n (i := 0) d_R_tell_35 rfl rfl ?_
    refine V2_getr (a := 66) d_R_tell_36 fl_R_7 (by decide) rfl (by decide) rfl ?_
    refine V2_bipush (v := 10) d_R_tell_39 rfl ?_
    refine V2_dup2 d_R_tell_41 rfl rfl ?_
    refine V2_ialoadJ 10 d_R_tell_42 (by decide) rfl (xixA (n := 10) rfl (by decide) (by decide)) rfl rfl ?_
    refine V2_iconst (v := 1) d_R_tell_43 rfl ?_
    refine V2_iadd d_R_tell_44 ?_
    refine V2_topi (fun v5 ev5 => ?_)
    refine V2_iastore (j := 10) d_R_tell_45 (by decide) rfl (xixA (n := 10) rfl (by decide) (by decide)) rfl ?_
    refine V2_aload_n (i := 0) d_R_tell_46 rfl rfl ?_
    refine V2_getr (a := 66) d_R_tell_47 fl_R_7 (by decide) rfl (by decide) rfl ?_
    refine V2_bipush (v := 10) d_R_tell_50 rfl ?_
    refine V2_iaload (v := v5) d_R_tell_52 (by decide) rfl (xixA (n := 10) rfl (by decide) (by decide)) rfl ?_
    refine V2_ireturn d_R_tell_53 rfl ?_
    have hb0 : ¬ ((F0 66 10).toInt = 24) := (by (try clear hQ); (try subst ev5 ev4 ev3 ev1); ((try simp only [xb_eq, xb_ne, Int32.lt_iff_toInt_lt, Int32.le_iff_toInt_le] at *) <;> (try simp only [← Int32.toInt_inj, true_and, false_and, or_false, false_or, or_true, true_or, and_true, and_false] at *) <;> omega))
    have e : k_tell F0 v = (nI (WN (F0 66) + 1), xrw F0 66 (upd (upd (F0 66) (334 + WN (F0 66)) v) 10 (nI (WN (F0 66) + 1)))) := if_neg hb0
    rw [e] at hQ hM
    have e9 : v5 = nI (WN (F0 66) + 1) := by
      subst ev5 ev4 ev3 ev1
      rw [xp_ne (Or.inr (by omega)), e66, eW, nI_1]
    refine xQi (hQ (xrw F 66 (upd (upd (F0 66) (334 + WN (F0 66)) v) 10 (nI (WN (F0 66) + 1)))) (rel_W hR hM (invS_wait hR.2.1 (invWait_add hlt) (fun j a b => (upd_ne a).trans (upd_ne (by omega)))))) e9 ?_
    rw [e9, xp_row F, xp_xrw, e66]
  · refine V2_aload_n (i := 0) d_R_tell_12 rfl rfl ?_
    refine V2_iconst (v := 4) d_R_tell_13 rfl ?_
    refine V2_callV [.int (4 : Int32)] d_R_tell_14 rfl rfl lk_R_55 mo_R_error (by decide) rfl rfl rfl (Nat.le_of_ble_eq_true rfl) (Nat.le_of_ble_eq_true rfl) ?_
    refine c_R_error4 ?_
    refine V2_topi (fun v6 ev6 => ?_)
    refine V2_ireturn d_R_tell_17 rfl ?_
    have hb0 : (F0 66 10).toInt = 24 := (by (try clear hQ); (try subst ev6 ev1); ((try simp only [xb_eq, xb_ne, Int32.lt_iff_toInt_lt, Int32.le_iff_toInt_le] at *) <;> (try simp only [← Int32.toInt_inj, true_and, false_and, or_false, false_or, or_true, true_or, and_true, and_false] at *) <;> omega))
    have e : k_tell F0 v = (-1000000000 - 4, errF F0 4) := if_pos hb0
    rw [e] at hQ hM
    subst ev6 ev1
    exact xQi (hQ _ (rel_err hR hM)) rfl rfl
theorem c_cls_pusher {L : Nat} {xs : Nat → Int32} {d : Nat} {Q : Option Value → xF → Prop} {F : xF} {km : Int32} (hR : Rel F) (hQ : ∀ F1, Mid F F1 (k_pusher F km).2 → Q (some (.int (k_pusher F km).1)) F1) : V2 L xs (d + 3) m_P_pusher 0 (xEntry [.ref 0, .int km] 2) [] F Q := by
  have q0 : (0 : Int32).toInt = 0 := by decide
  have q1 : (1 : Int32).toInt = 1 := by decide
  have q2 : (2 : Int32).toInt = 2 := by decide
  have q3 : (3 : Int32).toInt = 3 := by decide
  have q4 : (4 : Int32).toInt = 4 := by decide
  have q5 : (5 : Int32).toInt = 5 := by decide
  have q6 : (6 : Int32).toInt = 6 := by decide
  have q7 : (7 : Int32).toInt = 7 := by decide
  have q8 : (8 : Int32).toInt = 8 := by decide
  have q9 : (9 : Int32).toInt = 9 := by decide
  have q10 : (10 : Int32).toInt = 10 := by decide
  have q12 : (12 : Int32).toInt = 12 := by decide
  have q16 : (16 : Int32).toInt = 16 := by decide
  have q20 : (20 : Int32).toInt = 20 := by decide
  have q24 : (24 : Int32).toInt = 24 := by decide
  have q30 : (30 : Int32).toInt = 30 := by decide
  have q32 : (32 : Int32).toInt = 32 := by decide
  have q40 : (40 : Int32).toInt = 40 := by decide
  have q60 : (60 : Int32).toInt = 60 := by decide
  have q69 : (69 : Int32).toInt = 69 := by decide
  have q99 : (99 : Int32).toInt = 99 := by decide
  have q9999 : (9999 : Int32).toInt = 9999 := by decide
  have q274 : (274 : Int32).toInt = 274 := by decide
  have q334 : (334 : Int32).toInt = 334 := by decide
  obtain ⟨eP, hP6⟩ := inv_PN hR.2.1.2.2.1
  have nP : (F 66 11).toInt = (PN (F 66) : Int) := PN_int hR.2.1.2.2.1
  have d10 : 0 ≤ km.toInt → (km / 10).toInt = km.toInt / 10 := div10
  have m10 : 0 ≤ km.toInt → (km % 10).toInt = km.toInt % 10 := mod10
  have e4 : F 3 2 = F 66 11 := hR.1.1.2.1.1
  have n4 : (F 3 2).toInt = (PN (F 66) : Int) := by
    rw [e4]
    exact nP
  refine V2.to (l' := [some (.ref 0), some (.int km)]) ?_ rfl rfl rfl rfl
  refine V2_iload_n (i := 1) d_P_pusher_0 rfl rfl ?_
  refine V2_callS [.int km] d_P_pusher_1 rfl rfl lk_P_62 mo_P_isKindAndLevel (Nat.le_of_ble_eq_true rfl) (Nat.le_of_ble_eq_true rfl) ?_
  refine V2.to (l' := [some (.int km)]) ?_ rfl rfl rfl rfl
  refine V2_iload_n (i := 0) d_P_isKindAndLevel_0 rfl rfl ?_
  refine V2_if_lt (tgt := 18) d_P_isKindAndLevel_1 rfl (fun c1 => ?_) (fun c1 => ?_)
  · refine V2_iconst (v := 0) d_P_isKindAndLevel_18 rfl ?_
    refine V2_zreturn d_P_isKindAndLevel_19 rfl (by decide) ?_
    refine V2.to (st' := [.int (0 : Int32)]) ?_ rfl rfl rfl rfl
    refine V2_if_ne (tgt := 13) d_P_pusher_4 rfl (fun c => (by first | exact absurd c (by decide) | exact absurd (by decide) c)) (fun _ => ?_)
    refine V2_aload_n (i := 0) d_P_pusher_7 rfl rfl ?_
    refine V2_iconst (v := 1) d_P_pusher_8 rfl ?_
    refine V2_callV [.int (1 : Int32)] d_P_pusher_9 rfl rfl lk_P_66 mo_P_fails (by decide) rfl rfl rfl (Nat.le_of_ble_eq_true rfl) (Nat.le_of_ble_eq_true rfl) ?_
    refine c_P_fails1 ?_
    refine V2_topi (fun v2 ev2 => ?_)
    refine V2_ireturn d_P_pusher_12 rfl ?_
    have hb0 : ¬ (0 ≤ km.toInt ∧ km.toInt ≤ 69) := (by (try clear hQ); (try subst ev2); ((try simp only [xb_eq, xb_ne, Int32.lt_iff_toInt_lt, Int32.le_iff_toInt_le] at *) <;> (try simp only [← Int32.toInt_inj, true_and, false_and, or_false, false_or, or_true, true_or, and_true, and_false] at *) <;> omega))
    have e : k_pusher F km = (-1000000000 - 1, errF F 1) := if_neg hb0
    rw [e] at hQ
    subst ev2
    exact xQi (hQ _ (mid_err hR (by decide))) rfl rfl
  · refine V2_iload_n (i := 0) d_P_isKindAndLevel_4 rfl rfl ?_
    refine V2_bipush (v := 10) d_P_isKindAndLevel_5 rfl ?_
    refine V2_idiv d_P_isKindAndLevel_7 (by decide) ?_
    refine V2_topi (fun v3 ev3 => ?_)
    refine V2_callS [.int v3] d_P_isKindAndLevel_8 rfl rfl lk_P_107 mo_Kinds_isKind (Nat.le_of_ble_eq_true rfl) (Nat.le_of_ble_eq_true rfl) ?_
    refine V2.to (l' := [some (.int v3)]) ?_ rfl rfl rfl rfl
    refine V2_iload_n (i := 0) d_Kinds_isKind_0 rfl rfl ?_
    refine V2_if_lt (tgt := 16) d_Kinds_isKind_1 rfl (fun c4 => ?_) (fun c4 => ?_)
    · refine V2_iconst (v := 0) d_Kinds_isKind_16 rfl ?_
      refine V2_zreturn d_Kinds_isKind_17 rfl (by decide) ?_
      refine V2.to (st' := [.int (0 : Int32)]) ?_ rfl rfl rfl rfl
      refine V2_if_eq (tgt := 18) d_P_isKindAndLevel_11 rfl (fun _ => ?_) (fun c => (by first | exact absurd c (by decide) | exact absurd (by decide) c))
      refine V2_iconst (v := 0) d_P_isKindAndLevel_18 rfl ?_
      refine V2_zreturn d_P_isKindAndLevel_19 rfl (by decide) ?_
      refine V2.to (st' := [.int (0 : Int32)]) ?_ rfl rfl rfl rfl
      refine V2_if_ne (tgt := 13) d_P_pusher_4 rfl (fun c => (by first | exact absurd c (by decide) | exact absurd (by decide) c)) (fun _ => ?_)
      refine V2_aload_n (i := 0) d_P_pusher_7 rfl rfl ?_
      refine V2_iconst (v := 1) d_P_pusher_8 rfl ?_
      refine V2_callV [.int (1 : Int32)] d_P_pusher_9 rfl rfl lk_P_66 mo_P_fails (by decide) rfl rfl rfl (Nat.le_of_ble_eq_true rfl) (Nat.le_of_ble_eq_true rfl) ?_
      refine c_P_fails1 ?_
      refine V2_topi (fun v5 ev5 => ?_)
      refine V2_ireturn d_P_pusher_12 rfl ?_
      have hb0 : ¬ (0 ≤ km.toInt ∧ km.toInt ≤ 69) := (by (try clear hQ); (try subst ev5 ev3); ((try simp only [xb_eq, xb_ne, Int32.lt_iff_toInt_lt, Int32.le_iff_toInt_le] at *) <;> (try simp only [← Int32.toInt_inj, true_and, false_and, or_false, false_or, or_true, true_or, and_true, and_false] at *) <;> omega))
      have e : k_pusher F km = (-1000000000 - 1, errF F 1) := if_neg hb0
      rw [e] at hQ
      subst ev5 ev3
      exact xQi (hQ _ (mid_err hR (by decide))) rfl rfl
    · refine V2_iload_n (i := 0) d_Kinds_isKind_4 rfl rfl ?_
      refine V2_getsA d_Kinds_isKind_5 gs_Kinds_7 ?_
      refine V2_abovelen d_Kinds_isKind_8 ?_
      refine V2_icmp_ge (tgt := 16) d_Kinds_isKind_9 rfl (fun c6 => ?_) (fun c6 => ?_)
      · refine V2_iconst (v := 0) d_Kinds_isKind_16 rfl ?_
        refine V2_zreturn d_Kinds_isKind_17 rfl (by decide) ?_
        refine V2.to (st' := [.int (0 : Int32)]) ?_ rfl rfl rfl rfl
        refine V2_if_eq (tgt := 18) d_P_isKindAndLevel_11 rfl (fun _ => ?_) (fun c => (by first | exact absurd c (by decide) | exact absurd (by decide) c))
        refine V2_iconst (v := 0) d_P_isKindAndLevel_18 rfl ?_
        refine V2_zreturn d_P_isKindAndLevel_19 rfl (by decide) ?_
        refine V2.to (st' := [.int (0 : Int32)]) ?_ rfl rfl rfl rfl
        refine V2_if_ne (tgt := 13) d_P_pusher_4 rfl (fun c => (by first | exact absurd c (by decide) | exact absurd (by decide) c)) (fun _ => ?_)
        refine V2_aload_n (i := 0) d_P_pusher_7 rfl rfl ?_
        refine V2_iconst (v := 1) d_P_pusher_8 rfl ?_
        refine V2_callV [.int (1 : Int32)] d_P_pusher_9 rfl rfl lk_P_66 mo_P_fails (by decide) rfl rfl rfl (Nat.le_of_ble_eq_true rfl) (Nat.le_of_ble_eq_true rfl) ?_
        refine c_P_fails1 ?_
        refine V2_topi (fun v7 ev7 => ?_)
        refine V2_ireturn d_P_pusher_12 rfl ?_
        have hb0 : ¬ (0 ≤ km.toInt ∧ km.toInt ≤ 69) := (by (try clear hQ); (try subst ev7 ev3); ((try simp only [xb_eq, xb_ne, Int32.lt_iff_toInt_lt, Int32.le_iff_toInt_le] at *) <;> (try simp only [← Int32.toInt_inj, true_and, false_and, or_false, false_or, or_true, true_or, and_true, and_false] at *) <;> omega))
        have e : k_pusher F km = (-1000000000 - 1, errF F 1) := if_neg hb0
        rw [e] at hQ
        subst ev7 ev3
        exact xQi (hQ _ (mid_err hR (by decide))) rfl rfl
      · refine V2_iconst (v := 1) d_Kinds_isKind_12 rfl ?_
        refine V2_goto (tgt := 17) d_Kinds_isKind_13 rfl ?_
        refine V2_zreturn d_Kinds_isKind_17 rfl (by decide) ?_
        refine V2.to (st' := [.int (1 : Int32)]) ?_ rfl rfl rfl rfl
        refine V2_if_eq (tgt := 18) d_P_isKindAndLevel_11 rfl (fun c => (by first | exact absurd c (by decide) | exact absurd (by decide) c)) (fun _ => ?_)
        refine V2_iconst (v := 1) d_P_isKindAndLevel_14 rfl ?_
        refine V2_goto (tgt := 19) d_P_isKindAndLevel_15 rfl ?_
        refine V2_zreturn d_P_isKindAndLevel_19 rfl (by decide) ?_
        refine V2.to (st' := [.int (1 : Int32)]) ?_ rfl rfl rfl rfl
        refine V2_if_ne (tgt := 13) d_P_pusher_4 rfl (fun _ => ?_) (fun c => (by first | exact absurd c (by decide) | exact absurd (by decide) c))
        refine V2_aload_n (i := 0) d_P_pusher_13 rfl rfl ?_
        refine V2_getr (a := 1) d_P_pusher_14 fl_P_10 (by decide) rfl (by decide) rfl ?_
        refine V2_getr (a := 3) d_P_pusher_17 fl_P_70 (by decide) rfl (by decide) rfl ?_
        refine V2_callV [] d_P_pusher_20 rfl rfl lk_P_74 mo_Push_hasRoom (by decide) rfl rfl rfl (Nat.le_of_ble_eq_true rfl) (Nat.le_of_ble_eq_true rfl) ?_
        refine V2.to (l' := [some (.ref 3)]) ?_ rfl rfl rfl rfl
        refine V2_aload_n (i := 0) d_Push_hasRoom_0 rfl rfl ?_
        refine V2_get (v := F 3 2) d_Push_hasRoom_1 fl_Push_16 (by decide) rfl (by decide) rfl rfl ?_
        refine V2_topi (fun v8 ev8 => ?_)
        refine V2_bipush (v := 6) d_Push_hasRoom_4 rfl ?_
        refine V2_icmp_ge (tgt := 13) d_Push_hasRoom_6 rfl (fun c9 => ?_) (fun c9 => ?_)
        · refine V2_iconst (v := 0) d_Push_hasRoom_13 rfl ?_
          refine V2_zreturn d_Push_hasRoom_14 rfl (by decide) ?_
          refine V2.to (st' := [.int (0 : Int32)]) ?_ rfl rfl rfl rfl
          refine V2_if_ne (tgt := 32) d_P_pusher_23 rfl (fun c => (by first | exact absurd c (by decide) | exact absurd (by decide) c)) (fun _ => ?_)
          refine V2_aload_n (i := 0) d_P_pusher_26 rfl rfl ?_
          refine V2_iconst (v := 4) d_P_pusher_27 rfl ?_
          refine V2_callV [.int (4 : Int32)] d_P_pusher_28 rfl rfl lk_P_66 mo_P_fails (by decide) rfl rfl rfl (Nat.le_of_ble_eq_true rfl) (Nat.le_of_ble_eq_true rfl) ?_
          refine c_P_fails4 ?_
          refine V2_topi (fun v10 ev10 => ?_)
          refine V2_ireturn d_P_pusher_31 rfl ?_
          have hb0 : 0 ≤ km.toInt ∧ km.toInt ≤ 69 := (by (try clear hQ); (try subst ev10 ev8 ev3); ((try simp only [xb_eq, xb_ne, Int32.lt_iff_toInt_lt, Int32.le_iff_toInt_le] at *) <;> (try simp only [← Int32.toInt_inj, true_and, false_and, or_false, false_or, or_true, true_or, and_true, and_false] at *) <;> omega))
          have hb1 : (F 66 11).toInt = 6 := (by (try clear hQ); (try subst ev10 ev8 ev3); ((try simp only [xb_eq, xb_ne, Int32.lt_iff_toInt_lt, Int32.le_iff_toInt_le] at *) <;> (try simp only [← Int32.toInt_inj, true_and, false_and, or_false, false_or, or_true, true_or, and_true, and_false] at *) <;> omega))
          have e : k_pusher F km = (-1000000000 - 4, errF F 4) := (if_pos hb0).trans (if_pos hb1)
          rw [e] at hQ
          subst ev10 ev8 ev3
          exact xQi (hQ _ (mid_err hR (by decide))) rfl rfl
        · refine V2_iconst (v := 1) d_Push_hasRoom_9 rfl ?_
          refine V2_goto (tgt := 14) d_Push_hasRoom_10 rfl ?_
          refine V2_zreturn d_Push_hasRoom_14 rfl (by decide) ?_
          refine V2.to (st' := [.int (1 : Int32)]) ?_ rfl rfl rfl rfl
          refine V2_if_ne (tgt := 32) d_P_pusher_23 rfl (fun _ => ?_) (fun c => (by first | exact absurd c (by decide) | exact absurd (by decide) c))
          refine V2_aload_n (i := 0) d_P_pusher_32 rfl rfl ?_
          refine V2_getr (a := 1) d_P_pusher_33 fl_P_10 (by decide) rfl (by decide) rfl ?_
          refine V2_getr (a := 3) d_P_pusher_36 fl_P_70 (by decide) rfl (by decide) rfl ?_
          refine V2_iload_n (i := 1) d_P_pusher_39 rfl rfl ?_
          refine V2_bipush (v := 10) d_P_pusher_40 rfl ?_
          refine V2_idiv d_P_pusher_42 (by decide) ?_
          refine V2_topi (fun v11 ev11 => ?_)
          refine V2_iload_n (i := 1) d_P_pusher_43 rfl rfl ?_
          refine V2_bipush (v := 10) d_P_pusher_44 rfl ?_
          refine V2_iremM d_P_pusher_46 (by decide) ?_
          refine V2_topi (fun v12 ev12 => ?_)
          refine V2_callV [.int v11, .int v12] d_P_pusher_47 rfl rfl lk_P_80 mo_Push_comes (by decide) rfl rfl rfl (Nat.le_of_ble_eq_true rfl) (Nat.le_of_ble_eq_true rfl) ?_
          have hlt : PN (F 66) < 6 := (by (try clear hQ); (try subst ev12 ev11 ev8 ev3); ((try simp only [xb_eq, xb_ne, Int32.lt_iff_toInt_lt, Int32.le_iff_toInt_le] at *) <;> (try simp only [← Int32.toInt_inj, true_and, false_and, or_false, false_or, or_true, true_or, and_true, and_false] at *) <;> omega))
          refine c_Push_comes (P := PN (F 66)) (hR.1.1.2.1.1.trans eP) hlt ?_
          refine V2_ireturn d_P_pusher_50 rfl ?_
          have hb0 : 0 ≤ km.toInt ∧ km.toInt ≤ 69 := (by (try clear hQ); (try subst ev12 ev11 ev8 ev3); ((try simp only [xb_eq, xb_ne, Int32.lt_iff_toInt_lt, Int32.le_iff_toInt_le] at *) <;> (try simp only [← Int32.toInt_inj, true_and, false_and, or_false, false_or, or_true, true_or, and_true, and_false] at *) <;> omega))
          have hb1 : ¬ ((F 66 11).toInt = 6) := (by (try clear hQ); (try subst ev12 ev11 ev8 ev3); ((try simp only [xb_eq, xb_ne, Int32.lt_iff_toInt_lt, Int32.le_iff_toInt_le] at *) <;> (try simp only [← Int32.toInt_inj, true_and, false_and, or_false, false_or, or_true, true_or, and_true, and_false] at *) <;> omega))
          have e : k_pusher F km = (nI (PN (F 66)), xrw F 66 (upd (upd (upd (F 66) (12 + 2 * PN (F 66)) (km / 10)) (12 + 2 * PN (F 66) + 1) (km % 10)) 11 (nI (PN (F 66) + 1)))) := (if_pos hb0).trans (if_neg hb1)
          rw [e] at hQ
          subst ev12 ev11 ev8 ev3
          exact xQi (hQ _ (mid_W hR (fun k hk => (xp_row_ne (by omega)).trans ((xp_row_ne (by omega)).trans (xp_row_ne (by omega)))) (relW_people hR.1.1 hR.2.1 (relPw_add hR.1.1.2.1 eP hlt) (fun k hk => (xp_row_ne (by omega)).trans ((xp_row_ne (by omega)).trans (xp_row_ne (by omega)))) (fun j hj => (upd_ne (by omega)).trans ((upd_ne (by omega)).trans (upd_ne (by omega))))))) rfl rfl
theorem c_mod_pusher {L : Nat} {xs : Nat → Int32} {d : Nat} {Q : Option Value → xF → Prop} {F : xF} {km : Int32} {F0 : xF} (hR : Rel F0) (hM : Mid F0 F (k_pusher F0 km).2) (hQ : ∀ F2, Rel F2 → Q (some (.int (k_pusher F0 km).1)) F2) : V2 L xs (d + 2) m_R_pusher 0 (xEntry [.ref 65, .int km] 3) [] F Q := by
  have q0 : (0 : Int32).toInt = 0 := by decide
  have q1 : (1 : Int32).toInt = 1 := by decide
  have q2 : (2 : Int32).toInt = 2 := by decide
  have q3 : (3 : Int32).toInt = 3 := by decide
  have q4 : (4 : Int32).toInt = 4 := by decide
  have q5 : (5 : Int32).toInt = 5 := by decide
  have q6 : (6 : Int32).toInt = 6 := by decide
  have q7 : (7 : Int32).toInt = 7 := by decide
  have q8 : (8 : Int32).toInt = 8 := by decide
  have q9 : (9 : Int32).toInt = 9 := by decide
  have q10 : (10 : Int32).toInt = 10 := by decide
  have q12 : (12 : Int32).toInt = 12 := by decide
  have q16 : (16 : Int32).toInt = 16 := by decide
  have q20 : (20 : Int32).toInt = 20 := by decide
  have q24 : (24 : Int32).toInt = 24 := by decide
  have q30 : (30 : Int32).toInt = 30 := by decide
  have q32 : (32 : Int32).toInt = 32 := by decide
  have q40 : (40 : Int32).toInt = 40 := by decide
  have q60 : (60 : Int32).toInt = 60 := by decide
  have q69 : (69 : Int32).toInt = 69 := by decide
  have q99 : (99 : Int32).toInt = 99 := by decide
  have q9999 : (9999 : Int32).toInt = 9999 := by decide
  have q274 : (274 : Int32).toInt = 274 := by decide
  have q334 : (334 : Int32).toInt = 334 := by decide
  obtain ⟨eP, hP6⟩ := inv_PN hR.2.1.2.2.1
  have nP : (F0 66 11).toInt = (PN (F0 66) : Int) := PN_int hR.2.1.2.2.1
  have d10 : 0 ≤ km.toInt → (km / 10).toInt = km.toInt / 10 := div10
  have m10 : 0 ≤ km.toInt → (km % 10).toInt = km.toInt % 10 := mod10
  have e66 : F 66 = F0 66 := hM.1 66 (by decide)
  have e66b : F 66 11 = F0 66 11 := congrFun e66 11
  refine V2.to (l' := [some (.ref 65), some (.int km), none]) ?_ rfl rfl rfl rfl
  refine V2_iload_n (i := 1) d_R_pusher_0 rfl rfl ?_
  refine V2_callS [.int km] d_R_pusher_1 rfl rfl lk_R_161 mo_R_isKind (Nat.le_of_ble_eq_true rfl) (Nat.le_of_ble_eq_true rfl) ?_
  refine c_R_isKind ?_
  refine V2_topi (fun v1 ev1 => ?_)
  refine V2_if_ne (tgt := 13) d_R_pusher_4 rfl (fun c2 => ?_) (fun c2 => ?_)
  · refine V2_aload_n (i := 0) d_R_pusher_13 rfl rfl ?_
    refine V2_getr (a := 66) d_R_pusher_14 fl_R_7 (by decide) rfl (by decide) rfl ?_
    refine V2_bipush (v := 11) d_R_pusher_17 rfl ?_
    refine V2_iaload (v := F 66 11) d_R_pusher_19 (by decide) rfl (xixA (n := 11) rfl (by decide) (by decide)) rfl ?_
    refine V2_topi (fun v3 ev3 => ?_)
    refine V2_bipush (v := 6) d_R_pusher_20 rfl ?_
    refine V2_icmp_ne (tgt := 31) d_R_pusher_22 rfl (fun c4 => ?_) (fun c4 => ?_)
    · refine V2_aload_n (i := 0) d_R_pusher_31 rfl rfl ?_
      refine V2_getr (a := 66) d_R_pusher_32 fl_R_7 (by decide) rfl (by decide) rfl ?_
      refine V2_bipush (v := 11) d_R_pusher_35 rfl ?_
      refine V2_iaload (v := F 66 11) d_R_pusher_37 (by decide) rfl (xixA (n := 11) rfl (by decide) (by decide)) rfl ?_
      refine V2_topi (fun v5 ev5 => ?_)
      have hlt : PN (F0 66) < 6 := (by (try clear hQ); (try subst ev5 ev3 ev1); ((try simp only [xb_eq, xb_ne, Int32.lt_iff_toInt_lt, Int32.le_iff_toInt_le] at *) <;> (try simp only [← Int32.toInt_inj, true_and, false_and, or_false, false_or, or_true, true_or, and_true, and_false] at *) <;> omega))
      have ep : v5 = nI (PN (F0 66)) := by
        subst ev5 ev3 ev1
        rw [e66, eP]
      rw [ep]
      refine V2_istore_n (i := 2) (l' := [some (.ref 65), some (.int km), some (.int (nI (PN (F0 66))))]) d_R_pusher_38 rfl (xst_i (Nat.le_of_ble_eq_true rfl) rfl rfl) ?_
      refine V2_aload_n (i := 0) d_R_pusher_39 rfl rfl ?_
      refine V2_iload_n (i := 2) d_R_pusher_40 rfl rfl ?_
      refine V2_iconst (v := 0) d_R_pusher_41 rfl ?_
      refine V2_iload_n (i := 1) d_R_pusher_42 rfl rfl ?_
      refine V2_bipush (v := 10) d_R_pusher_43 rfl ?_
      refine V2_idiv d_R_pusher_45 (by decide) ?_
      refine V2_topi (fun v6 ev6 => ?_)
      refine V2_callV [.int (nI (PN (F0 66))), .int (0 : Int32), .int v6] d_R_pusher_46 rfl rfl lk_R_164 mo_R_lays1 (by decide) rfl rfl rfl (Nat.le_of_ble_eq_true rfl) (Nat.le_of_ble_eq_true rfl) ?_
      refine c_R_lays0 hlt ?_
      refine V2_aload_n (i := 0) d_R_pusher_49 rfl rfl ?_
      refine V2_iload_n (i := 2) d_R_pusher_50 rfl rfl ?_
      refine V2_iconst (v := 1) d_R_pusher_51 rfl ?_
      refine V2_iload_n (i := 1) d_R_pusher_52 rfl rfl ?_
      refine V2_bipush (v := 10) d_R_pusher_53 rfl ?_
      refine V2_iremM d_R_pusher_55 (by decide) ?_
      refine V2_topi (fun v7 ev7 => ?_)
      refine V2_callV [.int (nI (PN (F0 66))), .int (1 : Int32), .int v7] d_R_pusher_56 rfl rfl lk_R_164 mo_R_lays1 (by decide) rfl rfl rfl (Nat.le_of_ble_eq_true rfl) (Nat.le_of_ble_eq_true rfl) ?_
      refine c_R_lays1 hlt ?_
      refine V2_aload_n (i := 0) d_R_pusher_59 rfl rfl ?_
      refine V2_getr (a := 66) d_R_pusher_60 fl_R_7 (by decide) rfl (by decide) rfl ?_
      refine V2_bipush (v := 11) d_R_pusher_63 rfl ?_
      refine V2_dup2 d_R_pusher_65 rfl rfl ?_
      refine V2_ialoadJ 11 d_R_pusher_66 (by decide) rfl (xixA (n := 11) rfl (by decide) (by decide)) rfl rfl ?_
      refine V2_iconst (v := 1) d_R_pusher_67 rfl ?_
      refine V2_iadd d_R_pusher_68 ?_
      refine V2_topi (fun v8 ev8 => ?_)
      refine V2_iastore (j := 11) d_R_pusher_69 (by decide) rfl (xixA (n := 11) rfl (by decide) (by decide)) rfl ?_
      refine V2_iload_n (i := 2) d_R_pusher_70 rfl rfl ?_
      refine V2_ireturn d_R_pusher_71 rfl ?_
      have hb0 : 0 ≤ km.toInt ∧ km.toInt ≤ 69 := (by (try clear hQ); (try subst ev8 ev7 ev6 ev5 ev3 ev1); ((try simp only [xb_eq, xb_ne, Int32.lt_iff_toInt_lt, Int32.le_iff_toInt_le] at *) <;> (try simp only [← Int32.toInt_inj, true_and, false_and, or_false, false_or, or_true, true_or, and_true, and_false] at *) <;> omega))
      have hb1 : ¬ ((F0 66 11).toInt = 6) := (by (try clear hQ); (try subst ev8 ev7 ev6 ev5 ev3 ev1); ((try simp only [xb_eq, xb_ne, Int32.lt_iff_toInt_lt, Int32.le_iff_toInt_le] at *) <;> (try simp only [← Int32.toInt_inj, true_and, false_and, or_false, false_or, or_true, true_or, and_true, and_false] at *) <;> omega))
      have e : k_pusher F0 km = (nI (PN (F0 66)), xrw F0 66 (upd (upd (upd (F0 66) (12 + 2 * PN (F0 66)) (km / 10)) (12 + 2 * PN (F0 66) + 1) (km % 10)) 11 (nI (PN (F0 66) + 1)))) := (if_pos hb0).trans (if_neg hb1)
      rw [e] at hQ hM
      have hka : 0 ≤ (km / 10).toInt ∧ (km / 10).toInt ≤ 6 := by
        have := d10 hb0.1
        omega
      have hkb : 0 ≤ (km % 10).toInt ∧ (km % 10).toInt ≤ 9 := by
        have := m10 hb0.1
        omega
      have e9 : v8 = nI (PN (F0 66) + 1) := by
        subst ev8 ev7 ev6 ev5 ev3 ev1
        rw [xp_ne (Or.inr (by omega)), xp_ne (Or.inr (by omega)), e66, eP, nI_1]
      refine xQi (hQ (xrw F 66 (upd (upd (upd (F0 66) (12 + 2 * PN (F0 66)) (km / 10)) (12 + 2 * PN (F0 66) + 1) (km % 10)) 11 (nI (PN (F0 66) + 1)))) (rel_W hR hM (invS_people hR.2.1 (invP_add hR.2.1.2.2.1 eP hlt hka hkb) (fun j hj => (upd_ne (by omega)).trans ((upd_ne (by omega)).trans (upd_ne (by omega))))))) ?_ ?_
      · rfl
      · rw [e9]
        subst ev8 ev7 ev6 ev5 ev3 ev1
        rw [xp_row F, xp_xrw, xp_xrw, e66]
    · refine V2_aload_n (i := 0) d_R_pusher_25 rfl rfl ?_
      refine V2_iconst (v := 4) d_R_pusher_26 rfl ?_
      refine V2_callV [.int (4 : Int32)] d_R_pusher_27 rfl rfl lk_R_55 mo_R_error (by decide) rfl rfl rfl (Nat.le_of_ble_eq_true rfl) (Nat.le_of_ble_eq_true rfl) ?_
      refine c_R_error4 ?_
      refine V2_topi (fun v9 ev9 => ?_)
      refine V2_ireturn d_R_pusher_30 rfl ?_
      have hb0 : 0 ≤ km.toInt ∧ km.toInt ≤ 69 := (by (try clear hQ); (try subst ev9 ev3 ev1); ((try simp only [xb_eq, xb_ne, Int32.lt_iff_toInt_lt, Int32.le_iff_toInt_le] at *) <;> (try simp only [← Int32.toInt_inj, true_and, false_and, or_false, false_or, or_true, true_or, and_true, and_false] at *) <;> omega))
      have hb1 : (F0 66 11).toInt = 6 := (by (try clear hQ); (try subst ev9 ev3 ev1); ((try simp only [xb_eq, xb_ne, Int32.lt_iff_toInt_lt, Int32.le_iff_toInt_le] at *) <;> (try simp only [← Int32.toInt_inj, true_and, false_and, or_false, false_or, or_true, true_or, and_true, and_false] at *) <;> omega))
      have e : k_pusher F0 km = (-1000000000 - 4, errF F0 4) := (if_pos hb0).trans (if_pos hb1)
      rw [e] at hQ hM
      subst ev9 ev3 ev1
      exact xQi (hQ _ (rel_err hR hM)) rfl rfl
  · refine V2_aload_n (i := 0) d_R_pusher_7 rfl rfl ?_
    refine V2_iconst (v := 1) d_R_pusher_8 rfl ?_
    refine V2_callV [.int (1 : Int32)] d_R_pusher_9 rfl rfl lk_R_55 mo_R_error (by decide) rfl rfl rfl (Nat.le_of_ble_eq_true rfl) (Nat.le_of_ble_eq_true rfl) ?_
    refine c_R_error1 ?_
    refine V2_topi (fun v10 ev10 => ?_)
    refine V2_ireturn d_R_pusher_12 rfl ?_
    have hb0 : ¬ (0 ≤ km.toInt ∧ km.toInt ≤ 69) := (by (try clear hQ); (try subst ev10 ev1); ((try simp only [xb_eq, xb_ne, Int32.lt_iff_toInt_lt, Int32.le_iff_toInt_le] at *) <;> (try simp only [← Int32.toInt_inj, true_and, false_and, or_false, false_or, or_true, true_or, and_true, and_false] at *) <;> omega))
    have e : k_pusher F0 km = (-1000000000 - 1, errF F0 1) := if_neg hb0
    rw [e] at hQ hM
    subst ev10 ev1
    exact xQi (hQ _ (rel_err hR hM)) rfl rfl
theorem c_cls_become {L : Nat} {xs : Nat → Int32} {d : Nat} {Q : Option Value → xF → Prop} {F : xF} {pu km : Int32} (hR : Rel F) (hQ : ∀ F1, Mid F F1 (k_become F pu km).2 → Q (some (.int (k_become F pu km).1)) F1) : V2 L xs (d + 3) m_P_become 0 (xEntry [.ref 0, .int pu, .int km] 4) [] F Q := by
  have q0 : (0 : Int32).toInt = 0 := by decide
  have q1 : (1 : Int32).toInt = 1 := by decide
  have q2 : (2 : Int32).toInt = 2 := by decide
  have q3 : (3 : Int32).toInt = 3 := by decide
  have q4 : (4 : Int32).toInt = 4 := by decide
  have q5 : (5 : Int32).toInt = 5 := by decide
  have q6 : (6 : Int32).toInt = 6 := by decide
  have q7 : (7 : Int32).toInt = 7 := by decide
  have q8 : (8 : Int32).toInt = 8 := by decide
  have q9 : (9 : Int32).toInt = 9 := by decide
  have q10 : (10 : Int32).toInt = 10 := by decide
  have q12 : (12 : Int32).toInt = 12 := by decide
  have q16 : (16 : Int32).toInt = 16 := by decide
  have q20 : (20 : Int32).toInt = 20 := by decide
  have q24 : (24 : Int32).toInt = 24 := by decide
  have q30 : (30 : Int32).toInt = 30 := by decide
  have q32 : (32 : Int32).toInt = 32 := by decide
  have q40 : (40 : Int32).toInt = 40 := by decide
  have q60 : (60 : Int32).toInt = 60 := by decide
  have q69 : (69 : Int32).toInt = 69 := by decide
  have q99 : (99 : Int32).toInt = 99 := by decide
  have q9999 : (9999 : Int32).toInt = 9999 := by decide
  have q274 : (274 : Int32).toInt = 274 := by decide
  have q334 : (334 : Int32).toInt = 334 := by decide
  obtain ⟨eP, hP6⟩ := inv_PN hR.2.1.2.2.1
  have nP : (F 66 11).toInt = (PN (F 66) : Int) := PN_int hR.2.1.2.2.1
  have d10 : 0 ≤ km.toInt → (km / 10).toInt = km.toInt / 10 := div10
  have m10 : 0 ≤ km.toInt → (km % 10).toInt = km.toInt % 10 := mod10
  have e4 : F 3 2 = F 66 11 := hR.1.1.2.1.1
  refine V2.to (l' := [some (.ref 0), some (.int pu), some (.int km), none]) ?_ rfl rfl rfl rfl
  refine V2_aload_n (i := 0) d_P_become_0 rfl rfl ?_
  refine V2_getr (a := 1) d_P_become_1 fl_P_10 (by decide) rfl (by decide) rfl ?_
  refine V2_getr (a := 3) d_P_become_4 fl_P_70 (by decide) rfl (by decide) rfl ?_
  refine V2_iload_n (i := 1) d_P_become_7 rfl rfl ?_
  refine V2_callV [.int pu] d_P_become_8 rfl rfl lk_P_84 mo_Push_has (by decide) rfl rfl rfl (Nat.le_of_ble_eq_true rfl) (Nat.le_of_ble_eq_true rfl) ?_
  refine c_Push_has (P := PN (F 66)) (hR.1.1.2.1.1.trans eP) hP6 ?_
  refine V2_topi (fun v1 ev1 => ?_)
  refine V2_if_eq (tgt := 21) d_P_become_11 rfl (fun c2 => ?_) (fun c2 => ?_)
  · refine V2_aload_n (i := 0) d_P_become_21 rfl rfl ?_
    refine V2_iconst (v := 1) d_P_become_22 rfl ?_
    refine V2_callV [.int (1 : Int32)] d_P_become_23 rfl rfl lk_P_66 mo_P_fails (by decide) rfl rfl rfl (Nat.le_of_ble_eq_true rfl) (Nat.le_of_ble_eq_true rfl) ?_
    refine c_P_fails1 ?_
    refine V2_topi (fun v3 ev3 => ?_)
    refine V2_ireturn d_P_become_26 rfl ?_
    have hb0 : ¬ ((0 ≤ pu.toInt ∧ pu.toInt < (PN (F 66) : Int)) ∧ 0 ≤ km.toInt ∧ km.toInt ≤ 69) := (by (try clear hQ); (try subst ev3 ev1); ((try simp only [xb_eq, xb_ne, Int32.lt_iff_toInt_lt, Int32.le_iff_toInt_le] at *) <;> (try simp only [← Int32.toInt_inj, true_and, false_and, or_false, false_or, or_true, true_or, and_true, and_false] at *) <;> omega))
    have e : k_become F pu km = (-1000000000 - 1, errF F 1) := if_neg hb0
    rw [e] at hQ
    subst ev3 ev1
    exact xQi (hQ _ (mid_err hR (by decide))) rfl rfl
  · obtain ⟨p, hp, epp⟩ := in_of (x := pu) (P := PN (F 66)) (by (try clear hQ); (try subst ev1); ((try simp only [xb_eq, xb_ne, Int32.lt_iff_toInt_lt, Int32.le_iff_toInt_le] at *) <;> (try simp only [← Int32.toInt_inj, true_and, false_and, or_false, false_or, or_true, true_or, and_true, and_false] at *) <;> omega)) (by (try clear hQ); (try subst ev1); ((try simp only [xb_eq, xb_ne, Int32.lt_iff_toInt_lt, Int32.le_iff_toInt_le] at *) <;> (try simp only [← Int32.toInt_inj, true_and, false_and, or_false, false_or, or_true, true_or, and_true, and_false] at *) <;> omega)) (by omega)
    subst epp
    have np : (nI p).toInt = (p : Int) := nI_toInt (by omega)
    have kp : (nI p).toNatClampNeg = p := nI_clamp (by omega)
    refine V2_iload_n (i := 2) d_P_become_14 rfl rfl ?_
    refine V2_callS [.int km] d_P_become_15 rfl rfl lk_P_62 mo_P_isKindAndLevel (Nat.le_of_ble_eq_true rfl) (Nat.le_of_ble_eq_true rfl) ?_
    refine V2.to (l' := [some (.int km)]) ?_ rfl rfl rfl rfl
    refine V2_iload_n (i := 0) d_P_isKindAndLevel_0 rfl rfl ?_
    refine V2_if_lt (tgt := 18) d_P_isKindAndLevel_1 rfl (fun c4 => ?_) (fun c4 => ?_)
    · refine V2_iconst (v := 0) d_P_isKindAndLevel_18 rfl ?_
      refine V2_zreturn d_P_isKindAndLevel_19 rfl (by decide) ?_
      refine V2.to (st' := [.int (0 : Int32)]) ?_ rfl rfl rfl rfl
      refine V2_if_ne (tgt := 27) d_P_become_18 rfl (fun c => (by first | exact absurd c (by decide) | exact absurd (by decide) c)) (fun _ => ?_)
      refine V2_aload_n (i := 0) d_P_become_21 rfl rfl ?_
      refine V2_iconst (v := 1) d_P_become_22 rfl ?_
      refine V2_callV [.int (1 : Int32)] d_P_become_23 rfl rfl lk_P_66 mo_P_fails (by decide) rfl rfl rfl (Nat.le_of_ble_eq_true rfl) (Nat.le_of_ble_eq_true rfl) ?_
      refine c_P_fails1 ?_
      refine V2_topi (fun v5 ev5 => ?_)
      refine V2_ireturn d_P_become_26 rfl ?_
      have hb0 : ¬ ((0 ≤ (nI p).toInt ∧ (nI p).toInt < (PN (F 66) : Int)) ∧ 0 ≤ km.toInt ∧ km.toInt ≤ 69) := (by (try clear hQ); (try subst ev5 ev1); ((try simp only [xb_eq, xb_ne, Int32.lt_iff_toInt_lt, Int32.le_iff_toInt_le] at *) <;> (try simp only [← Int32.toInt_inj, true_and, false_and, or_false, false_or, or_true, true_or, and_true, and_false] at *) <;> omega))
      have e : k_become F (nI p) km = (-1000000000 - 1, errF F 1) := if_neg hb0
      rw [e] at hQ
      subst ev5 ev1
      exact xQi (hQ _ (mid_err hR (by decide))) rfl rfl
    · refine V2_iload_n (i := 0) d_P_isKindAndLevel_4 rfl rfl ?_
      refine V2_bipush (v := 10) d_P_isKindAndLevel_5 rfl ?_
      refine V2_idiv d_P_isKindAndLevel_7 (by decide) ?_
      refine V2_topi (fun v6 ev6 => ?_)
      refine V2_callS [.int v6] d_P_isKindAndLevel_8 rfl rfl lk_P_107 mo_Kinds_isKind (Nat.le_of_ble_eq_true rfl) (Nat.le_of_ble_eq_true rfl) ?_
      refine V2.to (l' := [some (.int v6)]) ?_ rfl rfl rfl rfl
      refine V2_iload_n (i := 0) d_Kinds_isKind_0 rfl rfl ?_
      refine V2_if_lt (tgt := 16) d_Kinds_isKind_1 rfl (fun c7 => ?_) (fun c7 => ?_)
      · refine V2_iconst (v := 0) d_Kinds_isKind_16 rfl ?_
        refine V2_zreturn d_Kinds_isKind_17 rfl (by decide) ?_
        refine V2.to (st' := [.int (0 : Int32)]) ?_ rfl rfl rfl rfl
        refine V2_if_eq (tgt := 18) d_P_isKindAndLevel_11 rfl (fun _ => ?_) (fun c => (by first | exact absurd c (by decide) | exact absurd (by decide) c))
        refine V2_iconst (v := 0) d_P_isKindAndLevel_18 rfl ?_
        refine V2_zreturn d_P_isKindAndLevel_19 rfl (by decide) ?_
        refine V2.to (st' := [.int (0 : Int32)]) ?_ rfl rfl rfl rfl
        refine V2_if_ne (tgt := 27) d_P_become_18 rfl (fun c => (by first | exact absurd c (by decide) | exact absurd (by decide) c)) (fun _ => ?_)
        refine V2_aload_n (i := 0) d_P_become_21 rfl rfl ?_
        refine V2_iconst (v := 1) d_P_become_22 rfl ?_
        refine V2_callV [.int (1 : Int32)] d_P_become_23 rfl rfl lk_P_66 mo_P_fails (by decide) rfl rfl rfl (Nat.le_of_ble_eq_true rfl) (Nat.le_of_ble_eq_true rfl) ?_
        refine c_P_fails1 ?_
        refine V2_topi (fun v8 ev8 => ?_)
        refine V2_ireturn d_P_become_26 rfl ?_
        have hb0 : ¬ ((0 ≤ (nI p).toInt ∧ (nI p).toInt < (PN (F 66) : Int)) ∧ 0 ≤ km.toInt ∧ km.toInt ≤ 69) := (by (try clear hQ); (try subst ev8 ev6 ev1); ((try simp only [xb_eq, xb_ne, Int32.lt_iff_toInt_lt, Int32.le_iff_toInt_le] at *) <;> (try simp only [← Int32.toInt_inj, true_and, false_and, or_false, false_or, or_true, true_or, and_true, and_false] at *) <;> omega))
        have e : k_become F (nI p) km = (-1000000000 - 1, errF F 1) := if_neg hb0
        rw [e] at hQ
        subst ev8 ev6 ev1
        exact xQi (hQ _ (mid_err hR (by decide))) rfl rfl
      · refine V2_iload_n (i := 0) d_Kinds_isKind_4 rfl rfl ?_
        refine V2_getsA d_Kinds_isKind_5 gs_Kinds_7 ?_
        refine V2_abovelen d_Kinds_isKind_8 ?_
        refine V2_icmp_ge (tgt := 16) d_Kinds_isKind_9 rfl (fun c9 => ?_) (fun c9 => ?_)
        · refine V2_iconst (v := 0) d_Kinds_isKind_16 rfl ?_
          refine V2_zreturn d_Kinds_isKind_17 rfl (by decide) ?_
          refine V2.to (st' := [.int (0 : Int32)]) ?_ rfl rfl rfl rfl
          refine V2_if_eq (tgt := 18) d_P_isKindAndLevel_11 rfl (fun _ => ?_) (fun c => (by first | exact absurd c (by decide) | exact absurd (by decide) c))
          refine V2_iconst (v := 0) d_P_isKindAndLevel_18 rfl ?_
          refine V2_zreturn d_P_isKindAndLevel_19 rfl (by decide) ?_
          refine V2.to (st' := [.int (0 : Int32)]) ?_ rfl rfl rfl rfl
          refine V2_if_ne (tgt := 27) d_P_become_18 rfl (fun c => (by first | exact absurd c (by decide) | exact absurd (by decide) c)) (fun _ => ?_)
          refine V2_aload_n (i := 0) d_P_become_21 rfl rfl ?_
          refine V2_iconst (v := 1) d_P_become_22 rfl ?_
          refine V2_callV [.int (1 : Int32)] d_P_become_23 rfl rfl lk_P_66 mo_P_fails (by decide) rfl rfl rfl (Nat.le_of_ble_eq_true rfl) (Nat.le_of_ble_eq_true rfl) ?_
          refine c_P_fails1 ?_
          refine V2_topi (fun v10 ev10 => ?_)
          refine V2_ireturn d_P_become_26 rfl ?_
          have hb0 : ¬ ((0 ≤ (nI p).toInt ∧ (nI p).toInt < (PN (F 66) : Int)) ∧ 0 ≤ km.toInt ∧ km.toInt ≤ 69) := (by (try clear hQ); (try subst ev10 ev6 ev1); ((try simp only [xb_eq, xb_ne, Int32.lt_iff_toInt_lt, Int32.le_iff_toInt_le] at *) <;> (try simp only [← Int32.toInt_inj, true_and, false_and, or_false, false_or, or_true, true_or, and_true, and_false] at *) <;> omega))
          have e : k_become F (nI p) km = (-1000000000 - 1, errF F 1) := if_neg hb0
          rw [e] at hQ
          subst ev10 ev6 ev1
          exact xQi (hQ _ (mid_err hR (by decide))) rfl rfl
        · refine V2_iconst (v := 1) d_Kinds_isKind_12 rfl ?_
          refine V2_goto (tgt := 17) d_Kinds_isKind_13 rfl ?_
          refine V2_zreturn d_Kinds_isKind_17 rfl (by decide) ?_
          refine V2.to (st' := [.int (1 : Int32)]) ?_ rfl rfl rfl rfl
          refine V2_if_eq (tgt := 18) d_P_isKindAndLevel_11 rfl (fun c => (by first | exact absurd c (by decide) | exact absurd (by decide) c)) (fun _ => ?_)
          refine V2_iconst (v := 1) d_P_isKindAndLevel_14 rfl ?_
          refine V2_goto (tgt := 19) d_P_isKindAndLevel_15 rfl ?_
          refine V2_zreturn d_P_isKindAndLevel_19 rfl (by decide) ?_
          refine V2.to (st' := [.int (1 : Int32)]) ?_ rfl rfl rfl rfl
          refine V2_if_ne (tgt := 27) d_P_become_18 rfl (fun _ => ?_) (fun c => (by first | exact absurd c (by decide) | exact absurd (by decide) c))
          refine V2_aload_n (i := 0) d_P_become_27 rfl rfl ?_
          refine V2_getr (a := 1) d_P_become_28 fl_P_10 (by decide) rfl (by decide) rfl ?_
          refine V2_getr (a := 3) d_P_become_31 fl_P_70 (by decide) rfl (by decide) rfl ?_
          refine V2_iload_n (i := 1) d_P_become_34 rfl rfl ?_
          refine V2_callV [.int (nI p)] d_P_become_35 rfl rfl lk_P_87 mo_Push_kindOf (by decide) rfl rfl rfl (Nat.le_of_ble_eq_true rfl) (Nat.le_of_ble_eq_true rfl) ?_
          refine c_Push_kindOf (P := PN (F 66)) (hR.1.1.2.1.1.trans eP) (hR.1.1.2.1.2.1.trans eP) hP6 hp ?_
          refine V2_topi (fun v11 ev11 => ?_)
          refine V2_istore_n (i := 3) (l' := [some (.ref 0), some (.int (nI p)), some (.int km), some (.int v11)]) d_P_become_38 rfl (xst_i (Nat.le_of_ble_eq_true rfl) rfl rfl) ?_
          refine V2_aload_n (i := 0) d_P_become_39 rfl rfl ?_
          refine V2_getr (a := 1) d_P_become_40 fl_P_10 (by decide) rfl (by decide) rfl ?_
          refine V2_getr (a := 3) d_P_become_43 fl_P_70 (by decide) rfl (by decide) rfl ?_
          refine V2_iload_n (i := 1) d_P_become_46 rfl rfl ?_
          refine V2_iload_n (i := 2) d_P_become_47 rfl rfl ?_
          refine V2_bipush (v := 10) d_P_become_48 rfl ?_
          refine V2_idiv d_P_become_50 (by decide) ?_
          refine V2_topi (fun v12 ev12 => ?_)
          refine V2_iload_n (i := 2) d_P_become_51 rfl rfl ?_
          refine V2_bipush (v := 10) d_P_become_52 rfl ?_
          refine V2_iremM d_P_become_54 (by decide) ?_
          refine V2_topi (fun v13 ev13 => ?_)
          refine V2_callV [.int (nI p), .int v12, .int v13] d_P_become_55 rfl rfl lk_P_103 mo_Push_turn (by decide) rfl rfl rfl (Nat.le_of_ble_eq_true rfl) (Nat.le_of_ble_eq_true rfl) ?_
          refine c_Push_turn (P := PN (F 66)) (p := p) (hR.1.1.2.1.1.trans eP) (hR.1.1.2.1.2.1.trans eP) hP6 hp ?_
          refine V2_iload_n (i := 3) d_P_become_58 rfl rfl ?_
          refine V2_ireturn d_P_become_59 rfl ?_
          have hb0 : (0 ≤ (nI p).toInt ∧ (nI p).toInt < (PN (F 66) : Int)) ∧ 0 ≤ km.toInt ∧ km.toInt ≤ 69 := (by (try clear hQ); (try subst ev13 ev12 ev11 ev6 ev1); ((try simp only [xb_eq, xb_ne, Int32.lt_iff_toInt_lt, Int32.le_iff_toInt_le] at *) <;> (try simp only [← Int32.toInt_inj, true_and, false_and, or_false, false_or, or_true, true_or, and_true, and_false] at *) <;> omega))
          have e : k_become F (nI p) km = (F 66 (12 + 2 * p), xrw F 66 (upd (upd (F 66) (12 + 2 * p + 1) (km % 10)) (12 + 2 * p) (km / 10))) := (if_pos hb0).trans (by rw [kp])
          rw [e] at hQ
          subst ev13 ev12 ev11 ev6 ev1
          exact xQi (hQ _ (mid_W hR (fun k hk => (xp_row_ne (by omega)).trans (xp_row_ne (by omega))) (relW_people hR.1.1 hR.2.1 (relPw_turn hR.1.1.2.1) (fun k hk => (xp_row_ne (by omega)).trans (xp_row_ne (by omega))) (fun j hj => (upd_ne (by omega)).trans (upd_ne (by omega)))))) ((rel_relP hR).2.2.2 p hp).1 rfl
theorem c_mod_become {L : Nat} {xs : Nat → Int32} {d : Nat} {Q : Option Value → xF → Prop} {F : xF} {pu km : Int32} {F0 : xF} (hR : Rel F0) (hM : Mid F0 F (k_become F0 pu km).2) (hQ : ∀ F2, Rel F2 → Q (some (.int (k_become F0 pu km).1)) F2) : V2 L xs (d + 2) m_R_become 0 (xEntry [.ref 65, .int pu, .int km] 3) [] F Q := by
  have q0 : (0 : Int32).toInt = 0 := by decide
  have q1 : (1 : Int32).toInt = 1 := by decide
  have q2 : (2 : Int32).toInt = 2 := by decide
  have q3 : (3 : Int32).toInt = 3 := by decide
  have q4 : (4 : Int32).toInt = 4 := by decide
  have q5 : (5 : Int32).toInt = 5 := by decide
  have q6 : (6 : Int32).toInt = 6 := by decide
  have q7 : (7 : Int32).toInt = 7 := by decide
  have q8 : (8 : Int32).toInt = 8 := by decide
  have q9 : (9 : Int32).toInt = 9 := by decide
  have q10 : (10 : Int32).toInt = 10 := by decide
  have q12 : (12 : Int32).toInt = 12 := by decide
  have q16 : (16 : Int32).toInt = 16 := by decide
  have q20 : (20 : Int32).toInt = 20 := by decide
  have q24 : (24 : Int32).toInt = 24 := by decide
  have q30 : (30 : Int32).toInt = 30 := by decide
  have q32 : (32 : Int32).toInt = 32 := by decide
  have q40 : (40 : Int32).toInt = 40 := by decide
  have q60 : (60 : Int32).toInt = 60 := by decide
  have q69 : (69 : Int32).toInt = 69 := by decide
  have q99 : (99 : Int32).toInt = 99 := by decide
  have q9999 : (9999 : Int32).toInt = 9999 := by decide
  have q274 : (274 : Int32).toInt = 274 := by decide
  have q334 : (334 : Int32).toInt = 334 := by decide
  obtain ⟨eP, hP6⟩ := inv_PN hR.2.1.2.2.1
  have nP : (F0 66 11).toInt = (PN (F0 66) : Int) := PN_int hR.2.1.2.2.1
  have d10 : 0 ≤ km.toInt → (km / 10).toInt = km.toInt / 10 := div10
  have m10 : 0 ≤ km.toInt → (km % 10).toInt = km.toInt % 10 := mod10
  have e66 : F 66 = F0 66 := hM.1 66 (by decide)
  have e66b : F 66 11 = F0 66 11 := congrFun e66 11
  have s1 : (F 66 11 - 1).toInt = (PN (F0 66) : Int) - 1 := by
    rw [e66b, eP]
    have := nI_toInt (n := PN (F0 66)) (by omega)
    rw [toI_sub (by omega) (by omega) (by decide) (by decide), this]
    rfl
  refine V2.to (l' := [some (.ref 65), some (.int pu), some (.int km)]) ?_ rfl rfl rfl rfl
  refine V2_aload_n (i := 0) d_R_become_0 rfl rfl ?_
  refine V2_iload_n (i := 1) d_R_become_1 rfl rfl ?_
  refine V2_callV [.int pu] d_R_become_2 rfl rfl lk_R_168 mo_R_isPusher (by decide) rfl rfl rfl (Nat.le_of_ble_eq_true rfl) (Nat.le_of_ble_eq_true rfl) ?_
  refine c_R_isPusher ?_
  refine V2_topi (fun v1 ev1 => ?_)
  refine V2_if_eq (tgt := 15) d_R_become_5 rfl (fun c2 => ?_) (fun c2 => ?_)
  · refine V2_aload_n (i := 0) d_R_become_15 rfl rfl ?_
    refine V2_iconst (v := 1) d_R_become_16 rfl ?_
    refine V2_callV [.int (1 : Int32)] d_R_become_17 rfl rfl lk_R_55 mo_R_error (by decide) rfl rfl rfl (Nat.le_of_ble_eq_true rfl) (Nat.le_of_ble_eq_true rfl) ?_
    refine c_R_error1 ?_
    refine V2_topi (fun v3 ev3 => ?_)
    refine V2_ireturn d_R_become_20 rfl ?_
    have hb0 : ¬ ((0 ≤ pu.toInt ∧ pu.toInt < (PN (F0 66) : Int)) ∧ 0 ≤ km.toInt ∧ km.toInt ≤ 69) := (by (try clear hQ); (try subst ev3 ev1); ((try simp only [xb_eq, xb_ne, Int32.lt_iff_toInt_lt, Int32.le_iff_toInt_le] at *) <;> (try simp only [← Int32.toInt_inj, true_and, false_and, or_false, false_or, or_true, true_or, and_true, and_false] at *) <;> omega))
    have e : k_become F0 pu km = (-1000000000 - 1, errF F0 1) := if_neg hb0
    rw [e] at hQ hM
    subst ev3 ev1
    exact xQi (hQ _ (rel_err hR hM)) rfl rfl
  · obtain ⟨p, hp, epp⟩ := in_of (x := pu) (P := PN (F0 66)) (by (try clear hQ); (try subst ev1); ((try simp only [xb_eq, xb_ne, Int32.lt_iff_toInt_lt, Int32.le_iff_toInt_le] at *) <;> (try simp only [← Int32.toInt_inj, true_and, false_and, or_false, false_or, or_true, true_or, and_true, and_false] at *) <;> omega)) (by (try clear hQ); (try subst ev1); ((try simp only [xb_eq, xb_ne, Int32.lt_iff_toInt_lt, Int32.le_iff_toInt_le] at *) <;> (try simp only [← Int32.toInt_inj, true_and, false_and, or_false, false_or, or_true, true_or, and_true, and_false] at *) <;> omega)) (by omega)
    subst epp
    have np : (nI p).toInt = (p : Int) := nI_toInt (by omega)
    have kp : (nI p).toNatClampNeg = p := nI_clamp (by omega)
    refine V2_iload_n (i := 2) d_R_become_8 rfl rfl ?_
    refine V2_callS [.int km] d_R_become_9 rfl rfl lk_R_161 mo_R_isKind (Nat.le_of_ble_eq_true rfl) (Nat.le_of_ble_eq_true rfl) ?_
    refine c_R_isKind ?_
    refine V2_topi (fun v4 ev4 => ?_)
    refine V2_if_ne (tgt := 21) d_R_become_12 rfl (fun c5 => ?_) (fun c5 => ?_)
    · refine V2_aload_n (i := 0) d_R_become_21 rfl rfl ?_
      refine V2_iload_n (i := 1) d_R_become_22 rfl rfl ?_
      refine V2_iconst (v := 1) d_R_become_23 rfl ?_
      refine V2_iload_n (i := 2) d_R_become_24 rfl rfl ?_
      refine V2_bipush (v := 10) d_R_become_25 rfl ?_
      refine V2_iremM d_R_become_27 (by decide) ?_
      refine V2_topi (fun v6 ev6 => ?_)
      refine V2_callV [.int (nI p), .int (1 : Int32), .int v6] d_R_become_28 rfl rfl lk_R_164 mo_R_lays1 (by decide) rfl rfl rfl (Nat.le_of_ble_eq_true rfl) (Nat.le_of_ble_eq_true rfl) ?_
      refine c_R_lays1 (p := p) (by omega) ?_
      refine V2_aload_n (i := 0) d_R_become_31 rfl rfl ?_
      refine V2_bipush (v := 12) d_R_become_32 rfl ?_
      refine V2_iconst (v := 2) d_R_become_34 rfl ?_
      refine V2_iload_n (i := 1) d_R_become_35 rfl rfl ?_
      refine V2_imul d_R_become_36 ?_
      refine V2_topi (fun v7 ev7 => ?_)
      refine V2_iadd d_R_become_37 ?_
      refine V2_topi (fun v8 ev8 => ?_)
      refine V2_iconst (v := 0) d_R_become_38 rfl ?_
      refine V2_iadd d_R_become_39 ?_
      refine V2_topi (fun v9 ev9 => ?_)
      refine V2_iload_n (i := 2) d_R_become_40 rfl rfl ?_
      refine V2_bipush (v := 10) d_R_become_41 rfl ?_
      refine V2_idiv d_R_become_43 (by decide) ?_
      refine V2_topi (fun v10 ev10 => ?_)
      refine V2_callV [.int v9, .int v10] d_R_become_44 rfl rfl lk_R_171 mo_R_change1 (by decide) rfl rfl rfl (Nat.le_of_ble_eq_true rfl) (Nat.le_of_ble_eq_true rfl) ?_
      have ei : v9 = nI (12 + 2 * p) := (by subst ev10 ev9 ev8 ev7 ev6 ev4 ev1; simp only [nI, Int32.ofNat_add, Int32.ofNat_mul, Int32.add_zero]; rfl)
      rw [ei]
      refine c_R_change1 (k := 12 + 2 * p) (by omega) ?_
      refine V2_topi (fun v11 ev11 => ?_)
      refine V2_ireturn d_R_become_47 rfl ?_
      have hb0 : (0 ≤ (nI p).toInt ∧ (nI p).toInt < (PN (F0 66) : Int)) ∧ 0 ≤ km.toInt ∧ km.toInt ≤ 69 := (by (try clear hQ); (try subst ev11 ev10 ev9 ev8 ev7 ev6 ev4 ev1); ((try simp only [xb_eq, xb_ne, Int32.lt_iff_toInt_lt, Int32.le_iff_toInt_le] at *) <;> (try simp only [← Int32.toInt_inj, true_and, false_and, or_false, false_or, or_true, true_or, and_true, and_false] at *) <;> omega))
      have e : k_become F0 (nI p) km = (F0 66 (12 + 2 * p), xrw F0 66 (upd (upd (F0 66) (12 + 2 * p + 1) (km % 10)) (12 + 2 * p) (km / 10))) := (if_pos hb0).trans (by rw [kp])
      rw [e] at hQ hM
      have hka : 0 ≤ (km / 10).toInt ∧ (km / 10).toInt ≤ 6 := by
        have := d10 hb0.2.1
        omega
      have hkb : 0 ≤ (km % 10).toInt ∧ (km % 10).toInt ≤ 9 := by
        have := m10 hb0.2.1
        omega
      subst ev11 ev10 ev9 ev8 ev7 ev6 ev4 ev1
      refine xQi (hQ (xrw F 66 (upd (upd (F0 66) (12 + 2 * p + 1) (km % 10)) (12 + 2 * p) (km / 10))) (rel_W hR hM (invS_people hR.2.1 (invP_turn hR.2.1.2.2.1 hka hkb) (fun j hj => (upd_ne (by omega)).trans (upd_ne (by omega)))))) ?_ ?_
      · rw [xp_ne (Or.inr (by omega)), e66]
      · rw [xp_row F, xp_xrw, e66]
    · refine V2_aload_n (i := 0) d_R_become_15 rfl rfl ?_
      refine V2_iconst (v := 1) d_R_become_16 rfl ?_
      refine V2_callV [.int (1 : Int32)] d_R_become_17 rfl rfl lk_R_55 mo_R_error (by decide) rfl rfl rfl (Nat.le_of_ble_eq_true rfl) (Nat.le_of_ble_eq_true rfl) ?_
      refine c_R_error1 ?_
      refine V2_topi (fun v12 ev12 => ?_)
      refine V2_ireturn d_R_become_20 rfl ?_
      have hb0 : ¬ ((0 ≤ (nI p).toInt ∧ (nI p).toInt < (PN (F0 66) : Int)) ∧ 0 ≤ km.toInt ∧ km.toInt ≤ 69) := (by (try clear hQ); (try subst ev12 ev4 ev1); ((try simp only [xb_eq, xb_ne, Int32.lt_iff_toInt_lt, Int32.le_iff_toInt_le] at *) <;> (try simp only [← Int32.toInt_inj, true_and, false_and, or_false, false_or, or_true, true_or, and_true, and_false] at *) <;> omega))
      have e : k_become F0 (nI p) km = (-1000000000 - 1, errF F0 1) := if_neg hb0
      rw [e] at hQ hM
      subst ev12 ev4 ev1
      exact xQi (hQ _ (rel_err hR hM)) rfl rfl
