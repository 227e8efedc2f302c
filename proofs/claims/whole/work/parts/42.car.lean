/-! the calls that write the car: car, park -/
theorem xp_at (F : xF) (k j : Nat) (x : Int32) : xp F k j x k = upd (F k) j x := by
  funext b
  unfold xp upd
  rw [if_pos rfl]
theorem mid_low {F : xF} {r S' : Nat → Int32} (h : Rel F) (hc : relCr r S') (h8 : S' 8 = F 66 8) (hS : ∀ j, 9 ≤ j → S' j = F 66 j) : Mid F (xrw F 2 r) (xrw F 66 S') := by
  have e2 : xrw F 66 S' 66 = S' := xrw_same F 66 S'
  refine ⟨fun a ha => xrw_ne (by omega), relC_W h.1 (relW_low h.1.1 (fun j hj => ?_) (fun a h1 h2 => xrw_ne (by omega)) ?_ ?_) (fun a h1 h2 => xrw_ne (by omega)) (fun a ha => xrw_ne ha)⟩
  · rw [e2]
    exact hS j hj
  · rw [e2, show xrw F 2 r (1 + 1) = r from xrw_same F 2 r]
    exact hc
  · rw [e2, h8]
    exact h.1.1.2.2.2.2.2.2
theorem rel_low {F0 F : xF} {S' : Nat → Int32} (h : Rel F0) (hM : Mid F0 F (xrw F0 66 S')) (hc : invC S') (h7 : 0 ≤ (S' 7).toInt ∧ (S' 7).toInt ≤ 9999) (hS : ∀ j, 9 ≤ j → S' j = F0 66 j) : Rel (xrw F 66 S') := by
  refine rel_end hM (fun a ha => xrw_ne (by omega)) (fun a ha => ?_) (invM_S h.2 ?_ (fun a ha => xrw_ne ha))
  · by_cases e : a = 66
    · subst e
      rw [xrw_same, xrw_same]
    · rw [xrw_ne e, xrw_ne e]
      exact hM.1 a (by omega)
  · rw [xrw_same]
    exact invS_low h.2.1 hS hc h7
def k_car (F : xF) (w v : Int32) : Int32 × xF :=
  if w = 0 ∧ 1 ≤ v ∧ v ≤ 60 then (F 66 0, xrw F 66 (upd (F 66) 0 v)) else if w = 1 ∧ 0 ≤ v ∧ v ≤ 99 then (F 66 1, xrw F 66 (upd (F 66) 1 v)) else if w = 2 ∧ 0 ≤ v ∧ v ≤ 99 then (F 66 2, xrw F 66 (upd (F 66) 2 v)) else if w = 3 ∧ 0 ≤ v ∧ v ≤ 1 then (F 66 3, xrw F 66 (upd (F 66) 3 v)) else if w = 4 ∧ 0 ≤ v ∧ v ≤ 99 then (F 66 4, xrw F 66 (upd (F 66) 4 v)) else (-1000000000 - 1, errF F 1)
theorem relCr_upd {r S : Nat → Int32} {n : Nat} {v : Int32} (h : relCr r S) (hn : n < 5) : relCr (upd r n v) (upd S n v) := by
  obtain ⟨h0, h1, h2, h3, h4, h5, h6, h7⟩ := h
  rcases (show n = 0 ∨ n = 1 ∨ n = 2 ∨ n = 3 ∨ n = 4 by omega) with rfl | rfl | rfl | rfl | rfl <;> refine ⟨?_, ?_, ?_, ?_, ?_, ?_, ?_, ?_⟩ <;> simp [upd, *]
theorem invC_upd0 {S : Nat → Int32} {v : Int32} (h : invC S) (hv : 1 ≤ v ∧ v ≤ 60) : invC (upd S 0 v) := by
  obtain ⟨i0, i1, i2, i3, i4, i5, i6⟩ := h
  have q0 : (1 : Int32).toInt = 1 := by decide
  have q1 : (60 : Int32).toInt = 60 := by decide
  have hw := hv
  rw [Int32.le_iff_toInt_le, Int32.le_iff_toInt_le, q0, q1] at hw
  exact ⟨hw, i1, i2, i3, i4, i5, i6⟩
theorem invC_upd1 {S : Nat → Int32} {v : Int32} (h : invC S) (hv : 0 ≤ v ∧ v ≤ 99) : invC (upd S 1 v) := by
  obtain ⟨i0, i1, i2, i3, i4, i5, i6⟩ := h
  have q0 : (0 : Int32).toInt = 0 := by decide
  have q1 : (99 : Int32).toInt = 99 := by decide
  have hw := hv
  rw [Int32.le_iff_toInt_le, Int32.le_iff_toInt_le, q0, q1] at hw
  exact ⟨i0, hw, i2, i3, i4, i5, i6⟩
theorem invC_upd2 {S : Nat → Int32} {v : Int32} (h : invC S) (hv : 0 ≤ v ∧ v ≤ 99) : invC (upd S 2 v) := by
  obtain ⟨i0, i1, i2, i3, i4, i5, i6⟩ := h
  have q0 : (0 : Int32).toInt = 0 := by decide
  have q1 : (99 : Int32).toInt = 99 := by decide
  have hw := hv
  rw [Int32.le_iff_toInt_le, Int32.le_iff_toInt_le, q0, q1] at hw
  exact ⟨i0, i1, hw, i3, i4, i5, i6⟩
theorem invC_upd3 {S : Nat → Int32} {v : Int32} (h : invC S) (hv : 0 ≤ v ∧ v ≤ 1) : invC (upd S 3 v) := by
  obtain ⟨i0, i1, i2, i3, i4, i5, i6⟩ := h
  have q0 : (0 : Int32).toInt = 0 := by decide
  have q1 : (1 : Int32).toInt = 1 := by decide
  have hw := hv
  rw [Int32.le_iff_toInt_le, Int32.le_iff_toInt_le, q0, q1] at hw
  have q : v = 0 ∨ v = 1 := by
    by_cases e : v = 0
    · exact Or.inl e
    · refine Or.inr (Int32.toInt_inj.mp ?_)
      have e2 : ¬ v.toInt = (0 : Int32).toInt := fun e3 => e (Int32.toInt_inj.mp e3)
      omega
  exact ⟨i0, i1, i2, q, i4, i5, i6⟩
theorem invC_upd4 {S : Nat → Int32} {v : Int32} (h : invC S) (hv : 0 ≤ v ∧ v ≤ 99) : invC (upd S 4 v) := by
  obtain ⟨i0, i1, i2, i3, i4, i5, i6⟩ := h
  have q0 : (0 : Int32).toInt = 0 := by decide
  have q1 : (99 : Int32).toInt = 99 := by decide
  have hw := hv
  rw [Int32.le_iff_toInt_le, Int32.le_iff_toInt_le, q0, q1] at hw
  exact ⟨i0, i1, i2, i3, hw, i5, i6⟩
theorem c_cls_car0 {L : Nat} {xs : Nat → Int32} {d : Nat} {Q : Option Value → xF → Prop} {F : xF} {v : Int32} (hR : Rel F) (hQ : ∀ F1, Mid F F1 (k_car F 0 v).2 → Q (some (.int (k_car F 0 v).1)) F1) : V2 L xs (d + 2) m_P_car 0 (xEntry [.ref 0, .int (0 : Int32), .int v] 4) [] F Q := by
  have q0 : (0 : Int32).toInt = 0 := by decide
  have q1 : (1 : Int32).toInt = 1 := by decide
  have q2 : (2 : Int32).toInt = 2 := by decide
  have q3 : (3 : Int32).toInt = 3 := by decide
  have q4 : (4 : Int32).toInt = 4 := by decide
  have q5 : (5 : Int32).toInt = 5 := by decide
  have q6 : (6 : Int32).toInt = 6 := by decide
  have q7 : (7 : Int32).toInt = 7 := by decide
  have q9 : (9 : Int32).toInt = 9 := by decide
  have q20 : (20 : Int32).toInt = 20 := by decide
  have q30 : (30 : Int32).toInt = 30 := by decide
  have q60 : (60 : Int32).toInt = 60 := by decide
  have q99 : (99 : Int32).toInt = 99 := by decide
  refine V2.to (l' := [some (.ref 0), some (.int (0 : Int32)), some (.int v), none]) ?_ rfl rfl rfl rfl
  refine V2_iload_n (i := 1) d_P_car_0 rfl rfl ?_
  refine V2_iload_n (i := 2) d_P_car_1 rfl rfl ?_
  refine V2_callS [.int (0 : Int32), .int v] d_P_car_2 rfl rfl lk_P_123 mo_Car_canBecome (Nat.le_of_ble_eq_true rfl) (Nat.le_of_ble_eq_true rfl) ?_
  refine V2.to (l' := [some (.int (0 : Int32)), some (.int v)]) ?_ rfl rfl rfl rfl
  refine V2_iload_n (i := 0) d_Car_canBecome_0 rfl rfl ?_
  refine V2_tableIn (tgt := 36) (off := 35) d_Car_canBecome_1 (by decide) (by decide) (by decide) rfl ?_
  refine V2_iload_n (i := 1) d_Car_canBecome_36 rfl rfl ?_
  refine V2_iconst (v := 1) d_Car_canBecome_37 rfl ?_
  refine V2_bipush (v := 60) d_Car_canBecome_38 rfl ?_
  refine V2_callS [.int v, .int (1 : Int32), .int (60 : Int32)] d_Car_canBecome_40 rfl rfl lk_Car_35 mo_P_within (Nat.le_of_ble_eq_true rfl) (Nat.le_of_ble_eq_true rfl) ?_
  refine V2.to (l' := [some (.int v), some (.int (1 : Int32)), some (.int (60 : Int32))]) ?_ rfl rfl rfl rfl
  refine V2_iload_n (i := 0) d_P_within_0 rfl rfl ?_
  refine V2_iload_n (i := 1) d_P_within_1 rfl rfl ?_
  refine V2_icmp_lt (tgt := 14) d_P_within_2 rfl (fun c1 => ?_) (fun c1 => ?_)
  · refine V2_iconst (v := 0) d_P_within_14 rfl ?_
    refine V2_zreturn d_P_within_15 rfl (by decide) ?_
    refine V2.to (st' := [.int (0 : Int32)]) ?_ rfl rfl rfl rfl
    refine V2_zreturn d_Car_canBecome_43 rfl (by decide) ?_
    refine V2.to (st' := [.int (0 : Int32)]) ?_ rfl rfl rfl rfl
    refine V2_if_ne (tgt := 14) d_P_car_5 rfl (fun c => (by first | exact absurd c (by decide) | exact absurd (by decide) c)) (fun _ => ?_)
    refine V2_aload_n (i := 0) d_P_car_8 rfl rfl ?_
    refine V2_iconst (v := 1) d_P_car_9 rfl ?_
    refine V2_callV [.int (1 : Int32)] d_P_car_10 rfl rfl lk_P_66 mo_P_fails (by decide) rfl rfl rfl (Nat.le_of_ble_eq_true rfl) (Nat.le_of_ble_eq_true rfl) ?_
    refine c_P_fails1 ?_
    refine V2_topi (fun v2 ev2 => ?_)
    refine V2_ireturn d_P_car_13 rfl ?_
    have hb : ¬ (1 ≤ v ∧ v ≤ 60) := (by clear hQ; (try (subst ev2)); (try simp only [xb_eq, xb_ne, Int32.lt_iff_toInt_lt, Int32.le_iff_toInt_le] at *); omega)
    have e : k_car F 0 v = (-1000000000 - 1, errF F 1) := by unfold k_car; rw [if_neg (fun h => hb h.2), if_neg (fun h => absurd h.1 (by decide)), if_neg (fun h => absurd h.1 (by decide)), if_neg (fun h => absurd h.1 (by decide)), if_neg (fun h => absurd h.1 (by decide))]
    rw [e] at hQ
    subst ev2
    exact xQi (hQ _ (mid_err hR (by decide))) rfl rfl
  · refine V2_iload_n (i := 0) d_P_within_5 rfl rfl ?_
    refine V2_iload_n (i := 2) d_P_within_6 rfl rfl ?_
    refine V2_icmp_gt (tgt := 14) d_P_within_7 rfl (fun c3 => ?_) (fun c3 => ?_)
    · refine V2_iconst (v := 0) d_P_within_14 rfl ?_
      refine V2_zreturn d_P_within_15 rfl (by decide) ?_
      refine V2.to (st' := [.int (0 : Int32)]) ?_ rfl rfl rfl rfl
      refine V2_zreturn d_Car_canBecome_43 rfl (by decide) ?_
      refine V2.to (st' := [.int (0 : Int32)]) ?_ rfl rfl rfl rfl
      refine V2_if_ne (tgt := 14) d_P_car_5 rfl (fun c => (by first | exact absurd c (by decide) | exact absurd (by decide) c)) (fun _ => ?_)
      refine V2_aload_n (i := 0) d_P_car_8 rfl rfl ?_
      refine V2_iconst (v := 1) d_P_car_9 rfl ?_
      refine V2_callV [.int (1 : Int32)] d_P_car_10 rfl rfl lk_P_66 mo_P_fails (by decide) rfl rfl rfl (Nat.le_of_ble_eq_true rfl) (Nat.le_of_ble_eq_true rfl) ?_
      refine c_P_fails1 ?_
      refine V2_topi (fun v4 ev4 => ?_)
      refine V2_ireturn d_P_car_13 rfl ?_
      have hb : ¬ (1 ≤ v ∧ v ≤ 60) := (by clear hQ; (try (subst ev4)); (try simp only [xb_eq, xb_ne, Int32.lt_iff_toInt_lt, Int32.le_iff_toInt_le] at *); omega)
      have e : k_car F 0 v = (-1000000000 - 1, errF F 1) := by unfold k_car; rw [if_neg (fun h => hb h.2), if_neg (fun h => absurd h.1 (by decide)), if_neg (fun h => absurd h.1 (by decide)), if_neg (fun h => absurd h.1 (by decide)), if_neg (fun h => absurd h.1 (by decide))]
      rw [e] at hQ
      subst ev4
      exact xQi (hQ _ (mid_err hR (by decide))) rfl rfl
    · refine V2_iconst (v := 1) d_P_within_10 rfl ?_
      refine V2_goto (tgt := 15) d_P_within_11 rfl ?_
      refine V2_zreturn d_P_within_15 rfl (by decide) ?_
      refine V2.to (st' := [.int (1 : Int32)]) ?_ rfl rfl rfl rfl
      refine V2_zreturn d_Car_canBecome_43 rfl (by decide) ?_
      refine V2.to (st' := [.int (1 : Int32)]) ?_ rfl rfl rfl rfl
      refine V2_if_ne (tgt := 14) d_P_car_5 rfl (fun _ => ?_) (fun c => (by first | exact absurd c (by decide) | exact absurd (by decide) c))
      refine V2_aload_n (i := 0) d_P_car_14 rfl rfl ?_
      refine V2_getr (a := 1) d_P_car_15 fl_P_10 (by decide) rfl (by decide) rfl ?_
      refine V2_getr (a := 2) d_P_car_18 fl_P_93 (by decide) rfl (by decide) rfl ?_
      refine V2_iload_n (i := 1) d_P_car_21 rfl rfl ?_
      refine V2_callV [.int (0 : Int32)] d_P_car_22 rfl rfl lk_P_126 mo_Car_tells (by decide) rfl rfl rfl (Nat.le_of_ble_eq_true rfl) (Nat.le_of_ble_eq_true rfl) ?_
      refine V2.to (l' := [some (.ref 2), some (.int (0 : Int32))]) ?_ rfl rfl rfl rfl
      refine V2_iload_n (i := 1) d_Car_tells_0 rfl rfl ?_
      refine V2_tableIn (tgt := 40) (off := 39) d_Car_tells_1 (by decide) (by decide) (by decide) rfl ?_
      refine V2_aload_n (i := 0) d_Car_tells_40 rfl rfl ?_
      refine V2_get (v := F 2 0) d_Car_tells_41 fl_Car_7 (by decide) rfl (by decide) rfl rfl ?_
      refine V2_topi (fun v5 ev5 => ?_)
      refine V2_ireturn d_Car_tells_44 rfl ?_
      refine V2.to (st' := [.int v5]) ?_ rfl rfl rfl rfl
      refine V2_istore_n (i := 3) (l' := [some (.ref 0), some (.int (0 : Int32)), some (.int v), some (.int v5)]) d_P_car_25 rfl (xst_i (Nat.le_of_ble_eq_true rfl) rfl rfl) ?_
      refine V2_aload_n (i := 0) d_P_car_26 rfl rfl ?_
      refine V2_getr (a := 1) d_P_car_27 fl_P_10 (by decide) rfl (by decide) rfl ?_
      refine V2_getr (a := 2) d_P_car_30 fl_P_93 (by decide) rfl (by decide) rfl ?_
      refine V2_iload_n (i := 1) d_P_car_33 rfl rfl ?_
      refine V2_iload_n (i := 2) d_P_car_34 rfl rfl ?_
      refine V2_callV [.int (0 : Int32), .int v] d_P_car_35 rfl rfl lk_P_129 mo_Car_alter (by decide) rfl rfl rfl (Nat.le_of_ble_eq_true rfl) (Nat.le_of_ble_eq_true rfl) ?_
      refine V2.to (l' := [some (.ref 2), some (.int (0 : Int32)), some (.int v)]) ?_ rfl rfl rfl rfl
      refine V2_iload_n (i := 1) d_Car_alter_0 rfl rfl ?_
      refine V2_tableIn (tgt := 36) (off := 35) d_Car_alter_1 (by decide) (by decide) (by decide) rfl ?_
      refine V2_aload_n (i := 0) d_Car_alter_36 rfl rfl ?_
      refine V2_iload_n (i := 2) d_Car_alter_37 rfl rfl ?_
      refine V2_put d_Car_alter_38 fl_Car_7 (by decide) rfl (by decide) rfl ?_
      refine V2_goto (tgt := 76) d_Car_alter_41 rfl ?_
      refine V2_return d_Car_alter_76 rfl ?_
      refine V2.to (st' := []) ?_ rfl rfl rfl rfl
      refine V2_iload_n (i := 3) d_P_car_38 rfl rfl ?_
      refine V2_ireturn d_P_car_39 rfl ?_
      have hb : 1 ≤ v ∧ v ≤ 60 := (by clear hQ; (try (subst ev5)); (try simp only [xb_eq, xb_ne, Int32.lt_iff_toInt_lt, Int32.le_iff_toInt_le] at *); omega)
      have e : k_car F 0 v = (F 66 0, xrw F 66 (upd (F 66) 0 v)) := by unfold k_car; rw [if_pos ⟨rfl, hb⟩]
      rw [e] at hQ
      subst ev5
      exact xQi (hQ (xrw F 2 (upd (F 2) 0 v)) (mid_low hR (relCr_upd hR.1.1.1 (by decide)) rfl (fun j hj => if_neg (by omega)))) (hR.1.1.1.1) (xp_row F 2 0 v)
theorem c_mod_car0 {L : Nat} {xs : Nat → Int32} {d : Nat} {Q : Option Value → xF → Prop} {F : xF} {v : Int32} {F0 : xF} (hR : Rel F0) (hM : Mid F0 F (k_car F0 0 v).2) (hQ : ∀ F2, Rel F2 → Q (some (.int (k_car F0 0 v).1)) F2) : V2 L xs (d + 2) m_R_car 0 (xEntry [.ref 65, .int (0 : Int32), .int v] 3) [] F Q := by
  have q0 : (0 : Int32).toInt = 0 := by decide
  have q1 : (1 : Int32).toInt = 1 := by decide
  have q2 : (2 : Int32).toInt = 2 := by decide
  have q3 : (3 : Int32).toInt = 3 := by decide
  have q4 : (4 : Int32).toInt = 4 := by decide
  have q5 : (5 : Int32).toInt = 5 := by decide
  have q6 : (6 : Int32).toInt = 6 := by decide
  have q7 : (7 : Int32).toInt = 7 := by decide
  have q9 : (9 : Int32).toInt = 9 := by decide
  have q20 : (20 : Int32).toInt = 20 := by decide
  have q30 : (30 : Int32).toInt = 30 := by decide
  have q60 : (60 : Int32).toInt = 60 := by decide
  have q99 : (99 : Int32).toInt = 99 := by decide
  refine V2.to (l' := [some (.ref 65), some (.int (0 : Int32)), some (.int v)]) ?_ rfl rfl rfl rfl
  refine V2_iload_n (i := 1) d_R_car_0 rfl rfl ?_
  refine V2_iconst (v := 0) d_R_car_1 rfl ?_
  refine V2_iconst (v := 4) d_R_car_2 rfl ?_
  refine V2_callS [.int (0 : Int32), .int (0 : Int32), .int (4 : Int32)] d_R_car_3 rfl rfl lk_R_51 mo_R_in (Nat.le_of_ble_eq_true rfl) (Nat.le_of_ble_eq_true rfl) ?_
  refine c_R_in ?_
  refine V2_topi (fun v1 ev1 => ?_)
  refine V2_if_eq (tgt := 26) d_R_car_6 rfl (fun c2 => ?_) (fun c2 => ?_)
  · refine V2_aload_n (i := 0) d_R_car_26 rfl rfl ?_
    refine V2_iconst (v := 1) d_R_car_27 rfl ?_
    refine V2_callV [.int (1 : Int32)] d_R_car_28 rfl rfl lk_R_55 mo_R_error (by decide) rfl rfl rfl (Nat.le_of_ble_eq_true rfl) (Nat.le_of_ble_eq_true rfl) ?_
    refine c_R_error1 ?_
    refine V2_topi (fun v3 ev3 => ?_)
    refine V2_ireturn d_R_car_31 rfl ?_
    have hb : ¬ (1 ≤ v ∧ v ≤ 60) := (by clear hQ; (try (subst ev3 ev1)); (try simp only [xb_eq, xb_ne, Int32.lt_iff_toInt_lt, Int32.le_iff_toInt_le] at *); omega)
    have e : k_car F0 0 v = (-1000000000 - 1, errF F0 1) := by unfold k_car; rw [if_neg (fun h => hb h.2), if_neg (fun h => absurd h.1 (by decide)), if_neg (fun h => absurd h.1 (by decide)), if_neg (fun h => absurd h.1 (by decide)), if_neg (fun h => absurd h.1 (by decide))]
    rw [e] at hQ hM
    subst ev3 ev1
    exact xQi (hQ _ (rel_err hR hM)) rfl rfl
  · refine V2_iload_n (i := 1) d_R_car_9 rfl rfl ?_
    refine V2_iload_n (i := 2) d_R_car_10 rfl rfl ?_
    refine V2_callS [.int (0 : Int32), .int v] d_R_car_11 rfl rfl lk_R_177 mo_R_isOfCar (Nat.le_of_ble_eq_true rfl) (Nat.le_of_ble_eq_true rfl) ?_
    refine V2.to (l' := [some (.int (0 : Int32)), some (.int v)]) ?_ rfl rfl rfl rfl
    refine V2_iload_n (i := 1) d_R_isOfCar_0 rfl rfl ?_
    refine V2_iload_n (i := 0) d_R_isOfCar_1 rfl rfl ?_
    refine V2_if_ne (tgt := 9) d_R_isOfCar_2 rfl (fun c => (by first | exact absurd c (by decide) | exact absurd (by decide) c)) (fun _ => ?_)
    refine V2_iconst (v := 1) d_R_isOfCar_5 rfl ?_
    refine V2_goto (tgt := 10) d_R_isOfCar_6 rfl ?_
    refine V2_iload_n (i := 0) d_R_isOfCar_10 rfl rfl ?_
    refine V2_if_ne (tgt := 19) d_R_isOfCar_11 rfl (fun c => (by first | exact absurd c (by decide) | exact absurd (by decide) c)) (fun _ => ?_)
    refine V2_bipush (v := 60) d_R_isOfCar_14 rfl ?_
    refine V2_goto (tgt := 30) d_R_isOfCar_16 rfl ?_
    refine V2_callS [.int v, .int (1 : Int32), .int (60 : Int32)] d_R_isOfCar_30 rfl rfl lk_R_51 mo_R_in (Nat.le_of_ble_eq_true rfl) (Nat.le_of_ble_eq_true rfl) ?_
    refine c_R_in ?_
    refine V2_topi (fun v4 ev4 => ?_)
    refine V2_zreturn d_R_isOfCar_33 rfl (by rw [ev4]; exact xb_01) ?_
    refine V2.to (st' := [.int v4]) ?_ rfl rfl rfl rfl
    refine V2_if_eq (tgt := 26) d_R_car_14 rfl (fun c5 => ?_) (fun c5 => ?_)
    · refine V2_aload_n (i := 0) d_R_car_26 rfl rfl ?_
      refine V2_iconst (v := 1) d_R_car_27 rfl ?_
      refine V2_callV [.int (1 : Int32)] d_R_car_28 rfl rfl lk_R_55 mo_R_error (by decide) rfl rfl rfl (Nat.le_of_ble_eq_true rfl) (Nat.le_of_ble_eq_true rfl) ?_
      refine c_R_error1 ?_
      refine V2_topi (fun v6 ev6 => ?_)
      refine V2_ireturn d_R_car_31 rfl ?_
      have hb : ¬ (1 ≤ v ∧ v ≤ 60) := (by clear hQ; (try (subst ev6 ev4 ev1)); (try simp only [xb_eq, xb_ne, Int32.lt_iff_toInt_lt, Int32.le_iff_toInt_le] at *); omega)
      have e : k_car F0 0 v = (-1000000000 - 1, errF F0 1) := by unfold k_car; rw [if_neg (fun h => hb h.2), if_neg (fun h => absurd h.1 (by decide)), if_neg (fun h => absurd h.1 (by decide)), if_neg (fun h => absurd h.1 (by decide)), if_neg (fun h => absurd h.1 (by decide))]
      rw [e] at hQ hM
      subst ev6 ev4 ev1
      exact xQi (hQ _ (rel_err hR hM)) rfl rfl
    · refine V2_aload_n (i := 0) d_R_car_17 rfl rfl ?_
      refine V2_iload_n (i := 1) d_R_car_18 rfl rfl ?_
      refine V2_iload_n (i := 2) d_R_car_19 rfl rfl ?_
      refine V2_callV [.int (0 : Int32), .int v] d_R_car_20 rfl rfl lk_R_171 mo_R_change1 (by decide) rfl rfl rfl (Nat.le_of_ble_eq_true rfl) (Nat.le_of_ble_eq_true rfl) ?_
      refine V2.to (l' := [some (.ref 65), some (.int (0 : Int32)), some (.int v), none]) ?_ rfl rfl rfl rfl
      refine V2_aload_n (i := 0) d_R_change1_0 rfl rfl ?_
      refine V2_getr (a := 66) d_R_change1_1 fl_R_7 (by decide) rfl (by decide) rfl ?_
      refine V2_iload_n (i := 1) d_R_change1_4 rfl rfl ?_
      refine V2_iaload (v := F 66 0) d_R_change1_5 (by decide) rfl (xixA (n := 0) rfl (by decide) (by decide)) rfl ?_
      refine V2_topi (fun v7 ev7 => ?_)
      refine V2_istore_n (i := 3) (l' := [some (.ref 65), some (.int (0 : Int32)), some (.int v), some (.int v7)]) d_R_change1_6 rfl (xst_i (Nat.le_of_ble_eq_true rfl) rfl rfl) ?_
      refine V2_aload_n (i := 0) d_R_change1_7 rfl rfl ?_
      refine V2_getr (a := 66) d_R_change1_8 fl_R_7 (by decide) rfl (by decide) rfl ?_
      refine V2_iload_n (i := 1) d_R_change1_11 rfl rfl ?_
      refine V2_iload_n (i := 2) d_R_change1_12 rfl rfl ?_
      refine V2_iastore (j := 0) d_R_change1_13 (by decide) rfl (xixA (n := 0) rfl (by decide) (by decide)) rfl ?_
      refine V2_iload_n (i := 3) d_R_change1_14 rfl rfl ?_
      refine V2_ireturn d_R_change1_15 rfl ?_
      refine V2.to (st' := [.int v7]) ?_ rfl rfl rfl rfl
      refine V2_goto (tgt := 31) d_R_car_23 rfl ?_
      refine V2_ireturn d_R_car_31 rfl ?_
      have hb : 1 ≤ v ∧ v ≤ 60 := (by clear hQ; (try (subst ev7 ev4 ev1)); (try simp only [xb_eq, xb_ne, Int32.lt_iff_toInt_lt, Int32.le_iff_toInt_le] at *); omega)
      have e : k_car F0 0 v = (F0 66 0, xrw F0 66 (upd (F0 66) 0 v)) := by unfold k_car; rw [if_pos ⟨rfl, hb⟩]
      rw [e] at hQ hM
      subst ev7 ev4 ev1
      exact xQi (hQ (xrw F 66 (upd (F0 66) 0 v)) (rel_low hR hM (invC_upd0 hR.2.1.1 hb) hR.2.1.2.1 (fun j hj => if_neg (by omega)))) (congrFun (hM.1 66 (by decide)) 0) (by rw [xp_row, hM.1 66 (by decide)])
theorem c_cls_car1 {L : Nat} {xs : Nat → Int32} {d : Nat} {Q : Option Value → xF → Prop} {F : xF} {v : Int32} (hR : Rel F) (hQ : ∀ F1, Mid F F1 (k_car F 1 v).2 → Q (some (.int (k_car F 1 v).1)) F1) : V2 L xs (d + 2) m_P_car 0 (xEntry [.ref 0, .int (1 : Int32), .int v] 4) [] F Q := by
  have q0 : (0 : Int32).toInt = 0 := by decide
  have q1 : (1 : Int32).toInt = 1 := by decide
  have q2 : (2 : Int32).toInt = 2 := by decide
  have q3 : (3 : Int32).toInt = 3 := by decide
  have q4 : (4 : Int32).toInt = 4 := by decide
  have q5 : (5 : Int32).toInt = 5 := by decide
  have q6 : (6 : Int32).toInt = 6 := by decide
  have q7 : (7 : Int32).toInt = 7 := by decide
  have q9 : (9 : Int32).toInt = 9 := by decide
  have q20 : (20 : Int32).toInt = 20 := by decide
  have q30 : (30 : Int32).toInt = 30 := by decide
  have q60 : (60 : Int32).toInt = 60 := by decide
  have q99 : (99 : Int32).toInt = 99 := by decide
  refine V2.to (l' := [some (.ref 0), some (.int (1 : Int32)), some (.int v), none]) ?_ rfl rfl rfl rfl
  refine V2_iload_n (i := 1) d_P_car_0 rfl rfl ?_
  refine V2_iload_n (i := 2) d_P_car_1 rfl rfl ?_
  refine V2_callS [.int (1 : Int32), .int v] d_P_car_2 rfl rfl lk_P_123 mo_Car_canBecome (Nat.le_of_ble_eq_true rfl) (Nat.le_of_ble_eq_true rfl) ?_
  refine V2.to (l' := [some (.int (1 : Int32)), some (.int v)]) ?_ rfl rfl rfl rfl
  refine V2_iload_n (i := 0) d_Car_canBecome_0 rfl rfl ?_
  refine V2_tableIn (tgt := 44) (off := 43) d_Car_canBecome_1 (by decide) (by decide) (by decide) rfl ?_
  refine V2_iload_n (i := 1) d_Car_canBecome_44 rfl rfl ?_
  refine V2_iconst (v := 0) d_Car_canBecome_45 rfl ?_
  refine V2_bipush (v := 99) d_Car_canBecome_46 rfl ?_
  refine V2_callS [.int v, .int (0 : Int32), .int (99 : Int32)] d_Car_canBecome_48 rfl rfl lk_Car_35 mo_P_within (Nat.le_of_ble_eq_true rfl) (Nat.le_of_ble_eq_true rfl) ?_
  refine V2.to (l' := [some (.int v), some (.int (0 : Int32)), some (.int (99 : Int32))]) ?_ rfl rfl rfl rfl
  refine V2_iload_n (i := 0) d_P_within_0 rfl rfl ?_
  refine V2_iload_n (i := 1) d_P_within_1 rfl rfl ?_
  refine V2_icmp_lt (tgt := 14) d_P_within_2 rfl (fun c1 => ?_) (fun c1 => ?_)
  · refine V2_iconst (v := 0) d_P_within_14 rfl ?_
    refine V2_zreturn d_P_within_15 rfl (by decide) ?_
    refine V2.to (st' := [.int (0 : Int32)]) ?_ rfl rfl rfl rfl
    refine V2_zreturn d_Car_canBecome_51 rfl (by decide) ?_
    refine V2.to (st' := [.int (0 : Int32)]) ?_ rfl rfl rfl rfl
    refine V2_if_ne (tgt := 14) d_P_car_5 rfl (fun c => (by first | exact absurd c (by decide) | exact absurd (by decide) c)) (fun _ => ?_)
    refine V2_aload_n (i := 0) d_P_car_8 rfl rfl ?_
    refine V2_iconst (v := 1) d_P_car_9 rfl ?_
    refine V2_callV [.int (1 : Int32)] d_P_car_10 rfl rfl lk_P_66 mo_P_fails (by decide) rfl rfl rfl (Nat.le_of_ble_eq_true rfl) (Nat.le_of_ble_eq_true rfl) ?_
    refine c_P_fails1 ?_
    refine V2_topi (fun v2 ev2 => ?_)
    refine V2_ireturn d_P_car_13 rfl ?_
    have hb : ¬ (0 ≤ v ∧ v ≤ 99) := (by clear hQ; (try (subst ev2)); (try simp only [xb_eq, xb_ne, Int32.lt_iff_toInt_lt, Int32.le_iff_toInt_le] at *); omega)
    have e : k_car F 1 v = (-1000000000 - 1, errF F 1) := by unfold k_car; rw [if_neg (fun h => absurd h.1 (by decide)), if_neg (fun h => hb h.2), if_neg (fun h => absurd h.1 (by decide)), if_neg (fun h => absurd h.1 (by decide)), if_neg (fun h => absurd h.1 (by decide))]
    rw [e] at hQ
    subst ev2
    exact xQi (hQ _ (mid_err hR (by decide))) rfl rfl
  · refine V2_iload_n (i := 0) d_P_within_5 rfl rfl ?_
    refine V2_iload_n (i := 2) d_P_within_6 rfl rfl ?_
    refine V2_icmp_gt (tgt := 14) d_P_within_7 rfl (fun c3 => ?_) (fun c3 => ?_)
    · refine V2_iconst (v := 0) d_P_within_14 rfl ?_
      refine V2_zreturn d_P_within_15 rfl (by decide) ?_
      refine V2.to (st' := [.int (0 : Int32)]) ?_ rfl rfl rfl rfl
      refine V2_zreturn d_Car_canBecome_51 rfl (by decide) ?_
      refine V2.to (st' := [.int (0 : Int32)]) ?_ rfl rfl rfl rfl
      refine V2_if_ne (tgt := 14) d_P_car_5 rfl (fun c => (by first | exact absurd c (by decide) | exact absurd (by decide) c)) (fun _ => ?_)
      refine V2_aload_n (i := 0) d_P_car_8 rfl rfl ?_
      refine V2_iconst (v := 1) d_P_car_9 rfl ?_
      refine V2_callV [.int (1 : Int32)] d_P_car_10 rfl rfl lk_P_66 mo_P_fails (by decide) rfl rfl rfl (Nat.le_of_ble_eq_true rfl) (Nat.le_of_ble_eq_true rfl) ?_
      refine c_P_fails1 ?_
      refine V2_topi (fun v4 ev4 => ?_)
      refine V2_ireturn d_P_car_13 rfl ?_
      have hb : ¬ (0 ≤ v ∧ v ≤ 99) := (by clear hQ; (try (subst ev4)); (try simp only [xb_eq, xb_ne, Int32.lt_iff_toInt_lt, Int32.le_iff_toInt_le] at *); omega)
      have e : k_car F 1 v = (-1000000000 - 1, errF F 1) := by unfold k_car; rw [if_neg (fun h => absurd h.1 (by decide)), if_neg (fun h => hb h.2), if_neg (fun h => absurd h.1 (by decide)), if_neg (fun h => absurd h.1 (by decide)), if_neg (fun h => absurd h.1 (by decide))]
      rw [e] at hQ
      subst ev4
      exact xQi (hQ _ (mid_err hR (by decide))) rfl rfl
    · refine V2_iconst (v := 1) d_P_within_10 rfl ?_
      refine V2_goto (tgt := 15) d_P_within_11 rfl ?_
      refine V2_zreturn d_P_within_15 rfl (by decide) ?_
      refine V2.to (st' := [.int (1 : Int32)]) ?_ rfl rfl rfl rfl
      refine V2_zreturn d_Car_canBecome_51 rfl (by decide) ?_
      refine V2.to (st' := [.int (1 : Int32)]) ?_ rfl rfl rfl rfl
      refine V2_if_ne (tgt := 14) d_P_car_5 rfl (fun _ => ?_) (fun c => (by first | exact absurd c (by decide) | exact absurd (by decide) c))
      refine V2_aload_n (i := 0) d_P_car_14 rfl rfl ?_
      refine V2_getr (a := 1) d_P_car_15 fl_P_10 (by decide) rfl (by decide) rfl ?_
      refine V2_getr (a := 2) d_P_car_18 fl_P_93 (by decide) rfl (by decide) rfl ?_
      refine V2_iload_n (i := 1) d_P_car_21 rfl rfl ?_
      refine V2_callV [.int (1 : Int32)] d_P_car_22 rfl rfl lk_P_126 mo_Car_tells (by decide) rfl rfl rfl (Nat.le_of_ble_eq_true rfl) (Nat.le_of_ble_eq_true rfl) ?_
      refine V2.to (l' := [some (.ref 2), some (.int (1 : Int32))]) ?_ rfl rfl rfl rfl
      refine V2_iload_n (i := 1) d_Car_tells_0 rfl rfl ?_
      refine V2_tableIn (tgt := 45) (off := 44) d_Car_tells_1 (by decide) (by decide) (by decide) rfl ?_
      refine V2_aload_n (i := 0) d_Car_tells_45 rfl rfl ?_
      refine V2_get (v := F 2 1) d_Car_tells_46 fl_Car_13 (by decide) rfl (by decide) rfl rfl ?_
      refine V2_topi (fun v5 ev5 => ?_)
      refine V2_ireturn d_Car_tells_49 rfl ?_
      refine V2.to (st' := [.int v5]) ?_ rfl rfl rfl rfl
      refine V2_istore_n (i := 3) (l' := [some (.ref 0), some (.int (1 : Int32)), some (.int v), some (.int v5)]) d_P_car_25 rfl (xst_i (Nat.le_of_ble_eq_true rfl) rfl rfl) ?_
      refine V2_aload_n (i := 0) d_P_car_26 rfl rfl ?_
      refine V2_getr (a := 1) d_P_car_27 fl_P_10 (by decide) rfl (by decide) rfl ?_
      refine V2_getr (a := 2) d_P_car_30 fl_P_93 (by decide) rfl (by decide) rfl ?_
      refine V2_iload_n (i := 1) d_P_car_33 rfl rfl ?_
      refine V2_iload_n (i := 2) d_P_car_34 rfl rfl ?_
      refine V2_callV [.int (1 : Int32), .int v] d_P_car_35 rfl rfl lk_P_129 mo_Car_alter (by decide) rfl rfl rfl (Nat.le_of_ble_eq_true rfl) (Nat.le_of_ble_eq_true rfl) ?_
      refine V2.to (l' := [some (.ref 2), some (.int (1 : Int32)), some (.int v)]) ?_ rfl rfl rfl rfl
      refine V2_iload_n (i := 1) d_Car_alter_0 rfl rfl ?_
      refine V2_tableIn (tgt := 44) (off := 43) d_Car_alter_1 (by decide) (by decide) (by decide) rfl ?_
      refine V2_aload_n (i := 0) d_Car_alter_44 rfl rfl ?_
      refine V2_iload_n (i := 2) d_Car_alter_45 rfl rfl ?_
      refine V2_put d_Car_alter_46 fl_Car_13 (by decide) rfl (by decide) rfl ?_
      refine V2_goto (tgt := 76) d_Car_alter_49 rfl ?_
      refine V2_return d_Car_alter_76 rfl ?_
      refine V2.to (st' := []) ?_ rfl rfl rfl rfl
      refine V2_iload_n (i := 3) d_P_car_38 rfl rfl ?_
      refine V2_ireturn d_P_car_39 rfl ?_
      have hb : 0 ≤ v ∧ v ≤ 99 := (by clear hQ; (try (subst ev5)); (try simp only [xb_eq, xb_ne, Int32.lt_iff_toInt_lt, Int32.le_iff_toInt_le] at *); omega)
      have e : k_car F 1 v = (F 66 1, xrw F 66 (upd (F 66) 1 v)) := by unfold k_car; rw [if_neg (fun h => absurd h.1 (by decide)), if_pos ⟨rfl, hb⟩]
      rw [e] at hQ
      subst ev5
      exact xQi (hQ (xrw F 2 (upd (F 2) 1 v)) (mid_low hR (relCr_upd hR.1.1.1 (by decide)) rfl (fun j hj => if_neg (by omega)))) (hR.1.1.1.2.1) (xp_row F 2 1 v)
theorem c_mod_car1 {L : Nat} {xs : Nat → Int32} {d : Nat} {Q : Option Value → xF → Prop} {F : xF} {v : Int32} {F0 : xF} (hR : Rel F0) (hM : Mid F0 F (k_car F0 1 v).2) (hQ : ∀ F2, Rel F2 → Q (some (.int (k_car F0 1 v).1)) F2) : V2 L xs (d + 2) m_R_car 0 (xEntry [.ref 65, .int (1 : Int32), .int v] 3) [] F Q := by
  have q0 : (0 : Int32).toInt = 0 := by decide
  have q1 : (1 : Int32).toInt = 1 := by decide
  have q2 : (2 : Int32).toInt = 2 := by decide
  have q3 : (3 : Int32).toInt = 3 := by decide
  have q4 : (4 : Int32).toInt = 4 := by decide
  have q5 : (5 : Int32).toInt = 5 := by decide
  have q6 : (6 : Int32).toInt = 6 := by decide
  have q7 : (7 : Int32).toInt = 7 := by decide
  have q9 : (9 : Int32).toInt = 9 := by decide
  have q20 : (20 : Int32).toInt = 20 := by decide
  have q30 : (30 : Int32).toInt = 30 := by decide
  have q60 : (60 : Int32).toInt = 60 := by decide
  have q99 : (99 : Int32).toInt = 99 := by decide
  refine V2.to (l' := [some (.ref 65), some (.int (1 : Int32)), some (.int v)]) ?_ rfl rfl rfl rfl
  refine V2_iload_n (i := 1) d_R_car_0 rfl rfl ?_
  refine V2_iconst (v := 0) d_R_car_1 rfl ?_
  refine V2_iconst (v := 4) d_R_car_2 rfl ?_
  refine V2_callS [.int (1 : Int32), .int (0 : Int32), .int (4 : Int32)] d_R_car_3 rfl rfl lk_R_51 mo_R_in (Nat.le_of_ble_eq_true rfl) (Nat.le_of_ble_eq_true rfl) ?_
  refine c_R_in ?_
  refine V2_topi (fun v1 ev1 => ?_)
  refine V2_if_eq (tgt := 26) d_R_car_6 rfl (fun c2 => ?_) (fun c2 => ?_)
  · refine V2_aload_n (i := 0) d_R_car_26 rfl rfl ?_
    refine V2_iconst (v := 1) d_R_car_27 rfl ?_
    refine V2_callV [.int (1 : Int32)] d_R_car_28 rfl rfl lk_R_55 mo_R_error (by decide) rfl rfl rfl (Nat.le_of_ble_eq_true rfl) (Nat.le_of_ble_eq_true rfl) ?_
    refine c_R_error1 ?_
    refine V2_topi (fun v3 ev3 => ?_)
    refine V2_ireturn d_R_car_31 rfl ?_
    have hb : ¬ (0 ≤ v ∧ v ≤ 99) := (by clear hQ; (try (subst ev3 ev1)); (try simp only [xb_eq, xb_ne, Int32.lt_iff_toInt_lt, Int32.le_iff_toInt_le] at *); omega)
    have e : k_car F0 1 v = (-1000000000 - 1, errF F0 1) := by unfold k_car; rw [if_neg (fun h => absurd h.1 (by decide)), if_neg (fun h => hb h.2), if_neg (fun h => absurd h.1 (by decide)), if_neg (fun h => absurd h.1 (by decide)), if_neg (fun h => absurd h.1 (by decide))]
    rw [e] at hQ hM
    subst ev3 ev1
    exact xQi (hQ _ (rel_err hR hM)) rfl rfl
  · refine V2_iload_n (i := 1) d_R_car_9 rfl rfl ?_
    refine V2_iload_n (i := 2) d_R_car_10 rfl rfl ?_
    refine V2_callS [.int (1 : Int32), .int v] d_R_car_11 rfl rfl lk_R_177 mo_R_isOfCar (Nat.le_of_ble_eq_true rfl) (Nat.le_of_ble_eq_true rfl) ?_
    refine V2.to (l' := [some (.int (1 : Int32)), some (.int v)]) ?_ rfl rfl rfl rfl
    refine V2_iload_n (i := 1) d_R_isOfCar_0 rfl rfl ?_
    refine V2_iload_n (i := 0) d_R_isOfCar_1 rfl rfl ?_
    refine V2_if_ne (tgt := 9) d_R_isOfCar_2 rfl (fun _ => ?_) (fun c => (by first | exact absurd c (by decide) | exact absurd (by decide) c))
    refine V2_iconst (v := 0) d_R_isOfCar_9 rfl ?_
    refine V2_iload_n (i := 0) d_R_isOfCar_10 rfl rfl ?_
    refine V2_if_ne (tgt := 19) d_R_isOfCar_11 rfl (fun _ => ?_) (fun c => (by first | exact absurd c (by decide) | exact absurd (by decide) c))
    refine V2_iload_n (i := 0) d_R_isOfCar_19 rfl rfl ?_
    refine V2_iconst (v := 3) d_R_isOfCar_20 rfl ?_
    refine V2_icmp_ne (tgt := 28) d_R_isOfCar_21 rfl (fun _ => ?_) (fun c => (by first | exact absurd c (by decide) | exact absurd (by decide) c))
    refine V2_bipush (v := 99) d_R_isOfCar_28 rfl ?_
    refine V2_callS [.int v, .int (0 : Int32), .int (99 : Int32)] d_R_isOfCar_30 rfl rfl lk_R_51 mo_R_in (Nat.le_of_ble_eq_true rfl) (Nat.le_of_ble_eq_true rfl) ?_
    refine c_R_in ?_
    refine V2_topi (fun v4 ev4 => ?_)
    refine V2_zreturn d_R_isOfCar_33 rfl (by rw [ev4]; exact xb_01) ?_
    refine V2.to (st' := [.int v4]) ?_ rfl rfl rfl rfl
    refine V2_if_eq (tgt := 26) d_R_car_14 rfl (fun c5 => ?_) (fun c5 => ?_)
    · refine V2_aload_n (i := 0) d_R_car_26 rfl rfl ?_
      refine V2_iconst (v := 1) d_R_car_27 rfl ?_
      refine V2_callV [.int (1 : Int32)] d_R_car_28 rfl rfl lk_R_55 mo_R_error (by decide) rfl rfl rfl (Nat.le_of_ble_eq_true rfl) (Nat.le_of_ble_eq_true rfl) ?_
      refine c_R_error1 ?_
      refine V2_topi (fun v6 ev6 => ?_)
      refine V2_ireturn d_R_car_31 rfl ?_
      have hb : ¬ (0 ≤ v ∧ v ≤ 99) := (by clear hQ; (try (subst ev6 ev4 ev1)); (try simp only [xb_eq, xb_ne, Int32.lt_iff_toInt_lt, Int32.le_iff_toInt_le] at *); omega)
      have e : k_car F0 1 v = (-1000000000 - 1, errF F0 1) := by unfold k_car; rw [if_neg (fun h => absurd h.1 (by decide)), if_neg (fun h => hb h.2), if_neg (fun h => absurd h.1 (by decide)), if_neg (fun h => absurd h.1 (by decide)), if_neg (fun h => absurd h.1 (by decide))]
      rw [e] at hQ hM
      subst ev6 ev4 ev1
      exact xQi (hQ _ (rel_err hR hM)) rfl rfl
    · refine V2_aload_n (i := 0) d_R_car_17 rfl rfl ?_
      refine V2_iload_n (i := 1) d_R_car_18 rfl rfl ?_
      refine V2_iload_n (i := 2) d_R_car_19 rfl rfl ?_
      refine V2_callV [.int (1 : Int32), .int v] d_R_car_20 rfl rfl lk_R_171 mo_R_change1 (by decide) rfl rfl rfl (Nat.le_of_ble_eq_true rfl) (Nat.le_of_ble_eq_true rfl) ?_
      refine V2.to (l' := [some (.ref 65), some (.int (1 : Int32)), some (.int v), none]) ?_ rfl rfl rfl rfl
      refine V2_aload_n (i := 0) d_R_change1_0 rfl rfl ?_
      refine V2_getr (a := 66) d_R_change1_1 fl_R_7 (by decide) rfl (by decide) rfl ?_
      refine V2_iload_n (i := 1) d_R_change1_4 rfl rfl ?_
      refine V2_iaload (v := F 66 1) d_R_change1_5 (by decide) rfl (xixA (n := 1) rfl (by decide) (by decide)) rfl ?_
      refine V2_topi (fun v7 ev7 => ?_)
      refine V2_istore_n (i := 3) (l' := [some (.ref 65), some (.int (1 : Int32)), some (.int v), some (.int v7)]) d_R_change1_6 rfl (xst_i (Nat.le_of_ble_eq_true rfl) rfl rfl) ?_
      refine V2_aload_n (i := 0) d_R_change1_7 rfl rfl ?_
      refine V2_getr (a := 66) d_R_change1_8 fl_R_7 (by decide) rfl (by decide) rfl ?_
      refine V2_iload_n (i := 1) d_R_change1_11 rfl rfl ?_
      refine V2_iload_n (i := 2) d_R_change1_12 rfl rfl ?_
      refine V2_iastore (j := 1) d_R_change1_13 (by decide) rfl (xixA (n := 1) rfl (by decide) (by decide)) rfl ?_
      refine V2_iload_n (i := 3) d_R_change1_14 rfl rfl ?_
      refine V2_ireturn d_R_change1_15 rfl ?_
      refine V2.to (st' := [.int v7]) ?_ rfl rfl rfl rfl
      refine V2_goto (tgt := 31) d_R_car_23 rfl ?_
      refine V2_ireturn d_R_car_31 rfl ?_
      have hb : 0 ≤ v ∧ v ≤ 99 := (by clear hQ; (try (subst ev7 ev4 ev1)); (try simp only [xb_eq, xb_ne, Int32.lt_iff_toInt_lt, Int32.le_iff_toInt_le] at *); omega)
      have e : k_car F0 1 v = (F0 66 1, xrw F0 66 (upd (F0 66) 1 v)) := by unfold k_car; rw [if_neg (fun h => absurd h.1 (by decide)), if_pos ⟨rfl, hb⟩]
      rw [e] at hQ hM
      subst ev7 ev4 ev1
      exact xQi (hQ (xrw F 66 (upd (F0 66) 1 v)) (rel_low hR hM (invC_upd1 hR.2.1.1 hb) hR.2.1.2.1 (fun j hj => if_neg (by omega)))) (congrFun (hM.1 66 (by decide)) 1) (by rw [xp_row, hM.1 66 (by decide)])
theorem c_cls_car2 {L : Nat} {xs : Nat → Int32} {d : Nat} {Q : Option Value → xF → Prop} {F : xF} {v : Int32} (hR : Rel F) (hQ : ∀ F1, Mid F F1 (k_car F 2 v).2 → Q (some (.int (k_car F 2 v).1)) F1) : V2 L xs (d + 2) m_P_car 0 (xEntry [.ref 0, .int (2 : Int32), .int v] 4) [] F Q := by
  have q0 : (0 : Int32).toInt = 0 := by decide
  have q1 : (1 : Int32).toInt = 1 := by decide
  have q2 : (2 : Int32).toInt = 2 := by decide
  have q3 : (3 : Int32).toInt = 3 := by decide
  have q4 : (4 : Int32).toInt = 4 := by decide
  have q5 : (5 : Int32).toInt = 5 := by decide
  have q6 : (6 : Int32).toInt = 6 := by decide
  have q7 : (7 : Int32).toInt = 7 := by decide
  have q9 : (9 : Int32).toInt = 9 := by decide
  have q20 : (20 : Int32).toInt = 20 := by decide
  have q30 : (30 : Int32).toInt = 30 := by decide
  have q60 : (60 : Int32).toInt = 60 := by decide
  have q99 : (99 : Int32).toInt = 99 := by decide
  refine V2.to (l' := [some (.ref 0), some (.int (2 : Int32)), some (.int v), none]) ?_ rfl rfl rfl rfl
  refine V2_iload_n (i := 1) d_P_car_0 rfl rfl ?_
  refine V2_iload_n (i := 2) d_P_car_1 rfl rfl ?_
  refine V2_callS [.int (2 : Int32), .int v] d_P_car_2 rfl rfl lk_P_123 mo_Car_canBecome (Nat.le_of_ble_eq_true rfl) (Nat.le_of_ble_eq_true rfl) ?_
  refine V2.to (l' := [some (.int (2 : Int32)), some (.int v)]) ?_ rfl rfl rfl rfl
  refine V2_iload_n (i := 0) d_Car_canBecome_0 rfl rfl ?_
  refine V2_tableIn (tgt := 44) (off := 43) d_Car_canBecome_1 (by decide) (by decide) (by decide) rfl ?_
  refine V2_iload_n (i := 1) d_Car_canBecome_44 rfl rfl ?_
  refine V2_iconst (v := 0) d_Car_canBecome_45 rfl ?_
  refine V2_bipush (v := 99) d_Car_canBecome_46 rfl ?_
  refine V2_callS [.int v, .int (0 : Int32), .int (99 : Int32)] d_Car_canBecome_48 rfl rfl lk_Car_35 mo_P_within (Nat.le_of_ble_eq_true rfl) (Nat.le_of_ble_eq_true rfl) ?_
  refine V2.to (l' := [some (.int v), some (.int (0 : Int32)), some (.int (99 : Int32))]) ?_ rfl rfl rfl rfl
  refine V2_iload_n (i := 0) d_P_within_0 rfl rfl ?_
  refine V2_iload_n (i := 1) d_P_within_1 rfl rfl ?_
  refine V2_icmp_lt (tgt := 14) d_P_within_2 rfl (fun c1 => ?_) (fun c1 => ?_)
  · refine V2_iconst (v := 0) d_P_within_14 rfl ?_
    refine V2_zreturn d_P_within_15 rfl (by decide) ?_
    refine V2.to (st' := [.int (0 : Int32)]) ?_ rfl rfl rfl rfl
    refine V2_zreturn d_Car_canBecome_51 rfl (by decide) ?_
    refine V2.to (st' := [.int (0 : Int32)]) ?_ rfl rfl rfl rfl
    refine V2_if_ne (tgt := 14) d_P_car_5 rfl (fun c => (by first | exact absurd c (by decide) | exact absurd (by decide) c)) (fun _ => ?_)
    refine V2_aload_n (i := 0) d_P_car_8 rfl rfl ?_
    refine V2_iconst (v := 1) d_P_car_9 rfl ?_
    refine V2_callV [.int (1 : Int32)] d_P_car_10 rfl rfl lk_P_66 mo_P_fails (by decide) rfl rfl rfl (Nat.le_of_ble_eq_true rfl) (Nat.le_of_ble_eq_true rfl) ?_
    refine c_P_fails1 ?_
    refine V2_topi (fun v2 ev2 => ?_)
    refine V2_ireturn d_P_car_13 rfl ?_
    have hb : ¬ (0 ≤ v ∧ v ≤ 99) := (by clear hQ; (try (subst ev2)); (try simp only [xb_eq, xb_ne, Int32.lt_iff_toInt_lt, Int32.le_iff_toInt_le] at *); omega)
    have e : k_car F 2 v = (-1000000000 - 1, errF F 1) := by unfold k_car; rw [if_neg (fun h => absurd h.1 (by decide)), if_neg (fun h => absurd h.1 (by decide)), if_neg (fun h => hb h.2), if_neg (fun h => absurd h.1 (by decide)), if_neg (fun h => absurd h.1 (by decide))]
    rw [e] at hQ
    subst ev2
    exact xQi (hQ _ (mid_err hR (by decide))) rfl rfl
  · refine V2_iload_n (i := 0) d_P_within_5 rfl rfl ?_
    refine V2_iload_n (i := 2) d_P_within_6 rfl rfl ?_
    refine V2_icmp_gt (tgt := 14) d_P_within_7 rfl (fun c3 => ?_) (fun c3 => ?_)
    · refine V2_iconst (v := 0) d_P_within_14 rfl ?_
      refine V2_zreturn d_P_within_15 rfl (by decide) ?_
      refine V2.to (st' := [.int (0 : Int32)]) ?_ rfl rfl rfl rfl
      refine V2_zreturn d_Car_canBecome_51 rfl (by decide) ?_
      refine V2.to (st' := [.int (0 : Int32)]) ?_ rfl rfl rfl rfl
      refine V2_if_ne (tgt := 14) d_P_car_5 rfl (fun c => (by first | exact absurd c (by decide) | exact absurd (by decide) c)) (fun _ => ?_)
      refine V2_aload_n (i := 0) d_P_car_8 rfl rfl ?_
      refine V2_iconst (v := 1) d_P_car_9 rfl ?_
      refine V2_callV [.int (1 : Int32)] d_P_car_10 rfl rfl lk_P_66 mo_P_fails (by decide) rfl rfl rfl (Nat.le_of_ble_eq_true rfl) (Nat.le_of_ble_eq_true rfl) ?_
      refine c_P_fails1 ?_
      refine V2_topi (fun v4 ev4 => ?_)
      refine V2_ireturn d_P_car_13 rfl ?_
      have hb : ¬ (0 ≤ v ∧ v ≤ 99) := (by clear hQ; (try (subst ev4)); (try simp only [xb_eq, xb_ne, Int32.lt_iff_toInt_lt, Int32.le_iff_toInt_le] at *); omega)
      have e : k_car F 2 v = (-1000000000 - 1, errF F 1) := by unfold k_car; rw [if_neg (fun h => absurd h.1 (by decide)), if_neg (fun h => absurd h.1 (by decide)), if_neg (fun h => hb h.2), if_neg (fun h => absurd h.1 (by decide)), if_neg (fun h => absurd h.1 (by decide))]
      rw [e] at hQ
      subst ev4
      exact xQi (hQ _ (mid_err hR (by decide))) rfl rfl
    · refine V2_iconst (v := 1) d_P_within_10 rfl ?_
      refine V2_goto (tgt := 15) d_P_within_11 rfl ?_
      refine V2_zreturn d_P_within_15 rfl (by decide) ?_
      refine V2.to (st' := [.int (1 : Int32)]) ?_ rfl rfl rfl rfl
      refine V2_zreturn d_Car_canBecome_51 rfl (by decide) ?_
      refine V2.to (st' := [.int (1 : Int32)]) ?_ rfl rfl rfl rfl
      refine V2_if_ne (tgt := 14) d_P_car_5 rfl (fun _ => ?_) (fun c => (by first | exact absurd c (by decide) | exact absurd (by decide) c))
      refine V2_aload_n (i := 0) d_P_car_14 rfl rfl ?_
      refine V2_getr (a := 1) d_P_car_15 fl_P_10 (by decide) rfl (by decide) rfl ?_
      refine V2_getr (a := 2) d_P_car_18 fl_P_93 (by decide) rfl (by decide) rfl ?_
      refine V2_iload_n (i := 1) d_P_car_21 rfl rfl ?_
      refine V2_callV [.int (2 : Int32)] d_P_car_22 rfl rfl lk_P_126 mo_Car_tells (by decide) rfl rfl rfl (Nat.le_of_ble_eq_true rfl) (Nat.le_of_ble_eq_true rfl) ?_
      refine V2.to (l' := [some (.ref 2), some (.int (2 : Int32))]) ?_ rfl rfl rfl rfl
      refine V2_iload_n (i := 1) d_Car_tells_0 rfl rfl ?_
      refine V2_tableIn (tgt := 50) (off := 49) d_Car_tells_1 (by decide) (by decide) (by decide) rfl ?_
      refine V2_aload_n (i := 0) d_Car_tells_50 rfl rfl ?_
      refine V2_get (v := F 2 2) d_Car_tells_51 fl_Car_16 (by decide) rfl (by decide) rfl rfl ?_
      refine V2_topi (fun v5 ev5 => ?_)
      refine V2_ireturn d_Car_tells_54 rfl ?_
      refine V2.to (st' := [.int v5]) ?_ rfl rfl rfl rfl
      refine V2_istore_n (i := 3) (l' := [some (.ref 0), some (.int (2 : Int32)), some (.int v), some (.int v5)]) d_P_car_25 rfl (xst_i (Nat.le_of_ble_eq_true rfl) rfl rfl) ?_
      refine V2_aload_n (i := 0) d_P_car_26 rfl rfl ?_
      refine V2_getr (a := 1) d_P_car_27 fl_P_10 (by decide) rfl (by decide) rfl ?_
      refine V2_getr (a := 2) d_P_car_30 fl_P_93 (by decide) rfl (by decide) rfl ?_
      refine V2_iload_n (i := 1) d_P_car_33 rfl rfl ?_
      refine V2_iload_n (i := 2) d_P_car_34 rfl rfl ?_
      refine V2_callV [.int (2 : Int32), .int v] d_P_car_35 rfl rfl lk_P_129 mo_Car_alter (by decide) rfl rfl rfl (Nat.le_of_ble_eq_true rfl) (Nat.le_of_ble_eq_true rfl) ?_
      refine V2.to (l' := [some (.ref 2), some (.int (2 : Int32)), some (.int v)]) ?_ rfl rfl rfl rfl
      refine V2_iload_n (i := 1) d_Car_alter_0 rfl rfl ?_
      refine V2_tableIn (tgt := 52) (off := 51) d_Car_alter_1 (by decide) (by decide) (by decide) rfl ?_
      refine V2_aload_n (i := 0) d_Car_alter_52 rfl rfl ?_
      refine V2_iload_n (i := 2) d_Car_alter_53 rfl rfl ?_
      refine V2_put d_Car_alter_54 fl_Car_16 (by decide) rfl (by decide) rfl ?_
      refine V2_goto (tgt := 76) d_Car_alter_57 rfl ?_
      refine V2_return d_Car_alter_76 rfl ?_
      refine V2.to (st' := []) ?_ rfl rfl rfl rfl
      refine V2_iload_n (i := 3) d_P_car_38 rfl rfl ?_
      refine V2_ireturn d_P_car_39 rfl ?_
      have hb : 0 ≤ v ∧ v ≤ 99 := (by clear hQ; (try (subst ev5)); (try simp only [xb_eq, xb_ne, Int32.lt_iff_toInt_lt, Int32.le_iff_toInt_le] at *); omega)
      have e : k_car F 2 v = (F 66 2, xrw F 66 (upd (F 66) 2 v)) := by unfold k_car; rw [if_neg (fun h => absurd h.1 (by decide)), if_neg (fun h => absurd h.1 (by decide)), if_pos ⟨rfl, hb⟩]
      rw [e] at hQ
      subst ev5
      exact xQi (hQ (xrw F 2 (upd (F 2) 2 v)) (mid_low hR (relCr_upd hR.1.1.1 (by decide)) rfl (fun j hj => if_neg (by omega)))) (hR.1.1.1.2.2.1) (xp_row F 2 2 v)
theorem c_mod_car2 {L : Nat} {xs : Nat → Int32} {d : Nat} {Q : Option Value → xF → Prop} {F : xF} {v : Int32} {F0 : xF} (hR : Rel F0) (hM : Mid F0 F (k_car F0 2 v).2) (hQ : ∀ F2, Rel F2 → Q (some (.int (k_car F0 2 v).1)) F2) : V2 L xs (d + 2) m_R_car 0 (xEntry [.ref 65, .int (2 : Int32), .int v] 3) [] F Q := by
  have q0 : (0 : Int32).toInt = 0 := by decide
  have q1 : (1 : Int32).toInt = 1 := by decide
  have q2 : (2 : Int32).toInt = 2 := by decide
  have q3 : (3 : Int32).toInt = 3 := by decide
  have q4 : (4 : Int32).toInt = 4 := by decide
  have q5 : (5 : Int32).toInt = 5 := by decide
  have q6 : (6 : Int32).toInt = 6 := by decide
  have q7 : (7 : Int32).toInt = 7 := by decide
  have q9 : (9 : Int32).toInt = 9 := by decide
  have q20 : (20 : Int32).toInt = 20 := by decide
  have q30 : (30 : Int32).toInt = 30 := by decide
  have q60 : (60 : Int32).toInt = 60 := by decide
  have q99 : (99 : Int32).toInt = 99 := by decide
  refine V2.to (l' := [some (.ref 65), some (.int (2 : Int32)), some (.int v)]) ?_ rfl rfl rfl rfl
  refine V2_iload_n (i := 1) d_R_car_0 rfl rfl ?_
  refine V2_iconst (v := 0) d_R_car_1 rfl ?_
  refine V2_iconst (v := 4) d_R_car_2 rfl ?_
  refine V2_callS [.int (2 : Int32), .int (0 : Int32), .int (4 : Int32)] d_R_car_3 rfl rfl lk_R_51 mo_R_in (Nat.le_of_ble_eq_true rfl) (Nat.le_of_ble_eq_true rfl) ?_
  refine c_R_in ?_
  refine V2_topi (fun v1 ev1 => ?_)
  refine V2_if_eq (tgt := 26) d_R_car_6 rfl (fun c2 => ?_) (fun c2 => ?_)
  · refine V2_aload_n (i := 0) d_R_car_26 rfl rfl ?_
    refine V2_iconst (v := 1) d_R_car_27 rfl ?_
    refine V2_callV [.int (1 : Int32)] d_R_car_28 rfl rfl lk_R_55 mo_R_error (by decide) rfl rfl rfl (Nat.le_of_ble_eq_true rfl) (Nat.le_of_ble_eq_true rfl) ?_
    refine c_R_error1 ?_
    refine V2_topi (fun v3 ev3 => ?_)
    refine V2_ireturn d_R_car_31 rfl ?_
    have hb : ¬ (0 ≤ v ∧ v ≤ 99) := (by clear hQ; (try (subst ev3 ev1)); (try simp only [xb_eq, xb_ne, Int32.lt_iff_toInt_lt, Int32.le_iff_toInt_le] at *); omega)
    have e : k_car F0 2 v = (-1000000000 - 1, errF F0 1) := by unfold k_car; rw [if_neg (fun h => absurd h.1 (by decide)), if_neg (fun h => absurd h.1 (by decide)), if_neg (fun h => hb h.2), if_neg (fun h => absurd h.1 (by decide)), if_neg (fun h => absurd h.1 (by decide))]
    rw [e] at hQ hM
    subst ev3 ev1
    exact xQi (hQ _ (rel_err hR hM)) rfl rfl
  · refine V2_iload_n (i := 1) d_R_car_9 rfl rfl ?_
    refine V2_iload_n (i := 2) d_R_car_10 rfl rfl ?_
    refine V2_callS [.int (2 : Int32), .int v] d_R_car_11 rfl rfl lk_R_177 mo_R_isOfCar (Nat.le_of_ble_eq_true rfl) (Nat.le_of_ble_eq_true rfl) ?_
    refine V2.to (l' := [some (.int (2 : Int32)), some (.int v)]) ?_ rfl rfl rfl rfl
    refine V2_iload_n (i := 1) d_R_isOfCar_0 rfl rfl ?_
    refine V2_iload_n (i := 0) d_R_isOfCar_1 rfl rfl ?_
    refine V2_if_ne (tgt := 9) d_R_isOfCar_2 rfl (fun _ => ?_) (fun c => (by first | exact absurd c (by decide) | exact absurd (by decide) c))
    refine V2_iconst (v := 0) d_R_isOfCar_9 rfl ?_
    refine V2_iload_n (i := 0) d_R_isOfCar_10 rfl rfl ?_
    refine V2_if_ne (tgt := 19) d_R_isOfCar_11 rfl (fun _ => ?_) (fun c => (by first | exact absurd c (by decide) | exact absurd (by decide) c))
    refine V2_iload_n (i := 0) d_R_isOfCar_19 rfl rfl ?_
    refine V2_iconst (v := 3) d_R_isOfCar_20 rfl ?_
    refine V2_icmp_ne (tgt := 28) d_R_isOfCar_21 rfl (fun _ => ?_) (fun c => (by first | exact absurd c (by decide) | exact absurd (by decide) c))
    refine V2_bipush (v := 99) d_R_isOfCar_28 rfl ?_
    refine V2_callS [.int v, .int (0 : Int32), .int (99 : Int32)] d_R_isOfCar_30 rfl rfl lk_R_51 mo_R_in (Nat.le_of_ble_eq_true rfl) (Nat.le_of_ble_eq_true rfl) ?_
    refine c_R_in ?_
    refine V2_topi (fun v4 ev4 => ?_)
    refine V2_zreturn d_R_isOfCar_33 rfl (by rw [ev4]; exact xb_01) ?_
    refine V2.to (st' := [.int v4]) ?_ rfl rfl rfl rfl
    refine V2_if_eq (tgt := 26) d_R_car_14 rfl (fun c5 => ?_) (fun c5 => ?_)
    · refine V2_aload_n (i := 0) d_R_car_26 rfl rfl ?_
      refine V2_iconst (v := 1) d_R_car_27 rfl ?_
      refine V2_callV [.int (1 : Int32)] d_R_car_28 rfl rfl lk_R_55 mo_R_error (by decide) rfl rfl rfl (Nat.le_of_ble_eq_true rfl) (Nat.le_of_ble_eq_true rfl) ?_
      refine c_R_error1 ?_
      refine V2_topi (fun v6 ev6 => ?_)
      refine V2_ireturn d_R_car_31 rfl ?_
      have hb : ¬ (0 ≤ v ∧ v ≤ 99) := (by clear hQ; (try (subst ev6 ev4 ev1)); (try simp only [xb_eq, xb_ne, Int32.lt_iff_toInt_lt, Int32.le_iff_toInt_le] at *); omega)
      have e : k_car F0 2 v = (-1000000000 - 1, errF F0 1) := by unfold k_car; rw [if_neg (fun h => absurd h.1 (by decide)), if_neg (fun h => absurd h.1 (by decide)), if_neg (fun h => hb h.2), if_neg (fun h => absurd h.1 (by decide)), if_neg (fun h => absurd h.1 (by decide))]
      rw [e] at hQ hM
      subst ev6 ev4 ev1
      exact xQi (hQ _ (rel_err hR hM)) rfl rfl
    · refine V2_aload_n (i := 0) d_R_car_17 rfl rfl ?_
      refine V2_iload_n (i := 1) d_R_car_18 rfl rfl ?_
      refine V2_iload_n (i := 2) d_R_car_19 rfl rfl ?_
      refine V2_callV [.int (2 : Int32), .int v] d_R_car_20 rfl rfl lk_R_171 mo_R_change1 (by decide) rfl rfl rfl (Nat.le_of_ble_eq_true rfl) (Nat.le_of_ble_eq_true rfl) ?_
      refine V2.to (l' := [some (.ref 65), some (.int (2 : Int32)), some (.int v), none]) ?_ rfl rfl rfl rfl
      refine V2_aload_n (i := 0) d_R_change1_0 rfl rfl ?_
      refine V2_getr (a := 66) d_R_change1_1 fl_R_7 (by decide) rfl (by decide) rfl ?_
      refine V2_iload_n (i := 1) d_R_change1_4 rfl rfl ?_
      refine V2_iaload (v := F 66 2) d_R_change1_5 (by decide) rfl (xixA (n := 2) rfl (by decide) (by decide)) rfl ?_
      refine V2_topi (fun v7 ev7 => ?_)
      refine V2_istore_n (i := 3) (l' := [some (.ref 65), some (.int (2 : Int32)), some (.int v), some (.int v7)]) d_R_change1_6 rfl (xst_i (Nat.le_of_ble_eq_true rfl) rfl rfl) ?_
      refine V2_aload_n (i := 0) d_R_change1_7 rfl rfl ?_
      refine V2_getr (a := 66) d_R_change1_8 fl_R_7 (by decide) rfl (by decide) rfl ?_
      refine V2_iload_n (i := 1) d_R_change1_11 rfl rfl ?_
      refine V2_iload_n (i := 2) d_R_change1_12 rfl rfl ?_
      refine V2_iastore (j := 2) d_R_change1_13 (by decide) rfl (xixA (n := 2) rfl (by decide) (by decide)) rfl ?_
      refine V2_iload_n (i := 3) d_R_change1_14 rfl rfl ?_
      refine V2_ireturn d_R_change1_15 rfl ?_
      refine V2.to (st' := [.int v7]) ?_ rfl rfl rfl rfl
      refine V2_goto (tgt := 31) d_R_car_23 rfl ?_
      refine V2_ireturn d_R_car_31 rfl ?_
      have hb : 0 ≤ v ∧ v ≤ 99 := (by clear hQ; (try (subst ev7 ev4 ev1)); (try simp only [xb_eq, xb_ne, Int32.lt_iff_toInt_lt, Int32.le_iff_toInt_le] at *); omega)
      have e : k_car F0 2 v = (F0 66 2, xrw F0 66 (upd (F0 66) 2 v)) := by unfold k_car; rw [if_neg (fun h => absurd h.1 (by decide)), if_neg (fun h => absurd h.1 (by decide)), if_pos ⟨rfl, hb⟩]
      rw [e] at hQ hM
      subst ev7 ev4 ev1
      exact xQi (hQ (xrw F 66 (upd (F0 66) 2 v)) (rel_low hR hM (invC_upd2 hR.2.1.1 hb) hR.2.1.2.1 (fun j hj => if_neg (by omega)))) (congrFun (hM.1 66 (by decide)) 2) (by rw [xp_row, hM.1 66 (by decide)])
theorem c_cls_car3 {L : Nat} {xs : Nat → Int32} {d : Nat} {Q : Option Value → xF → Prop} {F : xF} {v : Int32} (hR : Rel F) (hQ : ∀ F1, Mid F F1 (k_car F 3 v).2 → Q (some (.int (k_car F 3 v).1)) F1) : V2 L xs (d + 2) m_P_car 0 (xEntry [.ref 0, .int (3 : Int32), .int v] 4) [] F Q := by
  have q0 : (0 : Int32).toInt = 0 := by decide
  have q1 : (1 : Int32).toInt = 1 := by decide
  have q2 : (2 : Int32).toInt = 2 := by decide
  have q3 : (3 : Int32).toInt = 3 := by decide
  have q4 : (4 : Int32).toInt = 4 := by decide
  have q5 : (5 : Int32).toInt = 5 := by decide
  have q6 : (6 : Int32).toInt = 6 := by decide
  have q7 : (7 : Int32).toInt = 7 := by decide
  have q9 : (9 : Int32).toInt = 9 := by decide
  have q20 : (20 : Int32).toInt = 20 := by decide
  have q30 : (30 : Int32).toInt = 30 := by decide
  have q60 : (60 : Int32).toInt = 60 := by decide
  have q99 : (99 : Int32).toInt = 99 := by decide
  refine V2.to (l' := [some (.ref 0), some (.int (3 : Int32)), some (.int v), none]) ?_ rfl rfl rfl rfl
  refine V2_iload_n (i := 1) d_P_car_0 rfl rfl ?_
  refine V2_iload_n (i := 2) d_P_car_1 rfl rfl ?_
  refine V2_callS [.int (3 : Int32), .int v] d_P_car_2 rfl rfl lk_P_123 mo_Car_canBecome (Nat.le_of_ble_eq_true rfl) (Nat.le_of_ble_eq_true rfl) ?_
  refine V2.to (l' := [some (.int (3 : Int32)), some (.int v)]) ?_ rfl rfl rfl rfl
  refine V2_iload_n (i := 0) d_Car_canBecome_0 rfl rfl ?_
  refine V2_tableIn (tgt := 52) (off := 51) d_Car_canBecome_1 (by decide) (by decide) (by decide) rfl ?_
  refine V2_iload_n (i := 1) d_Car_canBecome_52 rfl rfl ?_
  refine V2_iconst (v := 0) d_Car_canBecome_53 rfl ?_
  refine V2_iconst (v := 1) d_Car_canBecome_54 rfl ?_
  refine V2_callS [.int v, .int (0 : Int32), .int (1 : Int32)] d_Car_canBecome_55 rfl rfl lk_Car_35 mo_P_within (Nat.le_of_ble_eq_true rfl) (Nat.le_of_ble_eq_true rfl) ?_
  refine V2.to (l' := [some (.int v), some (.int (0 : Int32)), some (.int (1 : Int32))]) ?_ rfl rfl rfl rfl
  refine V2_iload_n (i := 0) d_P_within_0 rfl rfl ?_
  refine V2_iload_n (i := 1) d_P_within_1 rfl rfl ?_
  refine V2_icmp_lt (tgt := 14) d_P_within_2 rfl (fun c1 => ?_) (fun c1 => ?_)
  · refine V2_iconst (v := 0) d_P_within_14 rfl ?_
    refine V2_zreturn d_P_within_15 rfl (by decide) ?_
    refine V2.to (st' := [.int (0 : Int32)]) ?_ rfl rfl rfl rfl
    refine V2_zreturn d_Car_canBecome_58 rfl (by decide) ?_
    refine V2.to (st' := [.int (0 : Int32)]) ?_ rfl rfl rfl rfl
    refine V2_if_ne (tgt := 14) d_P_car_5 rfl (fun c => (by first | exact absurd c (by decide) | exact absurd (by decide) c)) (fun _ => ?_)
    refine V2_aload_n (i := 0) d_P_car_8 rfl rfl ?_
    refine V2_iconst (v := 1) d_P_car_9 rfl ?_
    refine V2_callV [.int (1 : Int32)] d_P_car_10 rfl rfl lk_P_66 mo_P_fails (by decide) rfl rfl rfl (Nat.le_of_ble_eq_true rfl) (Nat.le_of_ble_eq_true rfl) ?_
    refine c_P_fails1 ?_
    refine V2_topi (fun v2 ev2 => ?_)
    refine V2_ireturn d_P_car_13 rfl ?_
    have hb : ¬ (0 ≤ v ∧ v ≤ 1) := (by clear hQ; (try (subst ev2)); (try simp only [xb_eq, xb_ne, Int32.lt_iff_toInt_lt, Int32.le_iff_toInt_le] at *); omega)
    have e : k_car F 3 v = (-1000000000 - 1, errF F 1) := by unfold k_car; rw [if_neg (fun h => absurd h.1 (by decide)), if_neg (fun h => absurd h.1 (by decide)), if_neg (fun h => absurd h.1 (by decide)), if_neg (fun h => hb h.2), if_neg (fun h => absurd h.1 (by decide))]
    rw [e] at hQ
    subst ev2
    exact xQi (hQ _ (mid_err hR (by decide))) rfl rfl
  · refine V2_iload_n (i := 0) d_P_within_5 rfl rfl ?_
    refine V2_iload_n (i := 2) d_P_within_6 rfl rfl ?_
    refine V2_icmp_gt (tgt := 14) d_P_within_7 rfl (fun c3 => ?_) (fun c3 => ?_)
    · refine V2_iconst (v := 0) d_P_within_14 rfl ?_
      refine V2_zreturn d_P_within_15 rfl (by decide) ?_
      refine V2.to (st' := [.int (0 : Int32)]) ?_ rfl rfl rfl rfl
      refine V2_zreturn d_Car_canBecome_58 rfl (by decide) ?_
      refine V2.to (st' := [.int (0 : Int32)]) ?_ rfl rfl rfl rfl
      refine V2_if_ne (tgt := 14) d_P_car_5 rfl (fun c => (by first | exact absurd c (by decide) | exact absurd (by decide) c)) (fun _ => ?_)
      refine V2_aload_n (i := 0) d_P_car_8 rfl rfl ?_
      refine V2_iconst (v := 1) d_P_car_9 rfl ?_
      refine V2_callV [.int (1 : Int32)] d_P_car_10 rfl rfl lk_P_66 mo_P_fails (by decide) rfl rfl rfl (Nat.le_of_ble_eq_true rfl) (Nat.le_of_ble_eq_true rfl) ?_
      refine c_P_fails1 ?_
      refine V2_topi (fun v4 ev4 => ?_)
      refine V2_ireturn d_P_car_13 rfl ?_
      have hb : ¬ (0 ≤ v ∧ v ≤ 1) := (by clear hQ; (try (subst ev4)); (try simp only [xb_eq, xb_ne, Int32.lt_iff_toInt_lt, Int32.le_iff_toInt_le] at *); omega)
      have e : k_car F 3 v = (-1000000000 - 1, errF F 1) := by unfold k_car; rw [if_neg (fun h => absurd h.1 (by decide)), if_neg (fun h => absurd h.1 (by decide)), if_neg (fun h => absurd h.1 (by decide)), if_neg (fun h => hb h.2), if_neg (fun h => absurd h.1 (by decide))]
      rw [e] at hQ
      subst ev4
      exact xQi (hQ _ (mid_err hR (by decide))) rfl rfl
    · refine V2_iconst (v := 1) d_P_within_10 rfl ?_
      refine V2_goto (tgt := 15) d_P_within_11 rfl ?_
      refine V2_zreturn d_P_within_15 rfl (by decide) ?_
      refine V2.to (st' := [.int (1 : Int32)]) ?_ rfl rfl rfl rfl
      refine V2_zreturn d_Car_canBecome_58 rfl (by decide) ?_
      refine V2.to (st' := [.int (1 : Int32)]) ?_ rfl rfl rfl rfl
      refine V2_if_ne (tgt := 14) d_P_car_5 rfl (fun _ => ?_) (fun c => (by first | exact absurd c (by decide) | exact absurd (by decide) c))
      refine V2_aload_n (i := 0) d_P_car_14 rfl rfl ?_
      refine V2_getr (a := 1) d_P_car_15 fl_P_10 (by decide) rfl (by decide) rfl ?_
      refine V2_getr (a := 2) d_P_car_18 fl_P_93 (by decide) rfl (by decide) rfl ?_
      refine V2_iload_n (i := 1) d_P_car_21 rfl rfl ?_
      refine V2_callV [.int (3 : Int32)] d_P_car_22 rfl rfl lk_P_126 mo_Car_tells (by decide) rfl rfl rfl (Nat.le_of_ble_eq_true rfl) (Nat.le_of_ble_eq_true rfl) ?_
      refine V2.to (l' := [some (.ref 2), some (.int (3 : Int32))]) ?_ rfl rfl rfl rfl
      refine V2_iload_n (i := 1) d_Car_tells_0 rfl rfl ?_
      refine V2_tableIn (tgt := 55) (off := 54) d_Car_tells_1 (by decide) (by decide) (by decide) rfl ?_
      refine V2_aload_n (i := 0) d_Car_tells_55 rfl rfl ?_
      refine V2_get (v := F 2 3) d_Car_tells_56 fl_Car_19 (by decide) rfl (by decide) rfl rfl ?_
      refine V2_topi (fun v5 ev5 => ?_)
      refine V2_ireturn d_Car_tells_59 rfl ?_
      refine V2.to (st' := [.int v5]) ?_ rfl rfl rfl rfl
      refine V2_istore_n (i := 3) (l' := [some (.ref 0), some (.int (3 : Int32)), some (.int v), some (.int v5)]) d_P_car_25 rfl (xst_i (Nat.le_of_ble_eq_true rfl) rfl rfl) ?_
      refine V2_aload_n (i := 0) d_P_car_26 rfl rfl ?_
      refine V2_getr (a := 1) d_P_car_27 fl_P_10 (by decide) rfl (by decide) rfl ?_
      refine V2_getr (a := 2) d_P_car_30 fl_P_93 (by decide) rfl (by decide) rfl ?_
      refine V2_iload_n (i := 1) d_P_car_33 rfl rfl ?_
      refine V2_iload_n (i := 2) d_P_car_34 rfl rfl ?_
      refine V2_callV [.int (3 : Int32), .int v] d_P_car_35 rfl rfl lk_P_129 mo_Car_alter (by decide) rfl rfl rfl (Nat.le_of_ble_eq_true rfl) (Nat.le_of_ble_eq_true rfl) ?_
      refine V2.to (l' := [some (.ref 2), some (.int (3 : Int32)), some (.int v)]) ?_ rfl rfl rfl rfl
      refine V2_iload_n (i := 1) d_Car_alter_0 rfl rfl ?_
      refine V2_tableIn (tgt := 60) (off := 59) d_Car_alter_1 (by decide) (by decide) (by decide) rfl ?_
      refine V2_aload_n (i := 0) d_Car_alter_60 rfl rfl ?_
      refine V2_iload_n (i := 2) d_Car_alter_61 rfl rfl ?_
      refine V2_put d_Car_alter_62 fl_Car_19 (by decide) rfl (by decide) rfl ?_
      refine V2_goto (tgt := 76) d_Car_alter_65 rfl ?_
      refine V2_return d_Car_alter_76 rfl ?_
      refine V2.to (st' := []) ?_ rfl rfl rfl rfl
      refine V2_iload_n (i := 3) d_P_car_38 rfl rfl ?_
      refine V2_ireturn d_P_car_39 rfl ?_
      have hb : 0 ≤ v ∧ v ≤ 1 := (by clear hQ; (try (subst ev5)); (try simp only [xb_eq, xb_ne, Int32.lt_iff_toInt_lt, Int32.le_iff_toInt_le] at *); omega)
      have e : k_car F 3 v = (F 66 3, xrw F 66 (upd (F 66) 3 v)) := by unfold k_car; rw [if_neg (fun h => absurd h.1 (by decide)), if_neg (fun h => absurd h.1 (by decide)), if_neg (fun h => absurd h.1 (by decide)), if_pos ⟨rfl, hb⟩]
      rw [e] at hQ
      subst ev5
      exact xQi (hQ (xrw F 2 (upd (F 2) 3 v)) (mid_low hR (relCr_upd hR.1.1.1 (by decide)) rfl (fun j hj => if_neg (by omega)))) (hR.1.1.1.2.2.2.1) (xp_row F 2 3 v)
theorem c_mod_car3 {L : Nat} {xs : Nat → Int32} {d : Nat} {Q : Option Value → xF → Prop} {F : xF} {v : Int32} {F0 : xF} (hR : Rel F0) (hM : Mid F0 F (k_car F0 3 v).2) (hQ : ∀ F2, Rel F2 → Q (some (.int (k_car F0 3 v).1)) F2) : V2 L xs (d + 2) m_R_car 0 (xEntry [.ref 65, .int (3 : Int32), .int v] 3) [] F Q := by
  have q0 : (0 : Int32).toInt = 0 := by decide
  have q1 : (1 : Int32).toInt = 1 := by decide
  have q2 : (2 : Int32).toInt = 2 := by decide
  have q3 : (3 : Int32).toInt = 3 := by decide
  have q4 : (4 : Int32).toInt = 4 := by decide
  have q5 : (5 : Int32).toInt = 5 := by decide
  have q6 : (6 : Int32).toInt = 6 := by decide
  have q7 : (7 : Int32).toInt = 7 := by decide
  have q9 : (9 : Int32).toInt = 9 := by decide
  have q20 : (20 : Int32).toInt = 20 := by decide
  have q30 : (30 : Int32).toInt = 30 := by decide
  have q60 : (60 : Int32).toInt = 60 := by decide
  have q99 : (99 : Int32).toInt = 99 := by decide
  refine V2.to (l' := [some (.ref 65), some (.int (3 : Int32)), some (.int v)]) ?_ rfl rfl rfl rfl
  refine V2_iload_n (i := 1) d_R_car_0 rfl rfl ?_
  refine V2_iconst (v := 0) d_R_car_1 rfl ?_
  refine V2_iconst (v := 4) d_R_car_2 rfl ?_
  refine V2_callS [.int (3 : Int32), .int (0 : Int32), .int (4 : Int32)] d_R_car_3 rfl rfl lk_R_51 mo_R_in (Nat.le_of_ble_eq_true rfl) (Nat.le_of_ble_eq_true rfl) ?_
  refine c_R_in ?_
  refine V2_topi (fun v1 ev1 => ?_)
  refine V2_if_eq (tgt := 26) d_R_car_6 rfl (fun c2 => ?_) (fun c2 => ?_)
  · refine V2_aload_n (i := 0) d_R_car_26 rfl rfl ?_
    refine V2_iconst (v := 1) d_R_car_27 rfl ?_
    refine V2_callV [.int (1 : Int32)] d_R_car_28 rfl rfl lk_R_55 mo_R_error (by decide) rfl rfl rfl (Nat.le_of_ble_eq_true rfl) (Nat.le_of_ble_eq_true rfl) ?_
    refine c_R_error1 ?_
    refine V2_topi (fun v3 ev3 => ?_)
    refine V2_ireturn d_R_car_31 rfl ?_
    have hb : ¬ (0 ≤ v ∧ v ≤ 1) := (by clear hQ; (try (subst ev3 ev1)); (try simp only [xb_eq, xb_ne, Int32.lt_iff_toInt_lt, Int32.le_iff_toInt_le] at *); omega)
    have e : k_car F0 3 v = (-1000000000 - 1, errF F0 1) := by unfold k_car; rw [if_neg (fun h => absurd h.1 (by decide)), if_neg (fun h => absurd h.1 (by decide)), if_neg (fun h => absurd h.1 (by decide)), if_neg (fun h => hb h.2), if_neg (fun h => absurd h.1 (by decide))]
    rw [e] at hQ hM
    subst ev3 ev1
    exact xQi (hQ _ (rel_err hR hM)) rfl rfl
  · refine V2_iload_n (i := 1) d_R_car_9 rfl rfl ?_
    refine V2_iload_n (i := 2) d_R_car_10 rfl rfl ?_
    refine V2_callS [.int (3 : Int32), .int v] d_R_car_11 rfl rfl lk_R_177 mo_R_isOfCar (Nat.le_of_ble_eq_true rfl) (Nat.le_of_ble_eq_true rfl) ?_
    refine V2.to (l' := [some (.int (3 : Int32)), some (.int v)]) ?_ rfl rfl rfl rfl
    refine V2_iload_n (i := 1) d_R_isOfCar_0 rfl rfl ?_
    refine V2_iload_n (i := 0) d_R_isOfCar_1 rfl rfl ?_
    refine V2_if_ne (tgt := 9) d_R_isOfCar_2 rfl (fun _ => ?_) (fun c => (by first | exact absurd c (by decide) | exact absurd (by decide) c))
    refine V2_iconst (v := 0) d_R_isOfCar_9 rfl ?_
    refine V2_iload_n (i := 0) d_R_isOfCar_10 rfl rfl ?_
    refine V2_if_ne (tgt := 19) d_R_isOfCar_11 rfl (fun _ => ?_) (fun c => (by first | exact absurd c (by decide) | exact absurd (by decide) c))
    refine V2_iload_n (i := 0) d_R_isOfCar_19 rfl rfl ?_
    refine V2_iconst (v := 3) d_R_isOfCar_20 rfl ?_
    refine V2_icmp_ne (tgt := 28) d_R_isOfCar_21 rfl (fun c => (by first | exact absurd c (by decide) | exact absurd (by decide) c)) (fun _ => ?_)
    refine V2_iconst (v := 1) d_R_isOfCar_24 rfl ?_
    refine V2_goto (tgt := 30) d_R_isOfCar_25 rfl ?_
    refine V2_callS [.int v, .int (0 : Int32), .int (1 : Int32)] d_R_isOfCar_30 rfl rfl lk_R_51 mo_R_in (Nat.le_of_ble_eq_true rfl) (Nat.le_of_ble_eq_true rfl) ?_
    refine c_R_in ?_
    refine V2_topi (fun v4 ev4 => ?_)
    refine V2_zreturn d_R_isOfCar_33 rfl (by rw [ev4]; exact xb_01) ?_
    refine V2.to (st' := [.int v4]) ?_ rfl rfl rfl rfl
    refine V2_if_eq (tgt := 26) d_R_car_14 rfl (fun c5 => ?_) (fun c5 => ?_)
    · refine V2_aload_n (i := 0) d_R_car_26 rfl rfl ?_
      refine V2_iconst (v := 1) d_R_car_27 rfl ?_
      refine V2_callV [.int (1 : Int32)] d_R_car_28 rfl rfl lk_R_55 mo_R_error (by decide) rfl rfl rfl (Nat.le_of_ble_eq_true rfl) (Nat.le_of_ble_eq_true rfl) ?_
      refine c_R_error1 ?_
      refine V2_topi (fun v6 ev6 => ?_)
      refine V2_ireturn d_R_car_31 rfl ?_
      have hb : ¬ (0 ≤ v ∧ v ≤ 1) := (by clear hQ; (try (subst ev6 ev4 ev1)); (try simp only [xb_eq, xb_ne, Int32.lt_iff_toInt_lt, Int32.le_iff_toInt_le] at *); omega)
      have e : k_car F0 3 v = (-1000000000 - 1, errF F0 1) := by unfold k_car; rw [if_neg (fun h => absurd h.1 (by decide)), if_neg (fun h => absurd h.1 (by decide)), if_neg (fun h => absurd h.1 (by decide)), if_neg (fun h => hb h.2), if_neg (fun h => absurd h.1 (by decide))]
      rw [e] at hQ hM
      subst ev6 ev4 ev1
      exact xQi (hQ _ (rel_err hR hM)) rfl rfl
    · refine V2_aload_n (i := 0) d_R_car_17 rfl rfl ?_
      refine V2_iload_n (i := 1) d_R_car_18 rfl rfl ?_
      refine V2_iload_n (i := 2) d_R_car_19 rfl rfl ?_
      refine V2_callV [.int (3 : Int32), .int v] d_R_car_20 rfl rfl lk_R_171 mo_R_change1 (by decide) rfl rfl rfl (Nat.le_of_ble_eq_true rfl) (Nat.le_of_ble_eq_true rfl) ?_
      refine V2.to (l' := [some (.ref 65), some (.int (3 : Int32)), some (.int v), none]) ?_ rfl rfl rfl rfl
      refine V2_aload_n (i := 0) d_R_change1_0 rfl rfl ?_
      refine V2_getr (a := 66) d_R_change1_1 fl_R_7 (by decide) rfl (by decide) rfl ?_
      refine V2_iload_n (i := 1) d_R_change1_4 rfl rfl ?_
      refine V2_iaload (v := F 66 3) d_R_change1_5 (by decide) rfl (xixA (n := 3) rfl (by decide) (by decide)) rfl ?_
      refine V2_topi (fun v7 ev7 => ?_)
      refine V2_istore_n (i := 3) (l' := [some (.ref 65), some (.int (3 : Int32)), some (.int v), some (.int v7)]) d_R_change1_6 rfl (xst_i (Nat.le_of_ble_eq_true rfl) rfl rfl) ?_
      refine V2_aload_n (i := 0) d_R_change1_7 rfl rfl ?_
      refine V2_getr (a := 66) d_R_change1_8 fl_R_7 (by decide) rfl (by decide) rfl ?_
      refine V2_iload_n (i := 1) d_R_change1_11 rfl rfl ?_
      refine V2_iload_n (i := 2) d_R_change1_12 rfl rfl ?_
      refine V2_iastore (j := 3) d_R_change1_13 (by decide) rfl (xixA (n := 3) rfl (by decide) (by decide)) rfl ?_
      refine V2_iload_n (i := 3) d_R_change1_14 rfl rfl ?_
      refine V2_ireturn d_R_change1_15 rfl ?_
      refine V2.to (st' := [.int v7]) ?_ rfl rfl rfl rfl
      refine V2_goto (tgt := 31) d_R_car_23 rfl ?_
      refine V2_ireturn d_R_car_31 rfl ?_
      have hb : 0 ≤ v ∧ v ≤ 1 := (by clear hQ; (try (subst ev7 ev4 ev1)); (try simp only [xb_eq, xb_ne, Int32.lt_iff_toInt_lt, Int32.le_iff_toInt_le] at *); omega)
      have e : k_car F0 3 v = (F0 66 3, xrw F0 66 (upd (F0 66) 3 v)) := by unfold k_car; rw [if_neg (fun h => absurd h.1 (by decide)), if_neg (fun h => absurd h.1 (by decide)), if_neg (fun h => absurd h.1 (by decide)), if_pos ⟨rfl, hb⟩]
      rw [e] at hQ hM
      subst ev7 ev4 ev1
      exact xQi (hQ (xrw F 66 (upd (F0 66) 3 v)) (rel_low hR hM (invC_upd3 hR.2.1.1 hb) hR.2.1.2.1 (fun j hj => if_neg (by omega)))) (congrFun (hM.1 66 (by decide)) 3) (by rw [xp_row, hM.1 66 (by decide)])
theorem c_cls_car4 {L : Nat} {xs : Nat → Int32} {d : Nat} {Q : Option Value → xF → Prop} {F : xF} {v : Int32} (hR : Rel F) (hQ : ∀ F1, Mid F F1 (k_car F 4 v).2 → Q (some (.int (k_car F 4 v).1)) F1) : V2 L xs (d + 2) m_P_car 0 (xEntry [.ref 0, .int (4 : Int32), .int v] 4) [] F Q := by
  have q0 : (0 : Int32).toInt = 0 := by decide
  have q1 : (1 : Int32).toInt = 1 := by decide
  have q2 : (2 : Int32).toInt = 2 := by decide
  have q3 : (3 : Int32).toInt = 3 := by decide
  have q4 : (4 : Int32).toInt = 4 := by decide
  have q5 : (5 : Int32).toInt = 5 := by decide
  have q6 : (6 : Int32).toInt = 6 := by decide
  have q7 : (7 : Int32).toInt = 7 := by decide
  have q9 : (9 : Int32).toInt = 9 := by decide
  have q20 : (20 : Int32).toInt = 20 := by decide
  have q30 : (30 : Int32).toInt = 30 := by decide
  have q60 : (60 : Int32).toInt = 60 := by decide
  have q99 : (99 : Int32).toInt = 99 := by decide
  refine V2.to (l' := [some (.ref 0), some (.int (4 : Int32)), some (.int v), none]) ?_ rfl rfl rfl rfl
  refine V2_iload_n (i := 1) d_P_car_0 rfl rfl ?_
  refine V2_iload_n (i := 2) d_P_car_1 rfl rfl ?_
  refine V2_callS [.int (4 : Int32), .int v] d_P_car_2 rfl rfl lk_P_123 mo_Car_canBecome (Nat.le_of_ble_eq_true rfl) (Nat.le_of_ble_eq_true rfl) ?_
  refine V2.to (l' := [some (.int (4 : Int32)), some (.int v)]) ?_ rfl rfl rfl rfl
  refine V2_iload_n (i := 0) d_Car_canBecome_0 rfl rfl ?_
  refine V2_tableIn (tgt := 44) (off := 43) d_Car_canBecome_1 (by decide) (by decide) (by decide) rfl ?_
  refine V2_iload_n (i := 1) d_Car_canBecome_44 rfl rfl ?_
  refine V2_iconst (v := 0) d_Car_canBecome_45 rfl ?_
  refine V2_bipush (v := 99) d_Car_canBecome_46 rfl ?_
  refine V2_callS [.int v, .int (0 : Int32), .int (99 : Int32)] d_Car_canBecome_48 rfl rfl lk_Car_35 mo_P_within (Nat.le_of_ble_eq_true rfl) (Nat.le_of_ble_eq_true rfl) ?_
  refine V2.to (l' := [some (.int v), some (.int (0 : Int32)), some (.int (99 : Int32))]) ?_ rfl rfl rfl rfl
  refine V2_iload_n (i := 0) d_P_within_0 rfl rfl ?_
  refine V2_iload_n (i := 1) d_P_within_1 rfl rfl ?_
  refine V2_icmp_lt (tgt := 14) d_P_within_2 rfl (fun c1 => ?_) (fun c1 => ?_)
  · refine V2_iconst (v := 0) d_P_within_14 rfl ?_
    refine V2_zreturn d_P_within_15 rfl (by decide) ?_
    refine V2.to (st' := [.int (0 : Int32)]) ?_ rfl rfl rfl rfl
    refine V2_zreturn d_Car_canBecome_51 rfl (by decide) ?_
    refine V2.to (st' := [.int (0 : Int32)]) ?_ rfl rfl rfl rfl
    refine V2_if_ne (tgt := 14) d_P_car_5 rfl (fun c => (by first | exact absurd c (by decide) | exact absurd (by decide) c)) (fun _ => ?_)
    refine V2_aload_n (i := 0) d_P_car_8 rfl rfl ?_
    refine V2_iconst (v := 1) d_P_car_9 rfl ?_
    refine V2_callV [.int (1 : Int32)] d_P_car_10 rfl rfl lk_P_66 mo_P_fails (by decide) rfl rfl rfl (Nat.le_of_ble_eq_true rfl) (Nat.le_of_ble_eq_true rfl) ?_
    refine c_P_fails1 ?_
    refine V2_topi (fun v2 ev2 => ?_)
    refine V2_ireturn d_P_car_13 rfl ?_
    have hb : ¬ (0 ≤ v ∧ v ≤ 99) := (by clear hQ; (try (subst ev2)); (try simp only [xb_eq, xb_ne, Int32.lt_iff_toInt_lt, Int32.le_iff_toInt_le] at *); omega)
    have e : k_car F 4 v = (-1000000000 - 1, errF F 1) := by unfold k_car; rw [if_neg (fun h => absurd h.1 (by decide)), if_neg (fun h => absurd h.1 (by decide)), if_neg (fun h => absurd h.1 (by decide)), if_neg (fun h => absurd h.1 (by decide)), if_neg (fun h => hb h.2)]
    rw [e] at hQ
    subst ev2
    exact xQi (hQ _ (mid_err hR (by decide))) rfl rfl
  · refine V2_iload_n (i := 0) d_P_within_5 rfl rfl ?_
    refine V2_iload_n (i := 2) d_P_within_6 rfl rfl ?_
    refine V2_icmp_gt (tgt := 14) d_P_within_7 rfl (fun c3 => ?_) (fun c3 => ?_)
    · refine V2_iconst (v := 0) d_P_within_14 rfl ?_
      refine V2_zreturn d_P_within_15 rfl (by decide) ?_
      refine V2.to (st' := [.int (0 : Int32)]) ?_ rfl rfl rfl rfl
      refine V2_zreturn d_Car_canBecome_51 rfl (by decide) ?_
      refine V2.to (st' := [.int (0 : Int32)]) ?_ rfl rfl rfl rfl
      refine V2_if_ne (tgt := 14) d_P_car_5 rfl (fun c => (by first | exact absurd c (by decide) | exact absurd (by decide) c)) (fun _ => ?_)
      refine V2_aload_n (i := 0) d_P_car_8 rfl rfl ?_
      refine V2_iconst (v := 1) d_P_car_9 rfl ?_
      refine V2_callV [.int (1 : Int32)] d_P_car_10 rfl rfl lk_P_66 mo_P_fails (by decide) rfl rfl rfl (Nat.le_of_ble_eq_true rfl) (Nat.le_of_ble_eq_true rfl) ?_
      refine c_P_fails1 ?_
      refine V2_topi (fun v4 ev4 => ?_)
      refine V2_ireturn d_P_car_13 rfl ?_
      have hb : ¬ (0 ≤ v ∧ v ≤ 99) := (by clear hQ; (try (subst ev4)); (try simp only [xb_eq, xb_ne, Int32.lt_iff_toInt_lt, Int32.le_iff_toInt_le] at *); omega)
      have e : k_car F 4 v = (-1000000000 - 1, errF F 1) := by unfold k_car; rw [if_neg (fun h => absurd h.1 (by decide)), if_neg (fun h => absurd h.1 (by decide)), if_neg (fun h => absurd h.1 (by decide)), if_neg (fun h => absurd h.1 (by decide)), if_neg (fun h => hb h.2)]
      rw [e] at hQ
      subst ev4
      exact xQi (hQ _ (mid_err hR (by decide))) rfl rfl
    · refine V2_iconst (v := 1) d_P_within_10 rfl ?_
      refine V2_goto (tgt := 15) d_P_within_11 rfl ?_
      refine V2_zreturn d_P_within_15 rfl (by decide) ?_
      refine V2.to (st' := [.int (1 : Int32)]) ?_ rfl rfl rfl rfl
      refine V2_zreturn d_Car_canBecome_51 rfl (by decide) ?_
      refine V2.to (st' := [.int (1 : Int32)]) ?_ rfl rfl rfl rfl
      refine V2_if_ne (tgt := 14) d_P_car_5 rfl (fun _ => ?_) (fun c => (by first | exact absurd c (by decide) | exact absurd (by decide) c))
      refine V2_aload_n (i := 0) d_P_car_14 rfl rfl ?_
      refine V2_getr (a := 1) d_P_car_15 fl_P_10 (by decide) rfl (by decide) rfl ?_
      refine V2_getr (a := 2) d_P_car_18 fl_P_93 (by decide) rfl (by decide) rfl ?_
      refine V2_iload_n (i := 1) d_P_car_21 rfl rfl ?_
      refine V2_callV [.int (4 : Int32)] d_P_car_22 rfl rfl lk_P_126 mo_Car_tells (by decide) rfl rfl rfl (Nat.le_of_ble_eq_true rfl) (Nat.le_of_ble_eq_true rfl) ?_
      refine V2.to (l' := [some (.ref 2), some (.int (4 : Int32))]) ?_ rfl rfl rfl rfl
      refine V2_iload_n (i := 1) d_Car_tells_0 rfl rfl ?_
      refine V2_tableIn (tgt := 60) (off := 59) d_Car_tells_1 (by decide) (by decide) (by decide) rfl ?_
      refine V2_aload_n (i := 0) d_Car_tells_60 rfl rfl ?_
      refine V2_get (v := F 2 4) d_Car_tells_61 fl_Car_22 (by decide) rfl (by decide) rfl rfl ?_
      refine V2_topi (fun v5 ev5 => ?_)
      refine V2_ireturn d_Car_tells_64 rfl ?_
      refine V2.to (st' := [.int v5]) ?_ rfl rfl rfl rfl
      refine V2_istore_n (i := 3) (l' := [some (.ref 0), some (.int (4 : Int32)), some (.int v), some (.int v5)]) d_P_car_25 rfl (xst_i (Nat.le_of_ble_eq_true rfl) rfl rfl) ?_
      refine V2_aload_n (i := 0) d_P_car_26 rfl rfl ?_
      refine V2_getr (a := 1) d_P_car_27 fl_P_10 (by decide) rfl (by decide) rfl ?_
      refine V2_getr (a := 2) d_P_car_30 fl_P_93 (by decide) rfl (by decide) rfl ?_
      refine V2_iload_n (i := 1) d_P_car_33 rfl rfl ?_
      refine V2_iload_n (i := 2) d_P_car_34 rfl rfl ?_
      refine V2_callV [.int (4 : Int32), .int v] d_P_car_35 rfl rfl lk_P_129 mo_Car_alter (by decide) rfl rfl rfl (Nat.le_of_ble_eq_true rfl) (Nat.le_of_ble_eq_true rfl) ?_
      refine V2.to (l' := [some (.ref 2), some (.int (4 : Int32)), some (.int v)]) ?_ rfl rfl rfl rfl
      refine V2_iload_n (i := 1) d_Car_alter_0 rfl rfl ?_
      refine V2_tableIn (tgt := 68) (off := 67) d_Car_alter_1 (by decide) (by decide) (by decide) rfl ?_
      refine V2_aload_n (i := 0) d_Car_alter_68 rfl rfl ?_
      refine V2_iload_n (i := 2) d_Car_alter_69 rfl rfl ?_
      refine V2_put d_Car_alter_70 fl_Car_22 (by decide) rfl (by decide) rfl ?_
      refine V2_goto (tgt := 76) d_Car_alter_73 rfl ?_
      refine V2_return d_Car_alter_76 rfl ?_
      refine V2.to (st' := []) ?_ rfl rfl rfl rfl
      refine V2_iload_n (i := 3) d_P_car_38 rfl rfl ?_
      refine V2_ireturn d_P_car_39 rfl ?_
      have hb : 0 ≤ v ∧ v ≤ 99 := (by clear hQ; (try (subst ev5)); (try simp only [xb_eq, xb_ne, Int32.lt_iff_toInt_lt, Int32.le_iff_toInt_le] at *); omega)
      have e : k_car F 4 v = (F 66 4, xrw F 66 (upd (F 66) 4 v)) := by unfold k_car; rw [if_neg (fun h => absurd h.1 (by decide)), if_neg (fun h => absurd h.1 (by decide)), if_neg (fun h => absurd h.1 (by decide)), if_neg (fun h => absurd h.1 (by decide)), if_pos ⟨rfl, hb⟩]
      rw [e] at hQ
      subst ev5
      exact xQi (hQ (xrw F 2 (upd (F 2) 4 v)) (mid_low hR (relCr_upd hR.1.1.1 (by decide)) rfl (fun j hj => if_neg (by omega)))) (hR.1.1.1.2.2.2.2.1) (xp_row F 2 4 v)
theorem c_mod_car4 {L : Nat} {xs : Nat → Int32} {d : Nat} {Q : Option Value → xF → Prop} {F : xF} {v : Int32} {F0 : xF} (hR : Rel F0) (hM : Mid F0 F (k_car F0 4 v).2) (hQ : ∀ F2, Rel F2 → Q (some (.int (k_car F0 4 v).1)) F2) : V2 L xs (d + 2) m_R_car 0 (xEntry [.ref 65, .int (4 : Int32), .int v] 3) [] F Q := by
  have q0 : (0 : Int32).toInt = 0 := by decide
  have q1 : (1 : Int32).toInt = 1 := by decide
  have q2 : (2 : Int32).toInt = 2 := by decide
  have q3 : (3 : Int32).toInt = 3 := by decide
  have q4 : (4 : Int32).toInt = 4 := by decide
  have q5 : (5 : Int32).toInt = 5 := by decide
  have q6 : (6 : Int32).toInt = 6 := by decide
  have q7 : (7 : Int32).toInt = 7 := by decide
  have q9 : (9 : Int32).toInt = 9 := by decide
  have q20 : (20 : Int32).toInt = 20 := by decide
  have q30 : (30 : Int32).toInt = 30 := by decide
  have q60 : (60 : Int32).toInt = 60 := by decide
  have q99 : (99 : Int32).toInt = 99 := by decide
  refine V2.to (l' := [some (.ref 65), some (.int (4 : Int32)), some (.int v)]) ?_ rfl rfl rfl rfl
  refine V2_iload_n (i := 1) d_R_car_0 rfl rfl ?_
  refine V2_iconst (v := 0) d_R_car_1 rfl ?_
  refine V2_iconst (v := 4) d_R_car_2 rfl ?_
  refine V2_callS [.int (4 : Int32), .int (0 : Int32), .int (4 : Int32)] d_R_car_3 rfl rfl lk_R_51 mo_R_in (Nat.le_of_ble_eq_true rfl) (Nat.le_of_ble_eq_true rfl) ?_
  refine c_R_in ?_
  refine V2_topi (fun v1 ev1 => ?_)
  refine V2_if_eq (tgt := 26) d_R_car_6 rfl (fun c2 => ?_) (fun c2 => ?_)
  · refine V2_aload_n (i := 0) d_R_car_26 rfl rfl ?_
    refine V2_iconst (v := 1) d_R_car_27 rfl ?_
    refine V2_callV [.int (1 : Int32)] d_R_car_28 rfl rfl lk_R_55 mo_R_error (by decide) rfl rfl rfl (Nat.le_of_ble_eq_true rfl) (Nat.le_of_ble_eq_true rfl) ?_
    refine c_R_error1 ?_
    refine V2_topi (fun v3 ev3 => ?_)
    refine V2_ireturn d_R_car_31 rfl ?_
    have hb : ¬ (0 ≤ v ∧ v ≤ 99) := (by clear hQ; (try (subst ev3 ev1)); (try simp only [xb_eq, xb_ne, Int32.lt_iff_toInt_lt, Int32.le_iff_toInt_le] at *); omega)
    have e : k_car F0 4 v = (-1000000000 - 1, errF F0 1) := by unfold k_car; rw [if_neg (fun h => absurd h.1 (by decide)), if_neg (fun h => absurd h.1 (by decide)), if_neg (fun h => absurd h.1 (by decide)), if_neg (fun h => absurd h.1 (by decide)), if_neg (fun h => hb h.2)]
    rw [e] at hQ hM
    subst ev3 ev1
    exact xQi (hQ _ (rel_err hR hM)) rfl rfl
  · refine V2_iload_n (i := 1) d_R_car_9 rfl rfl ?_
    refine V2_iload_n (i := 2) d_R_car_10 rfl rfl ?_
    refine V2_callS [.int (4 : Int32), .int v] d_R_car_11 rfl rfl lk_R_177 mo_R_isOfCar (Nat.le_of_ble_eq_true rfl) (Nat.le_of_ble_eq_true rfl) ?_
    refine V2.to (l' := [some (.int (4 : Int32)), some (.int v)]) ?_ rfl rfl rfl rfl
    refine V2_iload_n (i := 1) d_R_isOfCar_0 rfl rfl ?_
    refine V2_iload_n (i := 0) d_R_isOfCar_1 rfl rfl ?_
    refine V2_if_ne (tgt := 9) d_R_isOfCar_2 rfl (fun _ => ?_) (fun c => (by first | exact absurd c (by decide) | exact absurd (by decide) c))
    refine V2_iconst (v := 0) d_R_isOfCar_9 rfl ?_
    refine V2_iload_n (i := 0) d_R_isOfCar_10 rfl rfl ?_
    refine V2_if_ne (tgt := 19) d_R_isOfCar_11 rfl (fun _ => ?_) (fun c => (by first | exact absurd c (by decide) | exact absurd (by decide) c))
    refine V2_iload_n (i := 0) d_R_isOfCar_19 rfl rfl ?_
    refine V2_iconst (v := 3) d_R_isOfCar_20 rfl ?_
    refine V2_icmp_ne (tgt := 28) d_R_isOfCar_21 rfl (fun _ => ?_) (fun c => (by first | exact absurd c (by decide) | exact absurd (by decide) c))
    refine V2_bipush (v := 99) d_R_isOfCar_28 rfl ?_
    refine V2_callS [.int v, .int (0 : Int32), .int (99 : Int32)] d_R_isOfCar_30 rfl rfl lk_R_51 mo_R_in (Nat.le_of_ble_eq_true rfl) (Nat.le_of_ble_eq_true rfl) ?_
    refine c_R_in ?_
    refine V2_topi (fun v4 ev4 => ?_)
    refine V2_zreturn d_R_isOfCar_33 rfl (by rw [ev4]; exact xb_01) ?_
    refine V2.to (st' := [.int v4]) ?_ rfl rfl rfl rfl
    refine V2_if_eq (tgt := 26) d_R_car_14 rfl (fun c5 => ?_) (fun c5 => ?_)
    · refine V2_aload_n (i := 0) d_R_car_26 rfl rfl ?_
      refine V2_iconst (v := 1) d_R_car_27 rfl ?_
      refine V2_callV [.int (1 : Int32)] d_R_car_28 rfl rfl lk_R_55 mo_R_error (by decide) rfl rfl rfl (Nat.le_of_ble_eq_true rfl) (Nat.le_of_ble_eq_true rfl) ?_
      refine c_R_error1 ?_
      refine V2_topi (fun v6 ev6 => ?_)
      refine V2_ireturn d_R_car_31 rfl ?_
      have hb : ¬ (0 ≤ v ∧ v ≤ 99) := (by clear hQ; (try (subst ev6 ev4 ev1)); (try simp only [xb_eq, xb_ne, Int32.lt_iff_toInt_lt, Int32.le_iff_toInt_le] at *); omega)
      have e : k_car F0 4 v = (-1000000000 - 1, errF F0 1) := by unfold k_car; rw [if_neg (fun h => absurd h.1 (by decide)), if_neg (fun h => absurd h.1 (by decide)), if_neg (fun h => absurd h.1 (by decide)), if_neg (fun h => absurd h.1 (by decide)), if_neg (fun h => hb h.2)]
      rw [e] at hQ hM
      subst ev6 ev4 ev1
      exact xQi (hQ _ (rel_err hR hM)) rfl rfl
    · refine V2_aload_n (i := 0) d_R_car_17 rfl rfl ?_
      refine V2_iload_n (i := 1) d_R_car_18 rfl rfl ?_
      refine V2_iload_n (i := 2) d_R_car_19 rfl rfl ?_
      refine V2_callV [.int (4 : Int32), .int v] d_R_car_20 rfl rfl lk_R_171 mo_R_change1 (by decide) rfl rfl rfl (Nat.le_of_ble_eq_true rfl) (Nat.le_of_ble_eq_true rfl) ?_
      refine V2.to (l' := [some (.ref 65), some (.int (4 : Int32)), some (.int v), none]) ?_ rfl rfl rfl rfl
      refine V2_aload_n (i := 0) d_R_change1_0 rfl rfl ?_
      refine V2_getr (a := 66) d_R_change1_1 fl_R_7 (by decide) rfl (by decide) rfl ?_
      refine V2_iload_n (i := 1) d_R_change1_4 rfl rfl ?_
      refine V2_iaload (v := F 66 4) d_R_change1_5 (by decide) rfl (xixA (n := 4) rfl (by decide) (by decide)) rfl ?_
      refine V2_topi (fun v7 ev7 => ?_)
      refine V2_istore_n (i := 3) (l' := [some (.ref 65), some (.int (4 : Int32)), some (.int v), some (.int v7)]) d_R_change1_6 rfl (xst_i (Nat.le_of_ble_eq_true rfl) rfl rfl) ?_
      refine V2_aload_n (i := 0) d_R_change1_7 rfl rfl ?_
      refine V2_getr (a := 66) d_R_change1_8 fl_R_7 (by decide) rfl (by decide) rfl ?_
      refine V2_iload_n (i := 1) d_R_change1_11 rfl rfl ?_
      refine V2_iload_n (i := 2) d_R_change1_12 rfl rfl ?_
      refine V2_iastore (j := 4) d_R_change1_13 (by decide) rfl (xixA (n := 4) rfl (by decide) (by decide)) rfl ?_
      refine V2_iload_n (i := 3) d_R_change1_14 rfl rfl ?_
      refine V2_ireturn d_R_change1_15 rfl ?_
      refine V2.to (st' := [.int v7]) ?_ rfl rfl rfl rfl
      refine V2_goto (tgt := 31) d_R_car_23 rfl ?_
      refine V2_ireturn d_R_car_31 rfl ?_
      have hb : 0 ≤ v ∧ v ≤ 99 := (by clear hQ; (try (subst ev7 ev4 ev1)); (try simp only [xb_eq, xb_ne, Int32.lt_iff_toInt_lt, Int32.le_iff_toInt_le] at *); omega)
      have e : k_car F0 4 v = (F0 66 4, xrw F0 66 (upd (F0 66) 4 v)) := by unfold k_car; rw [if_neg (fun h => absurd h.1 (by decide)), if_neg (fun h => absurd h.1 (by decide)), if_neg (fun h => absurd h.1 (by decide)), if_neg (fun h => absurd h.1 (by decide)), if_pos ⟨rfl, hb⟩]
      rw [e] at hQ hM
      subst ev7 ev4 ev1
      exact xQi (hQ (xrw F 66 (upd (F0 66) 4 v)) (rel_low hR hM (invC_upd4 hR.2.1.1 hb) hR.2.1.2.1 (fun j hj => if_neg (by omega)))) (congrFun (hM.1 66 (by decide)) 4) (by rw [xp_row, hM.1 66 (by decide)])
theorem c_cls_car5 {L : Nat} {xs : Nat → Int32} {d : Nat} {Q : Option Value → xF → Prop} {F : xF} {w v : Int32} (hR : Rel F) (hw : ¬ (0 ≤ w ∧ w ≤ 4)) (hQ : ∀ F1, Mid F F1 (k_car F w v).2 → Q (some (.int (k_car F w v).1)) F1) : V2 L xs (d + 2) m_P_car 0 (xEntry [.ref 0, .int w, .int v] 4) [] F Q := by
  have q0 : (0 : Int32).toInt = 0 := by decide
  have q1 : (1 : Int32).toInt = 1 := by decide
  have q2 : (2 : Int32).toInt = 2 := by decide
  have q3 : (3 : Int32).toInt = 3 := by decide
  have q4 : (4 : Int32).toInt = 4 := by decide
  have q5 : (5 : Int32).toInt = 5 := by decide
  have q6 : (6 : Int32).toInt = 6 := by decide
  have q7 : (7 : Int32).toInt = 7 := by decide
  have q9 : (9 : Int32).toInt = 9 := by decide
  have q20 : (20 : Int32).toInt = 20 := by decide
  have q30 : (30 : Int32).toInt = 30 := by decide
  have q60 : (60 : Int32).toInt = 60 := by decide
  have q99 : (99 : Int32).toInt = 99 := by decide
  refine V2.to (l' := [some (.ref 0), some (.int w), some (.int v), none]) ?_ rfl rfl rfl rfl
  refine V2_iload_n (i := 1) d_P_car_0 rfl rfl ?_
  refine V2_iload_n (i := 2) d_P_car_1 rfl rfl ?_
  refine V2_callS [.int w, .int v] d_P_car_2 rfl rfl lk_P_123 mo_Car_canBecome (Nat.le_of_ble_eq_true rfl) (Nat.le_of_ble_eq_true rfl) ?_
  refine V2.to (l' := [some (.int w), some (.int v)]) ?_ rfl rfl rfl rfl
  refine V2_iload_n (i := 0) d_Car_canBecome_0 rfl rfl ?_
  by_cases c1_0 : w = 0
  · refine V2_tableIn (tgt := 36) (off := 35) d_Car_canBecome_1 (by rw [c1_0]; decide) (by rw [c1_0]; decide) (by rw [c1_0]; decide) rfl ?_
    refine V2_iload_n (i := 1) d_Car_canBecome_36 rfl rfl ?_
    refine V2_iconst (v := 1) d_Car_canBecome_37 rfl ?_
    refine V2_bipush (v := 60) d_Car_canBecome_38 rfl ?_
    refine V2_callS [.int v, .int (1 : Int32), .int (60 : Int32)] d_Car_canBecome_40 rfl rfl lk_Car_35 mo_P_within (Nat.le_of_ble_eq_true rfl) (Nat.le_of_ble_eq_true rfl) ?_
    refine V2.to (l' := [some (.int v), some (.int (1 : Int32)), some (.int (60 : Int32))]) ?_ rfl rfl rfl rfl
    refine V2_iload_n (i := 0) d_P_within_0 rfl rfl ?_
    refine V2_iload_n (i := 1) d_P_within_1 rfl rfl ?_
    refine V2_icmp_lt (tgt := 14) d_P_within_2 rfl (fun c2 => ?_) (fun c2 => ?_)
    · refine V2_iconst (v := 0) d_P_within_14 rfl ?_
      refine V2_zreturn d_P_within_15 rfl (by decide) ?_
      refine V2.to (st' := [.int (0 : Int32)]) ?_ rfl rfl rfl rfl
      refine V2_zreturn d_Car_canBecome_43 rfl (by decide) ?_
      refine V2.to (st' := [.int (0 : Int32)]) ?_ rfl rfl rfl rfl
      refine V2_if_ne (tgt := 14) d_P_car_5 rfl (fun c => (by first | exact absurd c (by decide) | exact absurd (by decide) c)) (fun _ => ?_)
      refine V2_aload_n (i := 0) d_P_car_8 rfl rfl ?_
      refine V2_iconst (v := 1) d_P_car_9 rfl ?_
      refine V2_callV [.int (1 : Int32)] d_P_car_10 rfl rfl lk_P_66 mo_P_fails (by decide) rfl rfl rfl (Nat.le_of_ble_eq_true rfl) (Nat.le_of_ble_eq_true rfl) ?_
      refine c_P_fails1 ?_
      refine V2_topi (fun v3 ev3 => ?_)
      refine V2_ireturn d_P_car_13 rfl ?_
      exact absurd (by rw [c1_0]; decide) hw
    · refine V2_iload_n (i := 0) d_P_within_5 rfl rfl ?_
      refine V2_iload_n (i := 2) d_P_within_6 rfl rfl ?_
      refine V2_icmp_gt (tgt := 14) d_P_within_7 rfl (fun c4 => ?_) (fun c4 => ?_)
      · refine V2_iconst (v := 0) d_P_within_14 rfl ?_
        refine V2_zreturn d_P_within_15 rfl (by decide) ?_
        refine V2.to (st' := [.int (0 : Int32)]) ?_ rfl rfl rfl rfl
        refine V2_zreturn d_Car_canBecome_43 rfl (by decide) ?_
        refine V2.to (st' := [.int (0 : Int32)]) ?_ rfl rfl rfl rfl
        refine V2_if_ne (tgt := 14) d_P_car_5 rfl (fun c => (by first | exact absurd c (by decide) | exact absurd (by decide) c)) (fun _ => ?_)
        refine V2_aload_n (i := 0) d_P_car_8 rfl rfl ?_
        refine V2_iconst (v := 1) d_P_car_9 rfl ?_
        refine V2_callV [.int (1 : Int32)] d_P_car_10 rfl rfl lk_P_66 mo_P_fails (by decide) rfl rfl rfl (Nat.le_of_ble_eq_true rfl) (Nat.le_of_ble_eq_true rfl) ?_
        refine c_P_fails1 ?_
        refine V2_topi (fun v5 ev5 => ?_)
        refine V2_ireturn d_P_car_13 rfl ?_
        exact absurd (by rw [c1_0]; decide) hw
      · refine V2_iconst (v := 1) d_P_within_10 rfl ?_
        refine V2_goto (tgt := 15) d_P_within_11 rfl ?_
        refine V2_zreturn d_P_within_15 rfl (by decide) ?_
        refine V2.to (st' := [.int (1 : Int32)]) ?_ rfl rfl rfl rfl
        refine V2_zreturn d_Car_canBecome_43 rfl (by decide) ?_
        refine V2.to (st' := [.int (1 : Int32)]) ?_ rfl rfl rfl rfl
        refine V2_if_ne (tgt := 14) d_P_car_5 rfl (fun _ => ?_) (fun c => (by first | exact absurd c (by decide) | exact absurd (by decide) c))
        refine V2_aload_n (i := 0) d_P_car_14 rfl rfl ?_
        refine V2_getr (a := 1) d_P_car_15 fl_P_10 (by decide) rfl (by decide) rfl ?_
        refine V2_getr (a := 2) d_P_car_18 fl_P_93 (by decide) rfl (by decide) rfl ?_
        refine V2_iload_n (i := 1) d_P_car_21 rfl rfl ?_
        refine V2_callV [.int w] d_P_car_22 rfl rfl lk_P_126 mo_Car_tells (by decide) rfl rfl rfl (Nat.le_of_ble_eq_true rfl) (Nat.le_of_ble_eq_true rfl) ?_
        refine V2.to (l' := [some (.ref 2), some (.int w)]) ?_ rfl rfl rfl rfl
        refine V2_iload_n (i := 1) d_Car_tells_0 rfl rfl ?_
        by_cases c6_0 : w = 0
        · refine V2_tableIn (tgt := 40) (off := 39) d_Car_tells_1 (by rw [c6_0]; decide) (by rw [c6_0]; decide) (by rw [c6_0]; decide) rfl ?_
          refine V2_aload_n (i := 0) d_Car_tells_40 rfl rfl ?_
          refine V2_get (v := F 2 0) d_Car_tells_41 fl_Car_7 (by decide) rfl (by decide) rfl rfl ?_
          refine V2_topi (fun v7 ev7 => ?_)
          refine V2_ireturn d_Car_tells_44 rfl ?_
          refine V2.to (st' := [.int v7]) ?_ rfl rfl rfl rfl
          refine V2_istore_n (i := 3) (l' := [some (.ref 0), some (.int w), some (.int v), some (.int v7)]) d_P_car_25 rfl (xst_i (Nat.le_of_ble_eq_true rfl) rfl rfl) ?_
          refine V2_aload_n (i := 0) d_P_car_26 rfl rfl ?_
          refine V2_getr (a := 1) d_P_car_27 fl_P_10 (by decide) rfl (by decide) rfl ?_
          refine V2_getr (a := 2) d_P_car_30 fl_P_93 (by decide) rfl (by decide) rfl ?_
          refine V2_iload_n (i := 1) d_P_car_33 rfl rfl ?_
          refine V2_iload_n (i := 2) d_P_car_34 rfl rfl ?_
          refine V2_callV [.int w, .int v] d_P_car_35 rfl rfl lk_P_129 mo_Car_alter (by decide) rfl rfl rfl (Nat.le_of_ble_eq_true rfl) (Nat.le_of_ble_eq_true rfl) ?_
          refine V2.to (l' := [some (.ref 2), some (.int w), some (.int v)]) ?_ rfl rfl rfl rfl
          refine V2_iload_n (i := 1) d_Car_alter_0 rfl rfl ?_
          by_cases c8_0 : w = 0
          · refine V2_tableIn (tgt := 36) (off := 35) d_Car_alter_1 (by rw [c8_0]; decide) (by rw [c8_0]; decide) (by rw [c8_0]; decide) rfl ?_
            refine V2_aload_n (i := 0) d_Car_alter_36 rfl rfl ?_
            refine V2_iload_n (i := 2) d_Car_alter_37 rfl rfl ?_
            refine V2_put d_Car_alter_38 fl_Car_7 (by decide) rfl (by decide) rfl ?_
            refine V2_goto (tgt := 76) d_Car_alter_41 rfl ?_
            refine V2_return d_Car_alter_76 rfl ?_
            refine V2.to (st' := []) ?_ rfl rfl rfl rfl
            refine V2_iload_n (i := 3) d_P_car_38 rfl rfl ?_
            refine V2_ireturn d_P_car_39 rfl ?_
            exact absurd (by rw [c1_0]; decide) hw
          by_cases c8_1 : w = 1
          · refine V2_tableIn (tgt := 44) (off := 43) d_Car_alter_1 (by rw [c8_1]; decide) (by rw [c8_1]; decide) (by rw [c8_1]; decide) rfl ?_
            refine V2_aload_n (i := 0) d_Car_alter_44 rfl rfl ?_
            refine V2_iload_n (i := 2) d_Car_alter_45 rfl rfl ?_
            refine V2_put d_Car_alter_46 fl_Car_13 (by decide) rfl (by decide) rfl ?_
            refine V2_goto (tgt := 76) d_Car_alter_49 rfl ?_
            refine V2_return d_Car_alter_76 rfl ?_
            refine V2.to (st' := []) ?_ rfl rfl rfl rfl
            refine V2_iload_n (i := 3) d_P_car_38 rfl rfl ?_
            refine V2_ireturn d_P_car_39 rfl ?_
            exact absurd (by rw [c1_0]; decide) hw
          by_cases c8_2 : w = 2
          · refine V2_tableIn (tgt := 52) (off := 51) d_Car_alter_1 (by rw [c8_2]; decide) (by rw [c8_2]; decide) (by rw [c8_2]; decide) rfl ?_
            refine V2_aload_n (i := 0) d_Car_alter_52 rfl rfl ?_
            refine V2_iload_n (i := 2) d_Car_alter_53 rfl rfl ?_
            refine V2_put d_Car_alter_54 fl_Car_16 (by decide) rfl (by decide) rfl ?_
            refine V2_goto (tgt := 76) d_Car_alter_57 rfl ?_
            refine V2_return d_Car_alter_76 rfl ?_
            refine V2.to (st' := []) ?_ rfl rfl rfl rfl
            refine V2_iload_n (i := 3) d_P_car_38 rfl rfl ?_
            refine V2_ireturn d_P_car_39 rfl ?_
            exact absurd (by rw [c1_0]; decide) hw
          by_cases c8_3 : w = 3
          · refine V2_tableIn (tgt := 60) (off := 59) d_Car_alter_1 (by rw [c8_3]; decide) (by rw [c8_3]; decide) (by rw [c8_3]; decide) rfl ?_
            refine V2_aload_n (i := 0) d_Car_alter_60 rfl rfl ?_
            refine V2_iload_n (i := 2) d_Car_alter_61 rfl rfl ?_
            refine V2_put d_Car_alter_62 fl_Car_19 (by decide) rfl (by decide) rfl ?_
            refine V2_goto (tgt := 76) d_Car_alter_65 rfl ?_
            refine V2_return d_Car_alter_76 rfl ?_
            refine V2.to (st' := []) ?_ rfl rfl rfl rfl
            refine V2_iload_n (i := 3) d_P_car_38 rfl rfl ?_
            refine V2_ireturn d_P_car_39 rfl ?_
            exact absurd (by rw [c1_0]; decide) hw
          by_cases c8_4 : w = 4
          · refine V2_tableIn (tgt := 68) (off := 67) d_Car_alter_1 (by rw [c8_4]; decide) (by rw [c8_4]; decide) (by rw [c8_4]; decide) rfl ?_
            refine V2_aload_n (i := 0) d_Car_alter_68 rfl rfl ?_
            refine V2_iload_n (i := 2) d_Car_alter_69 rfl rfl ?_
            refine V2_put d_Car_alter_70 fl_Car_22 (by decide) rfl (by decide) rfl ?_
            refine V2_goto (tgt := 76) d_Car_alter_73 rfl ?_
            refine V2_return d_Car_alter_76 rfl ?_
            refine V2.to (st' := []) ?_ rfl rfl rfl rfl
            refine V2_iload_n (i := 3) d_P_car_38 rfl rfl ?_
            refine V2_ireturn d_P_car_39 rfl ?_
            exact absurd (by rw [c1_0]; decide) hw
          refine V2_tableOut (tgt := 76) d_Car_alter_1 (by have := lv_neT (a := 0) c8_0 rfl; have := lv_neT (a := 1) c8_1 rfl; have := lv_neT (a := 2) c8_2 rfl; have := lv_neT (a := 3) c8_3 rfl; have := lv_neT (a := 4) c8_4 rfl; omega) rfl ?_
          refine V2_return d_Car_alter_76 rfl ?_
          refine V2.to (st' := []) ?_ rfl rfl rfl rfl
          refine V2_iload_n (i := 3) d_P_car_38 rfl rfl ?_
          refine V2_ireturn d_P_car_39 rfl ?_
          exact absurd (by rw [c1_0]; decide) hw
        by_cases c6_1 : w = 1
        · refine V2_tableIn (tgt := 45) (off := 44) d_Car_tells_1 (by rw [c6_1]; decide) (by rw [c6_1]; decide) (by rw [c6_1]; decide) rfl ?_
          refine V2_aload_n (i := 0) d_Car_tells_45 rfl rfl ?_
          refine V2_get (v := F 2 1) d_Car_tells_46 fl_Car_13 (by decide) rfl (by decide) rfl rfl ?_
          refine V2_topi (fun v9 ev9 => ?_)
          refine V2_ireturn d_Car_tells_49 rfl ?_
          refine V2.to (st' := [.int v9]) ?_ rfl rfl rfl rfl
          refine V2_istore_n (i := 3) (l' := [some (.ref 0), some (.int w), some (.int v), some (.int v9)]) d_P_car_25 rfl (xst_i (Nat.le_of_ble_eq_true rfl) rfl rfl) ?_
          refine V2_aload_n (i := 0) d_P_car_26 rfl rfl ?_
          refine V2_getr (a := 1) d_P_car_27 fl_P_10 (by decide) rfl (by decide) rfl ?_
          refine V2_getr (a := 2) d_P_car_30 fl_P_93 (by decide) rfl (by decide) rfl ?_
          refine V2_iload_n (i := 1) d_P_car_33 rfl rfl ?_
          refine V2_iload_n (i := 2) d_P_car_34 rfl rfl ?_
          refine V2_callV [.int w, .int v] d_P_car_35 rfl rfl lk_P_129 mo_Car_alter (by decide) rfl rfl rfl (Nat.le_of_ble_eq_true rfl) (Nat.le_of_ble_eq_true rfl) ?_
          refine V2.to (l' := [some (.ref 2), some (.int w), some (.int v)]) ?_ rfl rfl rfl rfl
          refine V2_iload_n (i := 1) d_Car_alter_0 rfl rfl ?_
          by_cases c10_0 : w = 0
          · refine V2_tableIn (tgt := 36) (off := 35) d_Car_alter_1 (by rw [c10_0]; decide) (by rw [c10_0]; decide) (by rw [c10_0]; decide) rfl ?_
            refine V2_aload_n (i := 0) d_Car_alter_36 rfl rfl ?_
            refine V2_iload_n (i := 2) d_Car_alter_37 rfl rfl ?_
            refine V2_put d_Car_alter_38 fl_Car_7 (by decide) rfl (by decide) rfl ?_
            refine V2_goto (tgt := 76) d_Car_alter_41 rfl ?_
            refine V2_return d_Car_alter_76 rfl ?_
            refine V2.to (st' := []) ?_ rfl rfl rfl rfl
            refine V2_iload_n (i := 3) d_P_car_38 rfl rfl ?_
            refine V2_ireturn d_P_car_39 rfl ?_
            exact absurd (by rw [c1_0]; decide) hw
          by_cases c10_1 : w = 1
          · refine V2_tableIn (tgt := 44) (off := 43) d_Car_alter_1 (by rw [c10_1]; decide) (by rw [c10_1]; decide) (by rw [c10_1]; decide) rfl ?_
            refine V2_aload_n (i := 0) d_Car_alter_44 rfl rfl ?_
            refine V2_iload_n (i := 2) d_Car_alter_45 rfl rfl ?_
            refine V2_put d_Car_alter_46 fl_Car_13 (by decide) rfl (by decide) rfl ?_
            refine V2_goto (tgt := 76) d_Car_alter_49 rfl ?_
            refine V2_return d_Car_alter_76 rfl ?_
            refine V2.to (st' := []) ?_ rfl rfl rfl rfl
            refine V2_iload_n (i := 3) d_P_car_38 rfl rfl ?_
            refine V2_ireturn d_P_car_39 rfl ?_
            exact absurd (by rw [c1_0]; decide) hw
          by_cases c10_2 : w = 2
          · refine V2_tableIn (tgt := 52) (off := 51) d_Car_alter_1 (by rw [c10_2]; decide) (by rw [c10_2]; decide) (by rw [c10_2]; decide) rfl ?_
            refine V2_aload_n (i := 0) d_Car_alter_52 rfl rfl ?_
            refine V2_iload_n (i := 2) d_Car_alter_53 rfl rfl ?_
            refine V2_put d_Car_alter_54 fl_Car_16 (by decide) rfl (by decide) rfl ?_
            refine V2_goto (tgt := 76) d_Car_alter_57 rfl ?_
            refine V2_return d_Car_alter_76 rfl ?_
            refine V2.to (st' := []) ?_ rfl rfl rfl rfl
            refine V2_iload_n (i := 3) d_P_car_38 rfl rfl ?_
            refine V2_ireturn d_P_car_39 rfl ?_
            exact absurd (by rw [c1_0]; decide) hw
          by_cases c10_3 : w = 3
          · refine V2_tableIn (tgt := 60) (off := 59) d_Car_alter_1 (by rw [c10_3]; decide) (by rw [c10_3]; decide) (by rw [c10_3]; decide) rfl ?_
            refine V2_aload_n (i := 0) d_Car_alter_60 rfl rfl ?_
            refine V2_iload_n (i := 2) d_Car_alter_61 rfl rfl ?_
            refine V2_put d_Car_alter_62 fl_Car_19 (by decide) rfl (by decide) rfl ?_
            refine V2_goto (tgt := 76) d_Car_alter_65 rfl ?_
            refine V2_return d_Car_alter_76 rfl ?_
            refine V2.to (st' := []) ?_ rfl rfl rfl rfl
            refine V2_iload_n (i := 3) d_P_car_38 rfl rfl ?_
            refine V2_ireturn d_P_car_39 rfl ?_
            exact absurd (by rw [c1_0]; decide) hw
          by_cases c10_4 : w = 4
          · refine V2_tableIn (tgt := 68) (off := 67) d_Car_alter_1 (by rw [c10_4]; decide) (by rw [c10_4]; decide) (by rw [c10_4]; decide) rfl ?_
            refine V2_aload_n (i := 0) d_Car_alter_68 rfl rfl ?_
            refine V2_iload_n (i := 2) d_Car_alter_69 rfl rfl ?_
            refine V2_put d_Car_alter_70 fl_Car_22 (by decide) rfl (by decide) rfl ?_
            refine V2_goto (tgt := 76) d_Car_alter_73 rfl ?_
            refine V2_return d_Car_alter_76 rfl ?_
            refine V2.to (st' := []) ?_ rfl rfl rfl rfl
            refine V2_iload_n (i := 3) d_P_car_38 rfl rfl ?_
            refine V2_ireturn d_P_car_39 rfl ?_
            exact absurd (by rw [c1_0]; decide) hw
          refine V2_tableOut (tgt := 76) d_Car_alter_1 (by have := lv_neT (a := 0) c10_0 rfl; have := lv_neT (a := 1) c10_1 rfl; have := lv_neT (a := 2) c10_2 rfl; have := lv_neT (a := 3) c10_3 rfl; have := lv_neT (a := 4) c10_4 rfl; omega) rfl ?_
          refine V2_return d_Car_alter_76 rfl ?_
          refine V2.to (st' := []) ?_ rfl rfl rfl rfl
          refine V2_iload_n (i := 3) d_P_car_38 rfl rfl ?_
          refine V2_ireturn d_P_car_39 rfl ?_
          exact absurd (by rw [c1_0]; decide) hw
        by_cases c6_2 : w = 2
        · refine V2_tableIn (tgt := 50) (off := 49) d_Car_tells_1 (by rw [c6_2]; decide) (by rw [c6_2]; decide) (by rw [c6_2]; decide) rfl ?_
          refine V2_aload_n (i := 0) d_Car_tells_50 rfl rfl ?_
          refine V2_get (v := F 2 2) d_Car_tells_51 fl_Car_16 (by decide) rfl (by decide) rfl rfl ?_
          refine V2_topi (fun v11 ev11 => ?_)
          refine V2_ireturn d_Car_tells_54 rfl ?_
          refine V2.to (st' := [.int v11]) ?_ rfl rfl rfl rfl
          refine V2_istore_n (i := 3) (l' := [some (.ref 0), some (.int w), some (.int v), some (.int v11)]) d_P_car_25 rfl (xst_i (Nat.le_of_ble_eq_true rfl) rfl rfl) ?_
          refine V2_aload_n (i := 0) d_P_car_26 rfl rfl ?_
          refine V2_getr (a := 1) d_P_car_27 fl_P_10 (by decide) rfl (by decide) rfl ?_
          refine V2_getr (a := 2) d_P_car_30 fl_P_93 (by decide) rfl (by decide) rfl ?_
          refine V2_iload_n (i := 1) d_P_car_33 rfl rfl ?_
          refine V2_iload_n (i := 2) d_P_car_34 rfl rfl ?_
          refine V2_callV [.int w, .int v] d_P_car_35 rfl rfl lk_P_129 mo_Car_alter (by decide) rfl rfl rfl (Nat.le_of_ble_eq_true rfl) (Nat.le_of_ble_eq_true rfl) ?_
          refine V2.to (l' := [some (.ref 2), some (.int w), some (.int v)]) ?_ rfl rfl rfl rfl
          refine V2_iload_n (i := 1) d_Car_alter_0 rfl rfl ?_
          by_cases c12_0 : w = 0
          · refine V2_tableIn (tgt := 36) (off := 35) d_Car_alter_1 (by rw [c12_0]; decide) (by rw [c12_0]; decide) (by rw [c12_0]; decide) rfl ?_
            refine V2_aload_n (i := 0) d_Car_alter_36 rfl rfl ?_
            refine V2_iload_n (i := 2) d_Car_alter_37 rfl rfl ?_
            refine V2_put d_Car_alter_38 fl_Car_7 (by decide) rfl (by decide) rfl ?_
            refine V2_goto (tgt := 76) d_Car_alter_41 rfl ?_
            refine V2_return d_Car_alter_76 rfl ?_
            refine V2.to (st' := []) ?_ rfl rfl rfl rfl
            refine V2_iload_n (i := 3) d_P_car_38 rfl rfl ?_
            refine V2_ireturn d_P_car_39 rfl ?_
            exact absurd (by rw [c1_0]; decide) hw
          by_cases c12_1 : w = 1
          · refine V2_tableIn (tgt := 44) (off := 43) d_Car_alter_1 (by rw [c12_1]; decide) (by rw [c12_1]; decide) (by rw [c12_1]; decide) rfl ?_
            refine V2_aload_n (i := 0) d_Car_alter_44 rfl rfl ?_
            refine V2_iload_n (i := 2) d_Car_alter_45 rfl rfl ?_
            refine V2_put d_Car_alter_46 fl_Car_13 (by decide) rfl (by decide) rfl ?_
            refine V2_goto (tgt := 76) d_Car_alter_49 rfl ?_
            refine V2_return d_Car_alter_76 rfl ?_
            refine V2.to (st' := []) ?_ rfl rfl rfl rfl
            refine V2_iload_n (i := 3) d_P_car_38 rfl rfl ?_
            refine V2_ireturn d_P_car_39 rfl ?_
            exact absurd (by rw [c1_0]; decide) hw
          by_cases c12_2 : w = 2
          · refine V2_tableIn (tgt := 52) (off := 51) d_Car_alter_1 (by rw [c12_2]; decide) (by rw [c12_2]; decide) (by rw [c12_2]; decide) rfl ?_
            refine V2_aload_n (i := 0) d_Car_alter_52 rfl rfl ?_
            refine V2_iload_n (i := 2) d_Car_alter_53 rfl rfl ?_
            refine V2_put d_Car_alter_54 fl_Car_16 (by decide) rfl (by decide) rfl ?_
            refine V2_goto (tgt := 76) d_Car_alter_57 rfl ?_
            refine V2_return d_Car_alter_76 rfl ?_
            refine V2.to (st' := []) ?_ rfl rfl rfl rfl
            refine V2_iload_n (i := 3) d_P_car_38 rfl rfl ?_
            refine V2_ireturn d_P_car_39 rfl ?_
            exact absurd (by rw [c1_0]; decide) hw
          by_cases c12_3 : w = 3
          · refine V2_tableIn (tgt := 60) (off := 59) d_Car_alter_1 (by rw [c12_3]; decide) (by rw [c12_3]; decide) (by rw [c12_3]; decide) rfl ?_
            refine V2_aload_n (i := 0) d_Car_alter_60 rfl rfl ?_
            refine V2_iload_n (i := 2) d_Car_alter_61 rfl rfl ?_
            refine V2_put d_Car_alter_62 fl_Car_19 (by decide) rfl (by decide) rfl ?_
            refine V2_goto (tgt := 76) d_Car_alter_65 rfl ?_
            refine V2_return d_Car_alter_76 rfl ?_
            refine V2.to (st' := []) ?_ rfl rfl rfl rfl
            refine V2_iload_n (i := 3) d_P_car_38 rfl rfl ?_
            refine V2_ireturn d_P_car_39 rfl ?_
            exact absurd (by rw [c1_0]; decide) hw
          by_cases c12_4 : w = 4
          · refine V2_tableIn (tgt := 68) (off := 67) d_Car_alter_1 (by rw [c12_4]; decide) (by rw [c12_4]; decide) (by rw [c12_4]; decide) rfl ?_
            refine V2_aload_n (i := 0) d_Car_alter_68 rfl rfl ?_
            refine V2_iload_n (i := 2) d_Car_alter_69 rfl rfl ?_
            refine V2_put d_Car_alter_70 fl_Car_22 (by decide) rfl (by decide) rfl ?_
            refine V2_goto (tgt := 76) d_Car_alter_73 rfl ?_
            refine V2_return d_Car_alter_76 rfl ?_
            refine V2.to (st' := []) ?_ rfl rfl rfl rfl
            refine V2_iload_n (i := 3) d_P_car_38 rfl rfl ?_
            refine V2_ireturn d_P_car_39 rfl ?_
            exact absurd (by rw [c1_0]; decide) hw
          refine V2_tableOut (tgt := 76) d_Car_alter_1 (by have := lv_neT (a := 0) c12_0 rfl; have := lv_neT (a := 1) c12_1 rfl; have := lv_neT (a := 2) c12_2 rfl; have := lv_neT (a := 3) c12_3 rfl; have := lv_neT (a := 4) c12_4 rfl; omega) rfl ?_
          refine V2_return d_Car_alter_76 rfl ?_
          refine V2.to (st' := []) ?_ rfl rfl rfl rfl
          refine V2_iload_n (i := 3) d_P_car_38 rfl rfl ?_
          refine V2_ireturn d_P_car_39 rfl ?_
          exact absurd (by rw [c1_0]; decide) hw
        by_cases c6_3 : w = 3
        · refine V2_tableIn (tgt := 55) (off := 54) d_Car_tells_1 (by rw [c6_3]; decide) (by rw [c6_3]; decide) (by rw [c6_3]; decide) rfl ?_
          refine V2_aload_n (i := 0) d_Car_tells_55 rfl rfl ?_
          refine V2_get (v := F 2 3) d_Car_tells_56 fl_Car_19 (by decide) rfl (by decide) rfl rfl ?_
          refine V2_topi (fun v13 ev13 => ?_)
          refine V2_ireturn d_Car_tells_59 rfl ?_
          refine V2.to (st' := [.int v13]) ?_ rfl rfl rfl rfl
          refine V2_istore_n (i := 3) (l' := [some (.ref 0), some (.int w), some (.int v), some (.int v13)]) d_P_car_25 rfl (xst_i (Nat.le_of_ble_eq_true rfl) rfl rfl) ?_
          refine V2_aload_n (i := 0) d_P_car_26 rfl rfl ?_
          refine V2_getr (a := 1) d_P_car_27 fl_P_10 (by decide) rfl (by decide) rfl ?_
          refine V2_getr (a := 2) d_P_car_30 fl_P_93 (by decide) rfl (by decide) rfl ?_
          refine V2_iload_n (i := 1) d_P_car_33 rfl rfl ?_
          refine V2_iload_n (i := 2) d_P_car_34 rfl rfl ?_
          refine V2_callV [.int w, .int v] d_P_car_35 rfl rfl lk_P_129 mo_Car_alter (by decide) rfl rfl rfl (Nat.le_of_ble_eq_true rfl) (Nat.le_of_ble_eq_true rfl) ?_
          refine V2.to (l' := [some (.ref 2), some (.int w), some (.int v)]) ?_ rfl rfl rfl rfl
          refine V2_iload_n (i := 1) d_Car_alter_0 rfl rfl ?_
          by_cases c14_0 : w = 0
          · refine V2_tableIn (tgt := 36) (off := 35) d_Car_alter_1 (by rw [c14_0]; decide) (by rw [c14_0]; decide) (by rw [c14_0]; decide) rfl ?_
            refine V2_aload_n (i := 0) d_Car_alter_36 rfl rfl ?_
            refine V2_iload_n (i := 2) d_Car_alter_37 rfl rfl ?_
            refine V2_put d_Car_alter_38 fl_Car_7 (by decide) rfl (by decide) rfl ?_
            refine V2_goto (tgt := 76) d_Car_alter_41 rfl ?_
            refine V2_return d_Car_alter_76 rfl ?_
            refine V2.to (st' := []) ?_ rfl rfl rfl rfl
            refine V2_iload_n (i := 3) d_P_car_38 rfl rfl ?_
            refine V2_ireturn d_P_car_39 rfl ?_
            exact absurd (by rw [c1_0]; decide) hw
          by_cases c14_1 : w = 1
          · refine V2_tableIn (tgt := 44) (off := 43) d_Car_alter_1 (by rw [c14_1]; decide) (by rw [c14_1]; decide) (by rw [c14_1]; decide) rfl ?_
            refine V2_aload_n (i := 0) d_Car_alter_44 rfl rfl ?_
            refine V2_iload_n (i := 2) d_Car_alter_45 rfl rfl ?_
            refine V2_put d_Car_alter_46 fl_Car_13 (by decide) rfl (by decide) rfl ?_
            refine V2_goto (tgt := 76) d_Car_alter_49 rfl ?_
            refine V2_return d_Car_alter_76 rfl ?_
            refine V2.to (st' := []) ?_ rfl rfl rfl rfl
            refine V2_iload_n (i := 3) d_P_car_38 rfl rfl ?_
            refine V2_ireturn d_P_car_39 rfl ?_
            exact absurd (by rw [c1_0]; decide) hw
          by_cases c14_2 : w = 2
          · refine V2_tableIn (tgt := 52) (off := 51) d_Car_alter_1 (by rw [c14_2]; decide) (by rw [c14_2]; decide) (by rw [c14_2]; decide) rfl ?_
            refine V2_aload_n (i := 0) d_Car_alter_52 rfl rfl ?_
            refine V2_iload_n (i := 2) d_Car_alter_53 rfl rfl ?_
            refine V2_put d_Car_alter_54 fl_Car_16 (by decide) rfl (by decide) rfl ?_
            refine V2_goto (tgt := 76) d_Car_alter_57 rfl ?_
            refine V2_return d_Car_alter_76 rfl ?_
            refine V2.to (st' := []) ?_ rfl rfl rfl rfl
            refine V2_iload_n (i := 3) d_P_car_38 rfl rfl ?_
            refine V2_ireturn d_P_car_39 rfl ?_
            exact absurd (by rw [c1_0]; decide) hw
          by_cases c14_3 : w = 3
          · refine V2_tableIn (tgt := 60) (off := 59) d_Car_alter_1 (by rw [c14_3]; decide) (by rw [c14_3]; decide) (by rw [c14_3]; decide) rfl ?_
            refine V2_aload_n (i := 0) d_Car_alter_60 rfl rfl ?_
            refine V2_iload_n (i := 2) d_Car_alter_61 rfl rfl ?_
            refine V2_put d_Car_alter_62 fl_Car_19 (by decide) rfl (by decide) rfl ?_
            refine V2_goto (tgt := 76) d_Car_alter_65 rfl ?_
            refine V2_return d_Car_alter_76 rfl ?_
            refine V2.to (st' := []) ?_ rfl rfl rfl rfl
            refine V2_iload_n (i := 3) d_P_car_38 rfl rfl ?_
            refine V2_ireturn d_P_car_39 rfl ?_
            exact absurd (by rw [c1_0]; decide) hw
          by_cases c14_4 : w = 4
          · refine V2_tableIn (tgt := 68) (off := 67) d_Car_alter_1 (by rw [c14_4]; decide) (by rw [c14_4]; decide) (by rw [c14_4]; decide) rfl ?_
            refine V2_aload_n (i := 0) d_Car_alter_68 rfl rfl ?_
            refine V2_iload_n (i := 2) d_Car_alter_69 rfl rfl ?_
            refine V2_put d_Car_alter_70 fl_Car_22 (by decide) rfl (by decide) rfl ?_
            refine V2_goto (tgt := 76) d_Car_alter_73 rfl ?_
            refine V2_return d_Car_alter_76 rfl ?_
            refine V2.to (st' := []) ?_ rfl rfl rfl rfl
            refine V2_iload_n (i := 3) d_P_car_38 rfl rfl ?_
            refine V2_ireturn d_P_car_39 rfl ?_
            exact absurd (by rw [c1_0]; decide) hw
          refine V2_tableOut (tgt := 76) d_Car_alter_1 (by have := lv_neT (a := 0) c14_0 rfl; have := lv_neT (a := 1) c14_1 rfl; have := lv_neT (a := 2) c14_2 rfl; have := lv_neT (a := 3) c14_3 rfl; have := lv_neT (a := 4) c14_4 rfl; omega) rfl ?_
          refine V2_return d_Car_alter_76 rfl ?_
          refine V2.to (st' := []) ?_ rfl rfl rfl rfl
          refine V2_iload_n (i := 3) d_P_car_38 rfl rfl ?_
          refine V2_ireturn d_P_car_39 rfl ?_
          exact absurd (by rw [c1_0]; decide) hw
        by_cases c6_4 : w = 4
        · refine V2_tableIn (tgt := 60) (off := 59) d_Car_tells_1 (by rw [c6_4]; decide) (by rw [c6_4]; decide) (by rw [c6_4]; decide) rfl ?_
          refine V2_aload_n (i := 0) d_Car_tells_60 rfl rfl ?_
          refine V2_get (v := F 2 4) d_Car_tells_61 fl_Car_22 (by decide) rfl (by decide) rfl rfl ?_
          refine V2_topi (fun v15 ev15 => ?_)
          refine V2_ireturn d_Car_tells_64 rfl ?_
          refine V2.to (st' := [.int v15]) ?_ rfl rfl rfl rfl
          refine V2_istore_n (i := 3) (l' := [some (.ref 0), some (.int w), some (.int v), some (.int v15)]) d_P_car_25 rfl (xst_i (Nat.le_of_ble_eq_true rfl) rfl rfl) ?_
          refine V2_aload_n (i := 0) d_P_car_26 rfl rfl ?_
          refine V2_getr (a := 1) d_P_car_27 fl_P_10 (by decide) rfl (by decide) rfl ?_
          refine V2_getr (a := 2) d_P_car_30 fl_P_93 (by decide) rfl (by decide) rfl ?_
          refine V2_iload_n (i := 1) d_P_car_33 rfl rfl ?_
          refine V2_iload_n (i := 2) d_P_car_34 rfl rfl ?_
          refine V2_callV [.int w, .int v] d_P_car_35 rfl rfl lk_P_129 mo_Car_alter (by decide) rfl rfl rfl (Nat.le_of_ble_eq_true rfl) (Nat.le_of_ble_eq_true rfl) ?_
          refine V2.to (l' := [some (.ref 2), some (.int w), some (.int v)]) ?_ rfl rfl rfl rfl
          refine V2_iload_n (i := 1) d_Car_alter_0 rfl rfl ?_
          by_cases c16_0 : w = 0
          · refine V2_tableIn (tgt := 36) (off := 35) d_Car_alter_1 (by rw [c16_0]; decide) (by rw [c16_0]; decide) (by rw [c16_0]; decide) rfl ?_
            refine V2_aload_n (i := 0) d_Car_alter_36 rfl rfl ?_
            refine V2_iload_n (i := 2) d_Car_alter_37 rfl rfl ?_
            refine V2_put d_Car_alter_38 fl_Car_7 (by decide) rfl (by decide) rfl ?_
            refine V2_goto (tgt := 76) d_Car_alter_41 rfl ?_
            refine V2_return d_Car_alter_76 rfl ?_
            refine V2.to (st' := []) ?_ rfl rfl rfl rfl
            refine V2_iload_n (i := 3) d_P_car_38 rfl rfl ?_
            refine V2_ireturn d_P_car_39 rfl ?_
            exact absurd (by rw [c1_0]; decide) hw
          by_cases c16_1 : w = 1
          · refine V2_tableIn (tgt := 44) (off := 43) d_Car_alter_1 (by rw [c16_1]; decide) (by rw [c16_1]; decide) (by rw [c16_1]; decide) rfl ?_
            refine V2_aload_n (i := 0) d_Car_alter_44 rfl rfl ?_
            refine V2_iload_n (i := 2) d_Car_alter_45 rfl rfl ?_
            refine V2_put d_Car_alter_46 fl_Car_13 (by decide) rfl (by decide) rfl ?_
            refine V2_goto (tgt := 76) d_Car_alter_49 rfl ?_
            refine V2_return d_Car_alter_76 rfl ?_
            refine V2.to (st' := []) ?_ rfl rfl rfl rfl
            refine V2_iload_n (i := 3) d_P_car_38 rfl rfl ?_
            refine V2_ireturn d_P_car_39 rfl ?_
            exact absurd (by rw [c1_0]; decide) hw
          by_cases c16_2 : w = 2
          · refine V2_tableIn (tgt := 52) (off := 51) d_Car_alter_1 (by rw [c16_2]; decide) (by rw [c16_2]; decide) (by rw [c16_2]; decide) rfl ?_
            refine V2_aload_n (i := 0) d_Car_alter_52 rfl rfl ?_
            refine V2_iload_n (i := 2) d_Car_alter_53 rfl rfl ?_
            refine V2_put d_Car_alter_54 fl_Car_16 (by decide) rfl (by decide) rfl ?_
            refine V2_goto (tgt := 76) d_Car_alter_57 rfl ?_
            refine V2_return d_Car_alter_76 rfl ?_
            refine V2.to (st' := []) ?_ rfl rfl rfl rfl
            refine V2_iload_n (i := 3) d_P_car_38 rfl rfl ?_
            refine V2_ireturn d_P_car_39 rfl ?_
            exact absurd (by rw [c1_0]; decide) hw
          by_cases c16_3 : w = 3
          · refine V2_tableIn (tgt := 60) (off := 59) d_Car_alter_1 (by rw [c16_3]; decide) (by rw [c16_3]; decide) (by rw [c16_3]; decide) rfl ?_
            refine V2_aload_n (i := 0) d_Car_alter_60 rfl rfl ?_
            refine V2_iload_n (i := 2) d_Car_alter_61 rfl rfl ?_
            refine V2_put d_Car_alter_62 fl_Car_19 (by decide) rfl (by decide) rfl ?_
            refine V2_goto (tgt := 76) d_Car_alter_65 rfl ?_
            refine V2_return d_Car_alter_76 rfl ?_
            refine V2.to (st' := []) ?_ rfl rfl rfl rfl
            refine V2_iload_n (i := 3) d_P_car_38 rfl rfl ?_
            refine V2_ireturn d_P_car_39 rfl ?_
            exact absurd (by rw [c1_0]; decide) hw
          by_cases c16_4 : w = 4
          · refine V2_tableIn (tgt := 68) (off := 67) d_Car_alter_1 (by rw [c16_4]; decide) (by rw [c16_4]; decide) (by rw [c16_4]; decide) rfl ?_
            refine V2_aload_n (i := 0) d_Car_alter_68 rfl rfl ?_
            refine V2_iload_n (i := 2) d_Car_alter_69 rfl rfl ?_
            refine V2_put d_Car_alter_70 fl_Car_22 (by decide) rfl (by decide) rfl ?_
            refine V2_goto (tgt := 76) d_Car_alter_73 rfl ?_
            refine V2_return d_Car_alter_76 rfl ?_
            refine V2.to (st' := []) ?_ rfl rfl rfl rfl
            refine V2_iload_n (i := 3) d_P_car_38 rfl rfl ?_
            refine V2_ireturn d_P_car_39 rfl ?_
            exact absurd (by rw [c1_0]; decide) hw
          refine V2_tableOut (tgt := 76) d_Car_alter_1 (by have := lv_neT (a := 0) c16_0 rfl; have := lv_neT (a := 1) c16_1 rfl; have := lv_neT (a := 2) c16_2 rfl; have := lv_neT (a := 3) c16_3 rfl; have := lv_neT (a := 4) c16_4 rfl; omega) rfl ?_
          refine V2_return d_Car_alter_76 rfl ?_
          refine V2.to (st' := []) ?_ rfl rfl rfl rfl
          refine V2_iload_n (i := 3) d_P_car_38 rfl rfl ?_
          refine V2_ireturn d_P_car_39 rfl ?_
          exact absurd (by rw [c1_0]; decide) hw
        by_cases c6_5 : w = 5
        · refine V2_tableIn (tgt := 65) (off := 64) d_Car_tells_1 (by rw [c6_5]; decide) (by rw [c6_5]; decide) (by rw [c6_5]; decide) rfl ?_
          refine V2_aload_n (i := 0) d_Car_tells_65 rfl rfl ?_
          refine V2_get (v := F 2 7) d_Car_tells_66 fl_Car_31 (by decide) rfl (by decide) rfl rfl ?_
          refine V2_topi (fun v17 ev17 => ?_)
          refine V2_if_eq (tgt := 76) d_Car_tells_69 rfl (fun c18 => ?_) (fun c18 => ?_)
          · refine V2_iconst (v := 0) d_Car_tells_76 rfl ?_
            refine V2_ireturn d_Car_tells_77 rfl ?_
            refine V2.to (st' := [.int (0 : Int32)]) ?_ rfl rfl rfl rfl
            refine V2_istore_n (i := 3) (l' := [some (.ref 0), some (.int w), some (.int v), some (.int (0 : Int32))]) d_P_car_25 rfl (xst_i (Nat.le_of_ble_eq_true rfl) rfl rfl) ?_
            refine V2_aload_n (i := 0) d_P_car_26 rfl rfl ?_
            refine V2_getr (a := 1) d_P_car_27 fl_P_10 (by decide) rfl (by decide) rfl ?_
            refine V2_getr (a := 2) d_P_car_30 fl_P_93 (by decide) rfl (by decide) rfl ?_
            refine V2_iload_n (i := 1) d_P_car_33 rfl rfl ?_
            refine V2_iload_n (i := 2) d_P_car_34 rfl rfl ?_
            refine V2_callV [.int w, .int v] d_P_car_35 rfl rfl lk_P_129 mo_Car_alter (by decide) rfl rfl rfl (Nat.le_of_ble_eq_true rfl) (Nat.le_of_ble_eq_true rfl) ?_
            refine V2.to (l' := [some (.ref 2), some (.int w), some (.int v)]) ?_ rfl rfl rfl rfl
            refine V2_iload_n (i := 1) d_Car_alter_0 rfl rfl ?_
            by_cases c19_0 : w = 0
            · refine V2_tableIn (tgt := 36) (off := 35) d_Car_alter_1 (by rw [c19_0]; decide) (by rw [c19_0]; decide) (by rw [c19_0]; decide) rfl ?_
              refine V2_aload_n (i := 0) d_Car_alter_36 rfl rfl ?_
              refine V2_iload_n (i := 2) d_Car_alter_37 rfl rfl ?_
              refine V2_put d_Car_alter_38 fl_Car_7 (by decide) rfl (by decide) rfl ?_
              refine V2_goto (tgt := 76) d_Car_alter_41 rfl ?_
              refine V2_return d_Car_alter_76 rfl ?_
              refine V2.to (st' := []) ?_ rfl rfl rfl rfl
              refine V2_iload_n (i := 3) d_P_car_38 rfl rfl ?_
              refine V2_ireturn d_P_car_39 rfl ?_
              exact absurd (by rw [c1_0]; decide) hw
            by_cases c19_1 : w = 1
            · refine V2_tableIn (tgt := 44) (off := 43) d_Car_alter_1 (by rw [c19_1]; decide) (by rw [c19_1]; decide) (by rw [c19_1]; decide) rfl ?_
              refine V2_aload_n (i := 0) d_Car_alter_44 rfl rfl ?_
              refine V2_iload_n (i := 2) d_Car_alter_45 rfl rfl ?_
              refine V2_put d_Car_alter_46 fl_Car_13 (by decide) rfl (by decide) rfl ?_
              refine V2_goto (tgt := 76) d_Car_alter_49 rfl ?_
              refine V2_return d_Car_alter_76 rfl ?_
              refine V2.to (st' := []) ?_ rfl rfl rfl rfl
              refine V2_iload_n (i := 3) d_P_car_38 rfl rfl ?_
              refine V2_ireturn d_P_car_39 rfl ?_
              exact absurd (by rw [c1_0]; decide) hw
            by_cases c19_2 : w = 2
            · refine V2_tableIn (tgt := 52) (off := 51) d_Car_alter_1 (by rw [c19_2]; decide) (by rw [c19_2]; decide) (by rw [c19_2]; decide) rfl ?_
              refine V2_aload_n (i := 0) d_Car_alter_52 rfl rfl ?_
              refine V2_iload_n (i := 2) d_Car_alter_53 rfl rfl ?_
              refine V2_put d_Car_alter_54 fl_Car_16 (by decide) rfl (by decide) rfl ?_
              refine V2_goto (tgt := 76) d_Car_alter_57 rfl ?_
              refine V2_return d_Car_alter_76 rfl ?_
              refine V2.to (st' := []) ?_ rfl rfl rfl rfl
              refine V2_iload_n (i := 3) d_P_car_38 rfl rfl ?_
              refine V2_ireturn d_P_car_39 rfl ?_
              exact absurd (by rw [c1_0]; decide) hw
            by_cases c19_3 : w = 3
            · refine V2_tableIn (tgt := 60) (off := 59) d_Car_alter_1 (by rw [c19_3]; decide) (by rw [c19_3]; decide) (by rw [c19_3]; decide) rfl ?_
              refine V2_aload_n (i := 0) d_Car_alter_60 rfl rfl ?_
              refine V2_iload_n (i := 2) d_Car_alter_61 rfl rfl ?_
              refine V2_put d_Car_alter_62 fl_Car_19 (by decide) rfl (by decide) rfl ?_
              refine V2_goto (tgt := 76) d_Car_alter_65 rfl ?_
              refine V2_return d_Car_alter_76 rfl ?_
              refine V2.to (st' := []) ?_ rfl rfl rfl rfl
              refine V2_iload_n (i := 3) d_P_car_38 rfl rfl ?_
              refine V2_ireturn d_P_car_39 rfl ?_
              exact absurd (by rw [c1_0]; decide) hw
            by_cases c19_4 : w = 4
            · refine V2_tableIn (tgt := 68) (off := 67) d_Car_alter_1 (by rw [c19_4]; decide) (by rw [c19_4]; decide) (by rw [c19_4]; decide) rfl ?_
              refine V2_aload_n (i := 0) d_Car_alter_68 rfl rfl ?_
              refine V2_iload_n (i := 2) d_Car_alter_69 rfl rfl ?_
              refine V2_put d_Car_alter_70 fl_Car_22 (by decide) rfl (by decide) rfl ?_
              refine V2_goto (tgt := 76) d_Car_alter_73 rfl ?_
              refine V2_return d_Car_alter_76 rfl ?_
              refine V2.to (st' := []) ?_ rfl rfl rfl rfl
              refine V2_iload_n (i := 3) d_P_car_38 rfl rfl ?_
              refine V2_ireturn d_P_car_39 rfl ?_
              exact absurd (by rw [c1_0]; decide) hw
            refine V2_tableOut (tgt := 76) d_Car_alter_1 (by have := lv_neT (a := 0) c19_0 rfl; have := lv_neT (a := 1) c19_1 rfl; have := lv_neT (a := 2) c19_2 rfl; have := lv_neT (a := 3) c19_3 rfl; have := lv_neT (a := 4) c19_4 rfl; omega) rfl ?_
            refine V2_return d_Car_alter_76 rfl ?_
            refine V2.to (st' := []) ?_ rfl rfl rfl rfl
            refine V2_iload_n (i := 3) d_P_car_38 rfl rfl ?_
            refine V2_ireturn d_P_car_39 rfl ?_
            exact absurd (by rw [c1_0]; decide) hw
          · refine V2_iconst (v := 1) d_Car_tells_72 rfl ?_
            refine V2_goto (tgt := 77) d_Car_tells_73 rfl ?_
            refine V2_ireturn d_Car_tells_77 rfl ?_
            refine V2.to (st' := [.int (1 : Int32)]) ?_ rfl rfl rfl rfl
            refine V2_istore_n (i := 3) (l' := [some (.ref 0), some (.int w), some (.int v), some (.int (1 : Int32))]) d_P_car_25 rfl (xst_i (Nat.le_of_ble_eq_true rfl) rfl rfl) ?_
            refine V2_aload_n (i := 0) d_P_car_26 rfl rfl ?_
            refine V2_getr (a := 1) d_P_car_27 fl_P_10 (by decide) rfl (by decide) rfl ?_
            refine V2_getr (a := 2) d_P_car_30 fl_P_93 (by decide) rfl (by decide) rfl ?_
            refine V2_iload_n (i := 1) d_P_car_33 rfl rfl ?_
            refine V2_iload_n (i := 2) d_P_car_34 rfl rfl ?_
            refine V2_callV [.int w, .int v] d_P_car_35 rfl rfl lk_P_129 mo_Car_alter (by decide) rfl rfl rfl (Nat.le_of_ble_eq_true rfl) (Nat.le_of_ble_eq_true rfl) ?_
            refine V2.to (l' := [some (.ref 2), some (.int w), some (.int v)]) ?_ rfl rfl rfl rfl
            refine V2_iload_n (i := 1) d_Car_alter_0 rfl rfl ?_
            by_cases c20_0 : w = 0
            · refine V2_tableIn (tgt := 36) (off := 35) d_Car_alter_1 (by rw [c20_0]; decide) (by rw [c20_0]; decide) (by rw [c20_0]; decide) rfl ?_
              refine V2_aload_n (i := 0) d_Car_alter_36 rfl rfl ?_
              refine V2_iload_n (i := 2) d_Car_alter_37 rfl rfl ?_
              refine V2_put d_Car_alter_38 fl_Car_7 (by decide) rfl (by decide) rfl ?_
              refine V2_goto (tgt := 76) d_Car_alter_41 rfl ?_
              refine V2_return d_Car_alter_76 rfl ?_
              refine V2.to (st' := []) ?_ rfl rfl rfl rfl
              refine V2_iload_n (i := 3) d_P_car_38 rfl rfl ?_
              refine V2_ireturn d_P_car_39 rfl ?_
              exact absurd (by rw [c1_0]; decide) hw
            by_cases c20_1 : w = 1
            · refine V2_tableIn (tgt := 44) (off := 43) d_Car_alter_1 (by rw [c20_1]; decide) (by rw [c20_1]; decide) (by rw [c20_1]; decide) rfl ?_
              refine V2_aload_n (i := 0) d_Car_alter_44 rfl rfl ?_
              refine V2_iload_n (i := 2) d_Car_alter_45 rfl rfl ?_
              refine V2_put d_Car_alter_46 fl_Car_13 (by decide) rfl (by decide) rfl ?_
              refine V2_goto (tgt := 76) d_Car_alter_49 rfl ?_
              refine V2_return d_Car_alter_76 rfl ?_
              refine V2.to (st' := []) ?_ rfl rfl rfl rfl
              refine V2_iload_n (i := 3) d_P_car_38 rfl rfl ?_
              refine V2_ireturn d_P_car_39 rfl ?_
              exact absurd (by rw [c1_0]; decide) hw
            by_cases c20_2 : w = 2
            · refine V2_tableIn (tgt := 52) (off := 51) d_Car_alter_1 (by rw [c20_2]; decide) (by rw [c20_2]; decide) (by rw [c20_2]; decide) rfl ?_
              refine V2_aload_n (i := 0) d_Car_alter_52 rfl rfl ?_
              refine V2_iload_n (i := 2) d_Car_alter_53 rfl rfl ?_
              refine V2_put d_Car_alter_54 fl_Car_16 (by decide) rfl (by decide) rfl ?_
              refine V2_goto (tgt := 76) d_Car_alter_57 rfl ?_
              refine V2_return d_Car_alter_76 rfl ?_
              refine V2.to (st' := []) ?_ rfl rfl rfl rfl
              refine V2_iload_n (i := 3) d_P_car_38 rfl rfl ?_
              refine V2_ireturn d_P_car_39 rfl ?_
              exact absurd (by rw [c1_0]; decide) hw
            by_cases c20_3 : w = 3
            · refine V2_tableIn (tgt := 60) (off := 59) d_Car_alter_1 (by rw [c20_3]; decide) (by rw [c20_3]; decide) (by rw [c20_3]; decide) rfl ?_
              refine V2_aload_n (i := 0) d_Car_alter_60 rfl rfl ?_
              refine V2_iload_n (i := 2) d_Car_alter_61 rfl rfl ?_
              refine V2_put d_Car_alter_62 fl_Car_19 (by decide) rfl (by decide) rfl ?_
              refine V2_goto (tgt := 76) d_Car_alter_65 rfl ?_
              refine V2_return d_Car_alter_76 rfl ?_
              refine V2.to (st' := []) ?_ rfl rfl rfl rfl
              refine V2_iload_n (i := 3) d_P_car_38 rfl rfl ?_
              refine V2_ireturn d_P_car_39 rfl ?_
              exact absurd (by rw [c1_0]; decide) hw
            by_cases c20_4 : w = 4
            · refine V2_tableIn (tgt := 68) (off := 67) d_Car_alter_1 (by rw [c20_4]; decide) (by rw [c20_4]; decide) (by rw [c20_4]; decide) rfl ?_
              refine V2_aload_n (i := 0) d_Car_alter_68 rfl rfl ?_
              refine V2_iload_n (i := 2) d_Car_alter_69 rfl rfl ?_
              refine V2_put d_Car_alter_70 fl_Car_22 (by decide) rfl (by decide) rfl ?_
              refine V2_goto (tgt := 76) d_Car_alter_73 rfl ?_
              refine V2_return d_Car_alter_76 rfl ?_
              refine V2.to (st' := []) ?_ rfl rfl rfl rfl
              refine V2_iload_n (i := 3) d_P_car_38 rfl rfl ?_
              refine V2_ireturn d_P_car_39 rfl ?_
              exact absurd (by rw [c1_0]; decide) hw
            refine V2_tableOut (tgt := 76) d_Car_alter_1 (by have := lv_neT (a := 0) c20_0 rfl; have := lv_neT (a := 1) c20_1 rfl; have := lv_neT (a := 2) c20_2 rfl; have := lv_neT (a := 3) c20_3 rfl; have := lv_neT (a := 4) c20_4 rfl; omega) rfl ?_
            refine V2_return d_Car_alter_76 rfl ?_
            refine V2.to (st' := []) ?_ rfl rfl rfl rfl
            refine V2_iload_n (i := 3) d_P_car_38 rfl rfl ?_
            refine V2_ireturn d_P_car_39 rfl ?_
            exact absurd (by rw [c1_0]; decide) hw
        refine V2_tableOut (tgt := 78) d_Car_tells_1 (by have := lv_neT (a := 0) c6_0 rfl; have := lv_neT (a := 1) c6_1 rfl; have := lv_neT (a := 2) c6_2 rfl; have := lv_neT (a := 3) c6_3 rfl; have := lv_neT (a := 4) c6_4 rfl; have := lv_neT (a := 5) c6_5 rfl; omega) rfl ?_
        refine V2_aload_n (i := 0) d_Car_tells_78 rfl rfl ?_
        refine V2_get (v := F 2 6) d_Car_tells_79 fl_Car_28 (by decide) rfl (by decide) rfl rfl ?_
        refine V2_topi (fun v21 ev21 => ?_)
        refine V2_ireturn d_Car_tells_82 rfl ?_
        refine V2.to (st' := [.int v21]) ?_ rfl rfl rfl rfl
        refine V2_istore_n (i := 3) (l' := [some (.ref 0), some (.int w), some (.int v), some (.int v21)]) d_P_car_25 rfl (xst_i (Nat.le_of_ble_eq_true rfl) rfl rfl) ?_
        refine V2_aload_n (i := 0) d_P_car_26 rfl rfl ?_
        refine V2_getr (a := 1) d_P_car_27 fl_P_10 (by decide) rfl (by decide) rfl ?_
        refine V2_getr (a := 2) d_P_car_30 fl_P_93 (by decide) rfl (by decide) rfl ?_
        refine V2_iload_n (i := 1) d_P_car_33 rfl rfl ?_
        refine V2_iload_n (i := 2) d_P_car_34 rfl rfl ?_
        refine V2_callV [.int w, .int v] d_P_car_35 rfl rfl lk_P_129 mo_Car_alter (by decide) rfl rfl rfl (Nat.le_of_ble_eq_true rfl) (Nat.le_of_ble_eq_true rfl) ?_
        refine V2.to (l' := [some (.ref 2), some (.int w), some (.int v)]) ?_ rfl rfl rfl rfl
        refine V2_iload_n (i := 1) d_Car_alter_0 rfl rfl ?_
        by_cases c22_0 : w = 0
        · refine V2_tableIn (tgt := 36) (off := 35) d_Car_alter_1 (by rw [c22_0]; decide) (by rw [c22_0]; decide) (by rw [c22_0]; decide) rfl ?_
          refine V2_aload_n (i := 0) d_Car_alter_36 rfl rfl ?_
          refine V2_iload_n (i := 2) d_Car_alter_37 rfl rfl ?_
          refine V2_put d_Car_alter_38 fl_Car_7 (by decide) rfl (by decide) rfl ?_
          refine V2_goto (tgt := 76) d_Car_alter_41 rfl ?_
          refine V2_return d_Car_alter_76 rfl ?_
          refine V2.to (st' := []) ?_ rfl rfl rfl rfl
          refine V2_iload_n (i := 3) d_P_car_38 rfl rfl ?_
          refine V2_ireturn d_P_car_39 rfl ?_
          exact absurd (by rw [c1_0]; decide) hw
        by_cases c22_1 : w = 1
        · refine V2_tableIn (tgt := 44) (off := 43) d_Car_alter_1 (by rw [c22_1]; decide) (by rw [c22_1]; decide) (by rw [c22_1]; decide) rfl ?_
          refine V2_aload_n (i := 0) d_Car_alter_44 rfl rfl ?_
          refine V2_iload_n (i := 2) d_Car_alter_45 rfl rfl ?_
          refine V2_put d_Car_alter_46 fl_Car_13 (by decide) rfl (by decide) rfl ?_
          refine V2_goto (tgt := 76) d_Car_alter_49 rfl ?_
          refine V2_return d_Car_alter_76 rfl ?_
          refine V2.to (st' := []) ?_ rfl rfl rfl rfl
          refine V2_iload_n (i := 3) d_P_car_38 rfl rfl ?_
          refine V2_ireturn d_P_car_39 rfl ?_
          exact absurd (by rw [c1_0]; decide) hw
        by_cases c22_2 : w = 2
        · refine V2_tableIn (tgt := 52) (off := 51) d_Car_alter_1 (by rw [c22_2]; decide) (by rw [c22_2]; decide) (by rw [c22_2]; decide) rfl ?_
          refine V2_aload_n (i := 0) d_Car_alter_52 rfl rfl ?_
          refine V2_iload_n (i := 2) d_Car_alter_53 rfl rfl ?_
          refine V2_put d_Car_alter_54 fl_Car_16 (by decide) rfl (by decide) rfl ?_
          refine V2_goto (tgt := 76) d_Car_alter_57 rfl ?_
          refine V2_return d_Car_alter_76 rfl ?_
          refine V2.to (st' := []) ?_ rfl rfl rfl rfl
          refine V2_iload_n (i := 3) d_P_car_38 rfl rfl ?_
          refine V2_ireturn d_P_car_39 rfl ?_
          exact absurd (by rw [c1_0]; decide) hw
        by_cases c22_3 : w = 3
        · refine V2_tableIn (tgt := 60) (off := 59) d_Car_alter_1 (by rw [c22_3]; decide) (by rw [c22_3]; decide) (by rw [c22_3]; decide) rfl ?_
          refine V2_aload_n (i := 0) d_Car_alter_60 rfl rfl ?_
          refine V2_iload_n (i := 2) d_Car_alter_61 rfl rfl ?_
          refine V2_put d_Car_alter_62 fl_Car_19 (by decide) rfl (by decide) rfl ?_
          refine V2_goto (tgt := 76) d_Car_alter_65 rfl ?_
          refine V2_return d_Car_alter_76 rfl ?_
          refine V2.to (st' := []) ?_ rfl rfl rfl rfl
          refine V2_iload_n (i := 3) d_P_car_38 rfl rfl ?_
          refine V2_ireturn d_P_car_39 rfl ?_
          exact absurd (by rw [c1_0]; decide) hw
        by_cases c22_4 : w = 4
        · refine V2_tableIn (tgt := 68) (off := 67) d_Car_alter_1 (by rw [c22_4]; decide) (by rw [c22_4]; decide) (by rw [c22_4]; decide) rfl ?_
          refine V2_aload_n (i := 0) d_Car_alter_68 rfl rfl ?_
          refine V2_iload_n (i := 2) d_Car_alter_69 rfl rfl ?_
          refine V2_put d_Car_alter_70 fl_Car_22 (by decide) rfl (by decide) rfl ?_
          refine V2_goto (tgt := 76) d_Car_alter_73 rfl ?_
          refine V2_return d_Car_alter_76 rfl ?_
          refine V2.to (st' := []) ?_ rfl rfl rfl rfl
          refine V2_iload_n (i := 3) d_P_car_38 rfl rfl ?_
          refine V2_ireturn d_P_car_39 rfl ?_
          exact absurd (by rw [c1_0]; decide) hw
        refine V2_tableOut (tgt := 76) d_Car_alter_1 (by have := lv_neT (a := 0) c22_0 rfl; have := lv_neT (a := 1) c22_1 rfl; have := lv_neT (a := 2) c22_2 rfl; have := lv_neT (a := 3) c22_3 rfl; have := lv_neT (a := 4) c22_4 rfl; omega) rfl ?_
        refine V2_return d_Car_alter_76 rfl ?_
        refine V2.to (st' := []) ?_ rfl rfl rfl rfl
        refine V2_iload_n (i := 3) d_P_car_38 rfl rfl ?_
        refine V2_ireturn d_P_car_39 rfl ?_
        exact absurd (by rw [c1_0]; decide) hw
  by_cases c1_1 : w = 1
  · refine V2_tableIn (tgt := 44) (off := 43) d_Car_canBecome_1 (by rw [c1_1]; decide) (by rw [c1_1]; decide) (by rw [c1_1]; decide) rfl ?_
    refine V2_iload_n (i := 1) d_Car_canBecome_44 rfl rfl ?_
    refine V2_iconst (v := 0) d_Car_canBecome_45 rfl ?_
    refine V2_bipush (v := 99) d_Car_canBecome_46 rfl ?_
    refine V2_callS [.int v, .int (0 : Int32), .int (99 : Int32)] d_Car_canBecome_48 rfl rfl lk_Car_35 mo_P_within (Nat.le_of_ble_eq_true rfl) (Nat.le_of_ble_eq_true rfl) ?_
    refine V2.to (l' := [some (.int v), some (.int (0 : Int32)), some (.int (99 : Int32))]) ?_ rfl rfl rfl rfl
    refine V2_iload_n (i := 0) d_P_within_0 rfl rfl ?_
    refine V2_iload_n (i := 1) d_P_within_1 rfl rfl ?_
    refine V2_icmp_lt (tgt := 14) d_P_within_2 rfl (fun c23 => ?_) (fun c23 => ?_)
    · refine V2_iconst (v := 0) d_P_within_14 rfl ?_
      refine V2_zreturn d_P_within_15 rfl (by decide) ?_
      refine V2.to (st' := [.int (0 : Int32)]) ?_ rfl rfl rfl rfl
      refine V2_zreturn d_Car_canBecome_51 rfl (by decide) ?_
      refine V2.to (st' := [.int (0 : Int32)]) ?_ rfl rfl rfl rfl
      refine V2_if_ne (tgt := 14) d_P_car_5 rfl (fun c => (by first | exact absurd c (by decide) | exact absurd (by decide) c)) (fun _ => ?_)
      refine V2_aload_n (i := 0) d_P_car_8 rfl rfl ?_
      refine V2_iconst (v := 1) d_P_car_9 rfl ?_
      refine V2_callV [.int (1 : Int32)] d_P_car_10 rfl rfl lk_P_66 mo_P_fails (by decide) rfl rfl rfl (Nat.le_of_ble_eq_true rfl) (Nat.le_of_ble_eq_true rfl) ?_
      refine c_P_fails1 ?_
      refine V2_topi (fun v24 ev24 => ?_)
      refine V2_ireturn d_P_car_13 rfl ?_
      exact absurd (by rw [c1_1]; decide) hw
    · refine V2_iload_n (i := 0) d_P_within_5 rfl rfl ?_
      refine V2_iload_n (i := 2) d_P_within_6 rfl rfl ?_
      refine V2_icmp_gt (tgt := 14) d_P_within_7 rfl (fun c25 => ?_) (fun c25 => ?_)
      · refine V2_iconst (v := 0) d_P_within_14 rfl ?_
        refine V2_zreturn d_P_within_15 rfl (by decide) ?_
        refine V2.to (st' := [.int (0 : Int32)]) ?_ rfl rfl rfl rfl
        refine V2_zreturn d_Car_canBecome_51 rfl (by decide) ?_
        refine V2.to (st' := [.int (0 : Int32)]) ?_ rfl rfl rfl rfl
        refine V2_if_ne (tgt := 14) d_P_car_5 rfl (fun c => (by first | exact absurd c (by decide) | exact absurd (by decide) c)) (fun _ => ?_)
        refine V2_aload_n (i := 0) d_P_car_8 rfl rfl ?_
        refine V2_iconst (v := 1) d_P_car_9 rfl ?_
        refine V2_callV [.int (1 : Int32)] d_P_car_10 rfl rfl lk_P_66 mo_P_fails (by decide) rfl rfl rfl (Nat.le_of_ble_eq_true rfl) (Nat.le_of_ble_eq_true rfl) ?_
        refine c_P_fails1 ?_
        refine V2_topi (fun v26 ev26 => ?_)
        refine V2_ireturn d_P_car_13 rfl ?_
        exact absurd (by rw [c1_1]; decide) hw
      · refine V2_iconst (v := 1) d_P_within_10 rfl ?_
        refine V2_goto (tgt := 15) d_P_within_11 rfl ?_
        refine V2_zreturn d_P_within_15 rfl (by decide) ?_
        refine V2.to (st' := [.int (1 : Int32)]) ?_ rfl rfl rfl rfl
        refine V2_zreturn d_Car_canBecome_51 rfl (by decide) ?_
        refine V2.to (st' := [.int (1 : Int32)]) ?_ rfl rfl rfl rfl
        refine V2_if_ne (tgt := 14) d_P_car_5 rfl (fun _ => ?_) (fun c => (by first | exact absurd c (by decide) | exact absurd (by decide) c))
        refine V2_aload_n (i := 0) d_P_car_14 rfl rfl ?_
        refine V2_getr (a := 1) d_P_car_15 fl_P_10 (by decide) rfl (by decide) rfl ?_
        refine V2_getr (a := 2) d_P_car_18 fl_P_93 (by decide) rfl (by decide) rfl ?_
        refine V2_iload_n (i := 1) d_P_car_21 rfl rfl ?_
        refine V2_callV [.int w] d_P_car_22 rfl rfl lk_P_126 mo_Car_tells (by decide) rfl rfl rfl (Nat.le_of_ble_eq_true rfl) (Nat.le_of_ble_eq_true rfl) ?_
        refine V2.to (l' := [some (.ref 2), some (.int w)]) ?_ rfl rfl rfl rfl
        refine V2_iload_n (i := 1) d_Car_tells_0 rfl rfl ?_
        by_cases c27_0 : w = 0
        · refine V2_tableIn (tgt := 40) (off := 39) d_Car_tells_1 (by rw [c27_0]; decide) (by rw [c27_0]; decide) (by rw [c27_0]; decide) rfl ?_
          refine V2_aload_n (i := 0) d_Car_tells_40 rfl rfl ?_
          refine V2_get (v := F 2 0) d_Car_tells_41 fl_Car_7 (by decide) rfl (by decide) rfl rfl ?_
          refine V2_topi (fun v28 ev28 => ?_)
          refine V2_ireturn d_Car_tells_44 rfl ?_
          refine V2.to (st' := [.int v28]) ?_ rfl rfl rfl rfl
          refine V2_istore_n (i := 3) (l' := [some (.ref 0), some (.int w), some (.int v), some (.int v28)]) d_P_car_25 rfl (xst_i (Nat.le_of_ble_eq_true rfl) rfl rfl) ?_
          refine V2_aload_n (i := 0) d_P_car_26 rfl rfl ?_
          refine V2_getr (a := 1) d_P_car_27 fl_P_10 (by decide) rfl (by decide) rfl ?_
          refine V2_getr (a := 2) d_P_car_30 fl_P_93 (by decide) rfl (by decide) rfl ?_
          refine V2_iload_n (i := 1) d_P_car_33 rfl rfl ?_
          refine V2_iload_n (i := 2) d_P_car_34 rfl rfl ?_
          refine V2_callV [.int w, .int v] d_P_car_35 rfl rfl lk_P_129 mo_Car_alter (by decide) rfl rfl rfl (Nat.le_of_ble_eq_true rfl) (Nat.le_of_ble_eq_true rfl) ?_
          refine V2.to (l' := [some (.ref 2), some (.int w), some (.int v)]) ?_ rfl rfl rfl rfl
          refine V2_iload_n (i := 1) d_Car_alter_0 rfl rfl ?_
          by_cases c29_0 : w = 0
          · refine V2_tableIn (tgt := 36) (off := 35) d_Car_alter_1 (by rw [c29_0]; decide) (by rw [c29_0]; decide) (by rw [c29_0]; decide) rfl ?_
            refine V2_aload_n (i := 0) d_Car_alter_36 rfl rfl ?_
            refine V2_iload_n (i := 2) d_Car_alter_37 rfl rfl ?_
            refine V2_put d_Car_alter_38 fl_Car_7 (by decide) rfl (by decide) rfl ?_
            refine V2_goto (tgt := 76) d_Car_alter_41 rfl ?_
            refine V2_return d_Car_alter_76 rfl ?_
            refine V2.to (st' := []) ?_ rfl rfl rfl rfl
            refine V2_iload_n (i := 3) d_P_car_38 rfl rfl ?_
            refine V2_ireturn d_P_car_39 rfl ?_
            exact absurd (by rw [c1_1]; decide) hw
          by_cases c29_1 : w = 1
          · refine V2_tableIn (tgt := 44) (off := 43) d_Car_alter_1 (by rw [c29_1]; decide) (by rw [c29_1]; decide) (by rw [c29_1]; decide) rfl ?_
            refine V2_aload_n (i := 0) d_Car_alter_44 rfl rfl ?_
            refine V2_iload_n (i := 2) d_Car_alter_45 rfl rfl ?_
            refine V2_put d_Car_alter_46 fl_Car_13 (by decide) rfl (by decide) rfl ?_
            refine V2_goto (tgt := 76) d_Car_alter_49 rfl ?_
            refine V2_return d_Car_alter_76 rfl ?_
            refine V2.to (st' := []) ?_ rfl rfl rfl rfl
            refine V2_iload_n (i := 3) d_P_car_38 rfl rfl ?_
            refine V2_ireturn d_P_car_39 rfl ?_
            exact absurd (by rw [c1_1]; decide) hw
          by_cases c29_2 : w = 2
          · refine V2_tableIn (tgt := 52) (off := 51) d_Car_alter_1 (by rw [c29_2]; decide) (by rw [c29_2]; decide) (by rw [c29_2]; decide) rfl ?_
            refine V2_aload_n (i := 0) d_Car_alter_52 rfl rfl ?_
            refine V2_iload_n (i := 2) d_Car_alter_53 rfl rfl ?_
            refine V2_put d_Car_alter_54 fl_Car_16 (by decide) rfl (by decide) rfl ?_
            refine V2_goto (tgt := 76) d_Car_alter_57 rfl ?_
            refine V2_return d_Car_alter_76 rfl ?_
            refine V2.to (st' := []) ?_ rfl rfl rfl rfl
            refine V2_iload_n (i := 3) d_P_car_38 rfl rfl ?_
            refine V2_ireturn d_P_car_39 rfl ?_
            exact absurd (by rw [c1_1]; decide) hw
          by_cases c29_3 : w = 3
          · refine V2_tableIn (tgt := 60) (off := 59) d_Car_alter_1 (by rw [c29_3]; decide) (by rw [c29_3]; decide) (by rw [c29_3]; decide) rfl ?_
            refine V2_aload_n (i := 0) d_Car_alter_60 rfl rfl ?_
            refine V2_iload_n (i := 2) d_Car_alter_61 rfl rfl ?_
            refine V2_put d_Car_alter_62 fl_Car_19 (by decide) rfl (by decide) rfl ?_
            refine V2_goto (tgt := 76) d_Car_alter_65 rfl ?_
            refine V2_return d_Car_alter_76 rfl ?_
            refine V2.to (st' := []) ?_ rfl rfl rfl rfl
            refine V2_iload_n (i := 3) d_P_car_38 rfl rfl ?_
            refine V2_ireturn d_P_car_39 rfl ?_
            exact absurd (by rw [c1_1]; decide) hw
          by_cases c29_4 : w = 4
          · refine V2_tableIn (tgt := 68) (off := 67) d_Car_alter_1 (by rw [c29_4]; decide) (by rw [c29_4]; decide) (by rw [c29_4]; decide) rfl ?_
            refine V2_aload_n (i := 0) d_Car_alter_68 rfl rfl ?_
            refine V2_iload_n (i := 2) d_Car_alter_69 rfl rfl ?_
            refine V2_put d_Car_alter_70 fl_Car_22 (by decide) rfl (by decide) rfl ?_
            refine V2_goto (tgt := 76) d_Car_alter_73 rfl ?_
            refine V2_return d_Car_alter_76 rfl ?_
            refine V2.to (st' := []) ?_ rfl rfl rfl rfl
            refine V2_iload_n (i := 3) d_P_car_38 rfl rfl ?_
            refine V2_ireturn d_P_car_39 rfl ?_
            exact absurd (by rw [c1_1]; decide) hw
          refine V2_tableOut (tgt := 76) d_Car_alter_1 (by have := lv_neT (a := 0) c29_0 rfl; have := lv_neT (a := 1) c29_1 rfl; have := lv_neT (a := 2) c29_2 rfl; have := lv_neT (a := 3) c29_3 rfl; have := lv_neT (a := 4) c29_4 rfl; omega) rfl ?_
          refine V2_return d_Car_alter_76 rfl ?_
          refine V2.to (st' := []) ?_ rfl rfl rfl rfl
          refine V2_iload_n (i := 3) d_P_car_38 rfl rfl ?_
          refine V2_ireturn d_P_car_39 rfl ?_
          exact absurd (by rw [c1_1]; decide) hw
        by_cases c27_1 : w = 1
        · refine V2_tableIn (tgt := 45) (off := 44) d_Car_tells_1 (by rw [c27_1]; decide) (by rw [c27_1]; decide) (by rw [c27_1]; decide) rfl ?_
          refine V2_aload_n (i := 0) d_Car_tells_45 rfl rfl ?_
          refine V2_get (v := F 2 1) d_Car_tells_46 fl_Car_13 (by decide) rfl (by decide) rfl rfl ?_
          refine V2_topi (fun v30 ev30 => ?_)
          refine V2_ireturn d_Car_tells_49 rfl ?_
          refine V2.to (st' := [.int v30]) ?_ rfl rfl rfl rfl
          refine V2_istore_n (i := 3) (l' := [some (.ref 0), some (.int w), some (.int v), some (.int v30)]) d_P_car_25 rfl (xst_i (Nat.le_of_ble_eq_true rfl) rfl rfl) ?_
          refine V2_aload_n (i := 0) d_P_car_26 rfl rfl ?_
          refine V2_getr (a := 1) d_P_car_27 fl_P_10 (by decide) rfl (by decide) rfl ?_
          refine V2_getr (a := 2) d_P_car_30 fl_P_93 (by decide) rfl (by decide) rfl ?_
          refine V2_iload_n (i := 1) d_P_car_33 rfl rfl ?_
          refine V2_iload_n (i := 2) d_P_car_34 rfl rfl ?_
          refine V2_callV [.int w, .int v] d_P_car_35 rfl rfl lk_P_129 mo_Car_alter (by decide) rfl rfl rfl (Nat.le_of_ble_eq_true rfl) (Nat.le_of_ble_eq_true rfl) ?_
          refine V2.to (l' := [some (.ref 2), some (.int w), some (.int v)]) ?_ rfl rfl rfl rfl
          refine V2_iload_n (i := 1) d_Car_alter_0 rfl rfl ?_
          by_cases c31_0 : w = 0
          · refine V2_tableIn (tgt := 36) (off := 35) d_Car_alter_1 (by rw [c31_0]; decide) (by rw [c31_0]; decide) (by rw [c31_0]; decide) rfl ?_
            refine V2_aload_n (i := 0) d_Car_alter_36 rfl rfl ?_
            refine V2_iload_n (i := 2) d_Car_alter_37 rfl rfl ?_
            refine V2_put d_Car_alter_38 fl_Car_7 (by decide) rfl (by decide) rfl ?_
            refine V2_goto (tgt := 76) d_Car_alter_41 rfl ?_
            refine V2_return d_Car_alter_76 rfl ?_
            refine V2.to (st' := []) ?_ rfl rfl rfl rfl
            refine V2_iload_n (i := 3) d_P_car_38 rfl rfl ?_
            refine V2_ireturn d_P_car_39 rfl ?_
            exact absurd (by rw [c1_1]; decide) hw
          by_cases c31_1 : w = 1
          · refine V2_tableIn (tgt := 44) (off := 43) d_Car_alter_1 (by rw [c31_1]; decide) (by rw [c31_1]; decide) (by rw [c31_1]; decide) rfl ?_
            refine V2_aload_n (i := 0) d_Car_alter_44 rfl rfl ?_
            refine V2_iload_n (i := 2) d_Car_alter_45 rfl rfl ?_
            refine V2_put d_Car_alter_46 fl_Car_13 (by decide) rfl (by decide) rfl ?_
            refine V2_goto (tgt := 76) d_Car_alter_49 rfl ?_
            refine V2_return d_Car_alter_76 rfl ?_
            refine V2.to (st' := []) ?_ rfl rfl rfl rfl
            refine V2_iload_n (i := 3) d_P_car_38 rfl rfl ?_
            refine V2_ireturn d_P_car_39 rfl ?_
            exact absurd (by rw [c1_1]; decide) hw
          by_cases c31_2 : w = 2
          · refine V2_tableIn (tgt := 52) (off := 51) d_Car_alter_1 (by rw [c31_2]; decide) (by rw [c31_2]; decide) (by rw [c31_2]; decide) rfl ?_
            refine V2_aload_n (i := 0) d_Car_alter_52 rfl rfl ?_
            refine V2_iload_n (i := 2) d_Car_alter_53 rfl rfl ?_
            refine V2_put d_Car_alter_54 fl_Car_16 (by decide) rfl (by decide) rfl ?_
            refine V2_goto (tgt := 76) d_Car_alter_57 rfl ?_
            refine V2_return d_Car_alter_76 rfl ?_
            refine V2.to (st' := []) ?_ rfl rfl rfl rfl
            refine V2_iload_n (i := 3) d_P_car_38 rfl rfl ?_
            refine V2_ireturn d_P_car_39 rfl ?_
            exact absurd (by rw [c1_1]; decide) hw
          by_cases c31_3 : w = 3
          · refine V2_tableIn (tgt := 60) (off := 59) d_Car_alter_1 (by rw [c31_3]; decide) (by rw [c31_3]; decide) (by rw [c31_3]; decide) rfl ?_
            refine V2_aload_n (i := 0) d_Car_alter_60 rfl rfl ?_
            refine V2_iload_n (i := 2) d_Car_alter_61 rfl rfl ?_
            refine V2_put d_Car_alter_62 fl_Car_19 (by decide) rfl (by decide) rfl ?_
            refine V2_goto (tgt := 76) d_Car_alter_65 rfl ?_
            refine V2_return d_Car_alter_76 rfl ?_
            refine V2.to (st' := []) ?_ rfl rfl rfl rfl
            refine V2_iload_n (i := 3) d_P_car_38 rfl rfl ?_
            refine V2_ireturn d_P_car_39 rfl ?_
            exact absurd (by rw [c1_1]; decide) hw
          by_cases c31_4 : w = 4
          · refine V2_tableIn (tgt := 68) (off := 67) d_Car_alter_1 (by rw [c31_4]; decide) (by rw [c31_4]; decide) (by rw [c31_4]; decide) rfl ?_
            refine V2_aload_n (i := 0) d_Car_alter_68 rfl rfl ?_
            refine V2_iload_n (i := 2) d_Car_alter_69 rfl rfl ?_
            refine V2_put d_Car_alter_70 fl_Car_22 (by decide) rfl (by decide) rfl ?_
            refine V2_goto (tgt := 76) d_Car_alter_73 rfl ?_
            refine V2_return d_Car_alter_76 rfl ?_
            refine V2.to (st' := []) ?_ rfl rfl rfl rfl
            refine V2_iload_n (i := 3) d_P_car_38 rfl rfl ?_
            refine V2_ireturn d_P_car_39 rfl ?_
            exact absurd (by rw [c1_1]; decide) hw
          refine V2_tableOut (tgt := 76) d_Car_alter_1 (by have := lv_neT (a := 0) c31_0 rfl; have := lv_neT (a := 1) c31_1 rfl; have := lv_neT (a := 2) c31_2 rfl; have := lv_neT (a := 3) c31_3 rfl; have := lv_neT (a := 4) c31_4 rfl; omega) rfl ?_
          refine V2_return d_Car_alter_76 rfl ?_
          refine V2.to (st' := []) ?_ rfl rfl rfl rfl
          refine V2_iload_n (i := 3) d_P_car_38 rfl rfl ?_
          refine V2_ireturn d_P_car_39 rfl ?_
          exact absurd (by rw [c1_1]; decide) hw
        by_cases c27_2 : w = 2
        · refine V2_tableIn (tgt := 50) (off := 49) d_Car_tells_1 (by rw [c27_2]; decide) (by rw [c27_2]; decide) (by rw [c27_2]; decide) rfl ?_
          refine V2_aload_n (i := 0) d_Car_tells_50 rfl rfl ?_
          refine V2_get (v := F 2 2) d_Car_tells_51 fl_Car_16 (by decide) rfl (by decide) rfl rfl ?_
          refine V2_topi (fun v32 ev32 => ?_)
          refine V2_ireturn d_Car_tells_54 rfl ?_
          refine V2.to (st' := [.int v32]) ?_ rfl rfl rfl rfl
          refine V2_istore_n (i := 3) (l' := [some (.ref 0), some (.int w), some (.int v), some (.int v32)]) d_P_car_25 rfl (xst_i (Nat.le_of_ble_eq_true rfl) rfl rfl) ?_
          refine V2_aload_n (i := 0) d_P_car_26 rfl rfl ?_
          refine V2_getr (a := 1) d_P_car_27 fl_P_10 (by decide) rfl (by decide) rfl ?_
          refine V2_getr (a := 2) d_P_car_30 fl_P_93 (by decide) rfl (by decide) rfl ?_
          refine V2_iload_n (i := 1) d_P_car_33 rfl rfl ?_
          refine V2_iload_n (i := 2) d_P_car_34 rfl rfl ?_
          refine V2_callV [.int w, .int v] d_P_car_35 rfl rfl lk_P_129 mo_Car_alter (by decide) rfl rfl rfl (Nat.le_of_ble_eq_true rfl) (Nat.le_of_ble_eq_true rfl) ?_
          refine V2.to (l' := [some (.ref 2), some (.int w), some (.int v)]) ?_ rfl rfl rfl rfl
          refine V2_iload_n (i := 1) d_Car_alter_0 rfl rfl ?_
          by_cases c33_0 : w = 0
          · refine V2_tableIn (tgt := 36) (off := 35) d_Car_alter_1 (by rw [c33_0]; decide) (by rw [c33_0]; decide) (by rw [c33_0]; decide) rfl ?_
            refine V2_aload_n (i := 0) d_Car_alter_36 rfl rfl ?_
            refine V2_iload_n (i := 2) d_Car_alter_37 rfl rfl ?_
            refine V2_put d_Car_alter_38 fl_Car_7 (by decide) rfl (by decide) rfl ?_
            refine V2_goto (tgt := 76) d_Car_alter_41 rfl ?_
            refine V2_return d_Car_alter_76 rfl ?_
            refine V2.to (st' := []) ?_ rfl rfl rfl rfl
            refine V2_iload_n (i := 3) d_P_car_38 rfl rfl ?_
            refine V2_ireturn d_P_car_39 rfl ?_
            exact absurd (by rw [c1_1]; decide) hw
          by_cases c33_1 : w = 1
          · refine V2_tableIn (tgt := 44) (off := 43) d_Car_alter_1 (by rw [c33_1]; decide) (by rw [c33_1]; decide) (by rw [c33_1]; decide) rfl ?_
            refine V2_aload_n (i := 0) d_Car_alter_44 rfl rfl ?_
            refine V2_iload_n (i := 2) d_Car_alter_45 rfl rfl ?_
            refine V2_put d_Car_alter_46 fl_Car_13 (by decide) rfl (by decide) rfl ?_
            refine V2_goto (tgt := 76) d_Car_alter_49 rfl ?_
            refine V2_return d_Car_alter_76 rfl ?_
            refine V2.to (st' := []) ?_ rfl rfl rfl rfl
            refine V2_iload_n (i := 3) d_P_car_38 rfl rfl ?_
            refine V2_ireturn d_P_car_39 rfl ?_
            exact absurd (by rw [c1_1]; decide) hw
          by_cases c33_2 : w = 2
          · refine V2_tableIn (tgt := 52) (off := 51) d_Car_alter_1 (by rw [c33_2]; decide) (by rw [c33_2]; decide) (by rw [c33_2]; decide) rfl ?_
            refine V2_aload_n (i := 0) d_Car_alter_52 rfl rfl ?_
            refine V2_iload_n (i := 2) d_Car_alter_53 rfl rfl ?_
            refine V2_put d_Car_alter_54 fl_Car_16 (by decide) rfl (by decide) rfl ?_
            refine V2_goto (tgt := 76) d_Car_alter_57 rfl ?_
            refine V2_return d_Car_alter_76 rfl ?_
            refine V2.to (st' := []) ?_ rfl rfl rfl rfl
            refine V2_iload_n (i := 3) d_P_car_38 rfl rfl ?_
            refine V2_ireturn d_P_car_39 rfl ?_
            exact absurd (by rw [c1_1]; decide) hw
          by_cases c33_3 : w = 3
          · refine V2_tableIn (tgt := 60) (off := 59) d_Car_alter_1 (by rw [c33_3]; decide) (by rw [c33_3]; decide) (by rw [c33_3]; decide) rfl ?_
            refine V2_aload_n (i := 0) d_Car_alter_60 rfl rfl ?_
            refine V2_iload_n (i := 2) d_Car_alter_61 rfl rfl ?_
            refine V2_put d_Car_alter_62 fl_Car_19 (by decide) rfl (by decide) rfl ?_
            refine V2_goto (tgt := 76) d_Car_alter_65 rfl ?_
            refine V2_return d_Car_alter_76 rfl ?_
            refine V2.to (st' := []) ?_ rfl rfl rfl rfl
            refine V2_iload_n (i := 3) d_P_car_38 rfl rfl ?_
            refine V2_ireturn d_P_car_39 rfl ?_
            exact absurd (by rw [c1_1]; decide) hw
          by_cases c33_4 : w = 4
          · refine V2_tableIn (tgt := 68) (off := 67) d_Car_alter_1 (by rw [c33_4]; decide) (by rw [c33_4]; decide) (by rw [c33_4]; decide) rfl ?_
            refine V2_aload_n (i := 0) d_Car_alter_68 rfl rfl ?_
            refine V2_iload_n (i := 2) d_Car_alter_69 rfl rfl ?_
            refine V2_put d_Car_alter_70 fl_Car_22 (by decide) rfl (by decide) rfl ?_
            refine V2_goto (tgt := 76) d_Car_alter_73 rfl ?_
            refine V2_return d_Car_alter_76 rfl ?_
            refine V2.to (st' := []) ?_ rfl rfl rfl rfl
            refine V2_iload_n (i := 3) d_P_car_38 rfl rfl ?_
            refine V2_ireturn d_P_car_39 rfl ?_
            exact absurd (by rw [c1_1]; decide) hw
          refine V2_tableOut (tgt := 76) d_Car_alter_1 (by have := lv_neT (a := 0) c33_0 rfl; have := lv_neT (a := 1) c33_1 rfl; have := lv_neT (a := 2) c33_2 rfl; have := lv_neT (a := 3) c33_3 rfl; have := lv_neT (a := 4) c33_4 rfl; omega) rfl ?_
          refine V2_return d_Car_alter_76 rfl ?_
          refine V2.to (st' := []) ?_ rfl rfl rfl rfl
          refine V2_iload_n (i := 3) d_P_car_38 rfl rfl ?_
          refine V2_ireturn d_P_car_39 rfl ?_
          exact absurd (by rw [c1_1]; decide) hw
        by_cases c27_3 : w = 3
        · refine V2_tableIn (tgt := 55) (off := 54) d_Car_tells_1 (by rw [c27_3]; decide) (by rw [c27_3]; decide) (by rw [c27_3]; decide) rfl ?_
          refine V2_aload_n (i := 0) d_Car_tells_55 rfl rfl ?_
          refine V2_get (v := F 2 3) d_Car_tells_56 fl_Car_19 (by decide) rfl (by decide) rfl rfl ?_
          refine V2_topi (fun v34 ev34 => ?_)
          refine V2_ireturn d_Car_tells_59 rfl ?_
          refine V2.to (st' := [.int v34]) ?_ rfl rfl rfl rfl
          refine V2_istore_n (i := 3) (l' := [some (.ref 0), some (.int w), some (.int v), some (.int v34)]) d_P_car_25 rfl (xst_i (Nat.le_of_ble_eq_true rfl) rfl rfl) ?_
          refine V2_aload_n (i := 0) d_P_car_26 rfl rfl ?_
          refine V2_getr (a := 1) d_P_car_27 fl_P_10 (by decide) rfl (by decide) rfl ?_
          refine V2_getr (a := 2) d_P_car_30 fl_P_93 (by decide) rfl (by decide) rfl ?_
          refine V2_iload_n (i := 1) d_P_car_33 rfl rfl ?_
          refine V2_iload_n (i := 2) d_P_car_34 rfl rfl ?_
          refine V2_callV [.int w, .int v] d_P_car_35 rfl rfl lk_P_129 mo_Car_alter (by decide) rfl rfl rfl (Nat.le_of_ble_eq_true rfl) (Nat.le_of_ble_eq_true rfl) ?_
          refine V2.to (l' := [some (.ref 2), some (.int w), some (.int v)]) ?_ rfl rfl rfl rfl
          refine V2_iload_n (i := 1) d_Car_alter_0 rfl rfl ?_
          by_cases c35_0 : w = 0
          · refine V2_tableIn (tgt := 36) (off := 35) d_Car_alter_1 (by rw [c35_0]; decide) (by rw [c35_0]; decide) (by rw [c35_0]; decide) rfl ?_
            refine V2_aload_n (i := 0) d_Car_alter_36 rfl rfl ?_
            refine V2_iload_n (i := 2) d_Car_alter_37 rfl rfl ?_
            refine V2_put d_Car_alter_38 fl_Car_7 (by decide) rfl (by decide) rfl ?_
            refine V2_goto (tgt := 76) d_Car_alter_41 rfl ?_
            refine V2_return d_Car_alter_76 rfl ?_
            refine V2.to (st' := []) ?_ rfl rfl rfl rfl
            refine V2_iload_n (i := 3) d_P_car_38 rfl rfl ?_
            refine V2_ireturn d_P_car_39 rfl ?_
            exact absurd (by rw [c1_1]; decide) hw
          by_cases c35_1 : w = 1
          · refine V2_tableIn (tgt := 44) (off := 43) d_Car_alter_1 (by rw [c35_1]; decide) (by rw [c35_1]; decide) (by rw [c35_1]; decide) rfl ?_
            refine V2_aload_n (i := 0) d_Car_alter_44 rfl rfl ?_
            refine V2_iload_n (i := 2) d_Car_alter_45 rfl rfl ?_
            refine V2_put d_Car_alter_46 fl_Car_13 (by decide) rfl (by decide) rfl ?_
            refine V2_goto (tgt := 76) d_Car_alter_49 rfl ?_
            refine V2_return d_Car_alter_76 rfl ?_
            refine V2.to (st' := []) ?_ rfl rfl rfl rfl
            refine V2_iload_n (i := 3) d_P_car_38 rfl rfl ?_
            refine V2_ireturn d_P_car_39 rfl ?_
            exact absurd (by rw [c1_1]; decide) hw
          by_cases c35_2 : w = 2
          · refine V2_tableIn (tgt := 52) (off := 51) d_Car_alter_1 (by rw [c35_2]; decide) (by rw [c35_2]; decide) (by rw [c35_2]; decide) rfl ?_
            refine V2_aload_n (i := 0) d_Car_alter_52 rfl rfl ?_
            refine V2_iload_n (i := 2) d_Car_alter_53 rfl rfl ?_
            refine V2_put d_Car_alter_54 fl_Car_16 (by decide) rfl (by decide) rfl ?_
            refine V2_goto (tgt := 76) d_Car_alter_57 rfl ?_
            refine V2_return d_Car_alter_76 rfl ?_
            refine V2.to (st' := []) ?_ rfl rfl rfl rfl
            refine V2_iload_n (i := 3) d_P_car_38 rfl rfl ?_
            refine V2_ireturn d_P_car_39 rfl ?_
            exact absurd (by rw [c1_1]; decide) hw
          by_cases c35_3 : w = 3
          · refine V2_tableIn (tgt := 60) (off := 59) d_Car_alter_1 (by rw [c35_3]; decide) (by rw [c35_3]; decide) (by rw [c35_3]; decide) rfl ?_
            refine V2_aload_n (i := 0) d_Car_alter_60 rfl rfl ?_
            refine V2_iload_n (i := 2) d_Car_alter_61 rfl rfl ?_
            refine V2_put d_Car_alter_62 fl_Car_19 (by decide) rfl (by decide) rfl ?_
            refine V2_goto (tgt := 76) d_Car_alter_65 rfl ?_
            refine V2_return d_Car_alter_76 rfl ?_
            refine V2.to (st' := []) ?_ rfl rfl rfl rfl
            refine V2_iload_n (i := 3) d_P_car_38 rfl rfl ?_
            refine V2_ireturn d_P_car_39 rfl ?_
            exact absurd (by rw [c1_1]; decide) hw
          by_cases c35_4 : w = 4
          · refine V2_tableIn (tgt := 68) (off := 67) d_Car_alter_1 (by rw [c35_4]; decide) (by rw [c35_4]; decide) (by rw [c35_4]; decide) rfl ?_
            refine V2_aload_n (i := 0) d_Car_alter_68 rfl rfl ?_
            refine V2_iload_n (i := 2) d_Car_alter_69 rfl rfl ?_
            refine V2_put d_Car_alter_70 fl_Car_22 (by decide) rfl (by decide) rfl ?_
            refine V2_goto (tgt := 76) d_Car_alter_73 rfl ?_
            refine V2_return d_Car_alter_76 rfl ?_
            refine V2.to (st' := []) ?_ rfl rfl rfl rfl
            refine V2_iload_n (i := 3) d_P_car_38 rfl rfl ?_
            refine V2_ireturn d_P_car_39 rfl ?_
            exact absurd (by rw [c1_1]; decide) hw
          refine V2_tableOut (tgt := 76) d_Car_alter_1 (by have := lv_neT (a := 0) c35_0 rfl; have := lv_neT (a := 1) c35_1 rfl; have := lv_neT (a := 2) c35_2 rfl; have := lv_neT (a := 3) c35_3 rfl; have := lv_neT (a := 4) c35_4 rfl; omega) rfl ?_
          refine V2_return d_Car_alter_76 rfl ?_
          refine V2.to (st' := []) ?_ rfl rfl rfl rfl
          refine V2_iload_n (i := 3) d_P_car_38 rfl rfl ?_
          refine V2_ireturn d_P_car_39 rfl ?_
          exact absurd (by rw [c1_1]; decide) hw
        by_cases c27_4 : w = 4
        · refine V2_tableIn (tgt := 60) (off := 59) d_Car_tells_1 (by rw [c27_4]; decide) (by rw [c27_4]; decide) (by rw [c27_4]; decide) rfl ?_
          refine V2_aload_n (i := 0) d_Car_tells_60 rfl rfl ?_
          refine V2_get (v := F 2 4) d_Car_tells_61 fl_Car_22 (by decide) rfl (by decide) rfl rfl ?_
          refine V2_topi (fun v36 ev36 => ?_)
          refine V2_ireturn d_Car_tells_64 rfl ?_
          refine V2.to (st' := [.int v36]) ?_ rfl rfl rfl rfl
          refine V2_istore_n (i := 3) (l' := [some (.ref 0), some (.int w), some (.int v), some (.int v36)]) d_P_car_25 rfl (xst_i (Nat.le_of_ble_eq_true rfl) rfl rfl) ?_
          refine V2_aload_n (i := 0) d_P_car_26 rfl rfl ?_
          refine V2_getr (a := 1) d_P_car_27 fl_P_10 (by decide) rfl (by decide) rfl ?_
          refine V2_getr (a := 2) d_P_car_30 fl_P_93 (by decide) rfl (by decide) rfl ?_
          refine V2_iload_n (i := 1) d_P_car_33 rfl rfl ?_
          refine V2_iload_n (i := 2) d_P_car_34 rfl rfl ?_
          refine V2_callV [.int w, .int v] d_P_car_35 rfl rfl lk_P_129 mo_Car_alter (by decide) rfl rfl rfl (Nat.le_of_ble_eq_true rfl) (Nat.le_of_ble_eq_true rfl) ?_
          refine V2.to (l' := [some (.ref 2), some (.int w), some (.int v)]) ?_ rfl rfl rfl rfl
          refine V2_iload_n (i := 1) d_Car_alter_0 rfl rfl ?_
          by_cases c37_0 : w = 0
          · refine V2_tableIn (tgt := 36) (off := 35) d_Car_alter_1 (by rw [c37_0]; decide) (by rw [c37_0]; decide) (by rw [c37_0]; decide) rfl ?_
            refine V2_aload_n (i := 0) d_Car_alter_36 rfl rfl ?_
            refine V2_iload_n (i := 2) d_Car_alter_37 rfl rfl ?_
            refine V2_put d_Car_alter_38 fl_Car_7 (by decide) rfl (by decide) rfl ?_
            refine V2_goto (tgt := 76) d_Car_alter_41 rfl ?_
            refine V2_return d_Car_alter_76 rfl ?_
            refine V2.to (st' := []) ?_ rfl rfl rfl rfl
            refine V2_iload_n (i := 3) d_P_car_38 rfl rfl ?_
            refine V2_ireturn d_P_car_39 rfl ?_
            exact absurd (by rw [c1_1]; decide) hw
          by_cases c37_1 : w = 1
          · refine V2_tableIn (tgt := 44) (off := 43) d_Car_alter_1 (by rw [c37_1]; decide) (by rw [c37_1]; decide) (by rw [c37_1]; decide) rfl ?_
            refine V2_aload_n (i := 0) d_Car_alter_44 rfl rfl ?_
            refine V2_iload_n (i := 2) d_Car_alter_45 rfl rfl ?_
            refine V2_put d_Car_alter_46 fl_Car_13 (by decide) rfl (by decide) rfl ?_
            refine V2_goto (tgt := 76) d_Car_alter_49 rfl ?_
            refine V2_return d_Car_alter_76 rfl ?_
            refine V2.to (st' := []) ?_ rfl rfl rfl rfl
            refine V2_iload_n (i := 3) d_P_car_38 rfl rfl ?_
            refine V2_ireturn d_P_car_39 rfl ?_
            exact absurd (by rw [c1_1]; decide) hw
          by_cases c37_2 : w = 2
          · refine V2_tableIn (tgt := 52) (off := 51) d_Car_alter_1 (by rw [c37_2]; decide) (by rw [c37_2]; decide) (by rw [c37_2]; decide) rfl ?_
            refine V2_aload_n (i := 0) d_Car_alter_52 rfl rfl ?_
            refine V2_iload_n (i := 2) d_Car_alter_53 rfl rfl ?_
            refine V2_put d_Car_alter_54 fl_Car_16 (by decide) rfl (by decide) rfl ?_
            refine V2_goto (tgt := 76) d_Car_alter_57 rfl ?_
            refine V2_return d_Car_alter_76 rfl ?_
            refine V2.to (st' := []) ?_ rfl rfl rfl rfl
            refine V2_iload_n (i := 3) d_P_car_38 rfl rfl ?_
            refine V2_ireturn d_P_car_39 rfl ?_
            exact absurd (by rw [c1_1]; decide) hw
          by_cases c37_3 : w = 3
          · refine V2_tableIn (tgt := 60) (off := 59) d_Car_alter_1 (by rw [c37_3]; decide) (by rw [c37_3]; decide) (by rw [c37_3]; decide) rfl ?_
            refine V2_aload_n (i := 0) d_Car_alter_60 rfl rfl ?_
            refine V2_iload_n (i := 2) d_Car_alter_61 rfl rfl ?_
            refine V2_put d_Car_alter_62 fl_Car_19 (by decide) rfl (by decide) rfl ?_
            refine V2_goto (tgt := 76) d_Car_alter_65 rfl ?_
            refine V2_return d_Car_alter_76 rfl ?_
            refine V2.to (st' := []) ?_ rfl rfl rfl rfl
            refine V2_iload_n (i := 3) d_P_car_38 rfl rfl ?_
            refine V2_ireturn d_P_car_39 rfl ?_
            exact absurd (by rw [c1_1]; decide) hw
          by_cases c37_4 : w = 4
          · refine V2_tableIn (tgt := 68) (off := 67) d_Car_alter_1 (by rw [c37_4]; decide) (by rw [c37_4]; decide) (by rw [c37_4]; decide) rfl ?_
            refine V2_aload_n (i := 0) d_Car_alter_68 rfl rfl ?_
            refine V2_iload_n (i := 2) d_Car_alter_69 rfl rfl ?_
            refine V2_put d_Car_alter_70 fl_Car_22 (by decide) rfl (by decide) rfl ?_
            refine V2_goto (tgt := 76) d_Car_alter_73 rfl ?_
            refine V2_return d_Car_alter_76 rfl ?_
            refine V2.to (st' := []) ?_ rfl rfl rfl rfl
            refine V2_iload_n (i := 3) d_P_car_38 rfl rfl ?_
            refine V2_ireturn d_P_car_39 rfl ?_
            exact absurd (by rw [c1_1]; decide) hw
          refine V2_tableOut (tgt := 76) d_Car_alter_1 (by have := lv_neT (a := 0) c37_0 rfl; have := lv_neT (a := 1) c37_1 rfl; have := lv_neT (a := 2) c37_2 rfl; have := lv_neT (a := 3) c37_3 rfl; have := lv_neT (a := 4) c37_4 rfl; omega) rfl ?_
          refine V2_return d_Car_alter_76 rfl ?_
          refine V2.to (st' := []) ?_ rfl rfl rfl rfl
          refine V2_iload_n (i := 3) d_P_car_38 rfl rfl ?_
          refine V2_ireturn d_P_car_39 rfl ?_
          exact absurd (by rw [c1_1]; decide) hw
        by_cases c27_5 : w = 5
        · refine V2_tableIn (tgt := 65) (off := 64) d_Car_tells_1 (by rw [c27_5]; decide) (by rw [c27_5]; decide) (by rw [c27_5]; decide) rfl ?_
          refine V2_aload_n (i := 0) d_Car_tells_65 rfl rfl ?_
          refine V2_get (v := F 2 7) d_Car_tells_66 fl_Car_31 (by decide) rfl (by decide) rfl rfl ?_
          refine V2_topi (fun v38 ev38 => ?_)
          refine V2_if_eq (tgt := 76) d_Car_tells_69 rfl (fun c39 => ?_) (fun c39 => ?_)
          · refine V2_iconst (v := 0) d_Car_tells_76 rfl ?_
            refine V2_ireturn d_Car_tells_77 rfl ?_
            refine V2.to (st' := [.int (0 : Int32)]) ?_ rfl rfl rfl rfl
            refine V2_istore_n (i := 3) (l' := [some (.ref 0), some (.int w), some (.int v), some (.int (0 : Int32))]) d_P_car_25 rfl (xst_i (Nat.le_of_ble_eq_true rfl) rfl rfl) ?_
            refine V2_aload_n (i := 0) d_P_car_26 rfl rfl ?_
            refine V2_getr (a := 1) d_P_car_27 fl_P_10 (by decide) rfl (by decide) rfl ?_
            refine V2_getr (a := 2) d_P_car_30 fl_P_93 (by decide) rfl (by decide) rfl ?_
            refine V2_iload_n (i := 1) d_P_car_33 rfl rfl ?_
            refine V2_iload_n (i := 2) d_P_car_34 rfl rfl ?_
            refine V2_callV [.int w, .int v] d_P_car_35 rfl rfl lk_P_129 mo_Car_alter (by decide) rfl rfl rfl (Nat.le_of_ble_eq_true rfl) (Nat.le_of_ble_eq_true rfl) ?_
            refine V2.to (l' := [some (.ref 2), some (.int w), some (.int v)]) ?_ rfl rfl rfl rfl
            refine V2_iload_n (i := 1) d_Car_alter_0 rfl rfl ?_
            by_cases c40_0 : w = 0
            · refine V2_tableIn (tgt := 36) (off := 35) d_Car_alter_1 (by rw [c40_0]; decide) (by rw [c40_0]; decide) (by rw [c40_0]; decide) rfl ?_
              refine V2_aload_n (i := 0) d_Car_alter_36 rfl rfl ?_
              refine V2_iload_n (i := 2) d_Car_alter_37 rfl rfl ?_
              refine V2_put d_Car_alter_38 fl_Car_7 (by decide) rfl (by decide) rfl ?_
              refine V2_goto (tgt := 76) d_Car_alter_41 rfl ?_
              refine V2_return d_Car_alter_76 rfl ?_
              refine V2.to (st' := []) ?_ rfl rfl rfl rfl
              refine V2_iload_n (i := 3) d_P_car_38 rfl rfl ?_
              refine V2_ireturn d_P_car_39 rfl ?_
              exact absurd (by rw [c1_1]; decide) hw
            by_cases c40_1 : w = 1
            · refine V2_tableIn (tgt := 44) (off := 43) d_Car_alter_1 (by rw [c40_1]; decide) (by rw [c40_1]; decide) (by rw [c40_1]; decide) rfl ?_
              refine V2_aload_n (i := 0) d_Car_alter_44 rfl rfl ?_
              refine V2_iload_n (i := 2) d_Car_alter_45 rfl rfl ?_
              refine V2_put d_Car_alter_46 fl_Car_13 (by decide) rfl (by decide) rfl ?_
              refine V2_goto (tgt := 76) d_Car_alter_49 rfl ?_
              refine V2_return d_Car_alter_76 rfl ?_
              refine V2.to (st' := []) ?_ rfl rfl rfl rfl
              refine V2_iload_n (i := 3) d_P_car_38 rfl rfl ?_
              refine V2_ireturn d_P_car_39 rfl ?_
              exact absurd (by rw [c1_1]; decide) hw
            by_cases c40_2 : w = 2
            · refine V2_tableIn (tgt := 52) (off := 51) d_Car_alter_1 (by rw [c40_2]; decide) (by rw [c40_2]; decide) (by rw [c40_2]; decide) rfl ?_
              refine V2_aload_n (i := 0) d_Car_alter_52 rfl rfl ?_
              refine V2_iload_n (i := 2) d_Car_alter_53 rfl rfl ?_
              refine V2_put d_Car_alter_54 fl_Car_16 (by decide) rfl (by decide) rfl ?_
              refine V2_goto (tgt := 76) d_Car_alter_57 rfl ?_
              refine V2_return d_Car_alter_76 rfl ?_
              refine V2.to (st' := []) ?_ rfl rfl rfl rfl
              refine V2_iload_n (i := 3) d_P_car_38 rfl rfl ?_
              refine V2_ireturn d_P_car_39 rfl ?_
              exact absurd (by rw [c1_1]; decide) hw
            by_cases c40_3 : w = 3
            · refine V2_tableIn (tgt := 60) (off := 59) d_Car_alter_1 (by rw [c40_3]; decide) (by rw [c40_3]; decide) (by rw [c40_3]; decide) rfl ?_
              refine V2_aload_n (i := 0) d_Car_alter_60 rfl rfl ?_
              refine V2_iload_n (i := 2) d_Car_alter_61 rfl rfl ?_
              refine V2_put d_Car_alter_62 fl_Car_19 (by decide) rfl (by decide) rfl ?_
              refine V2_goto (tgt := 76) d_Car_alter_65 rfl ?_
              refine V2_return d_Car_alter_76 rfl ?_
              refine V2.to (st' := []) ?_ rfl rfl rfl rfl
              refine V2_iload_n (i := 3) d_P_car_38 rfl rfl ?_
              refine V2_ireturn d_P_car_39 rfl ?_
              exact absurd (by rw [c1_1]; decide) hw
            by_cases c40_4 : w = 4
            · refine V2_tableIn (tgt := 68) (off := 67) d_Car_alter_1 (by rw [c40_4]; decide) (by rw [c40_4]; decide) (by rw [c40_4]; decide) rfl ?_
              refine V2_aload_n (i := 0) d_Car_alter_68 rfl rfl ?_
              refine V2_iload_n (i := 2) d_Car_alter_69 rfl rfl ?_
              refine V2_put d_Car_alter_70 fl_Car_22 (by decide) rfl (by decide) rfl ?_
              refine V2_goto (tgt := 76) d_Car_alter_73 rfl ?_
              refine V2_return d_Car_alter_76 rfl ?_
              refine V2.to (st' := []) ?_ rfl rfl rfl rfl
              refine V2_iload_n (i := 3) d_P_car_38 rfl rfl ?_
              refine V2_ireturn d_P_car_39 rfl ?_
              exact absurd (by rw [c1_1]; decide) hw
            refine V2_tableOut (tgt := 76) d_Car_alter_1 (by have := lv_neT (a := 0) c40_0 rfl; have := lv_neT (a := 1) c40_1 rfl; have := lv_neT (a := 2) c40_2 rfl; have := lv_neT (a := 3) c40_3 rfl; have := lv_neT (a := 4) c40_4 rfl; omega) rfl ?_
            refine V2_return d_Car_alter_76 rfl ?_
            refine V2.to (st' := []) ?_ rfl rfl rfl rfl
            refine V2_iload_n (i := 3) d_P_car_38 rfl rfl ?_
            refine V2_ireturn d_P_car_39 rfl ?_
            exact absurd (by rw [c1_1]; decide) hw
          · refine V2_iconst (v := 1) d_Car_tells_72 rfl ?_
            refine V2_goto (tgt := 77) d_Car_tells_73 rfl ?_
            refine V2_ireturn d_Car_tells_77 rfl ?_
            refine V2.to (st' := [.int (1 : Int32)]) ?_ rfl rfl rfl rfl
            refine V2_istore_n (i := 3) (l' := [some (.ref 0), some (.int w), some (.int v), some (.int (1 : Int32))]) d_P_car_25 rfl (xst_i (Nat.le_of_ble_eq_true rfl) rfl rfl) ?_
            refine V2_aload_n (i := 0) d_P_car_26 rfl rfl ?_
            refine V2_getr (a := 1) d_P_car_27 fl_P_10 (by decide) rfl (by decide) rfl ?_
            refine V2_getr (a := 2) d_P_car_30 fl_P_93 (by decide) rfl (by decide) rfl ?_
            refine V2_iload_n (i := 1) d_P_car_33 rfl rfl ?_
            refine V2_iload_n (i := 2) d_P_car_34 rfl rfl ?_
            refine V2_callV [.int w, .int v] d_P_car_35 rfl rfl lk_P_129 mo_Car_alter (by decide) rfl rfl rfl (Nat.le_of_ble_eq_true rfl) (Nat.le_of_ble_eq_true rfl) ?_
            refine V2.to (l' := [some (.ref 2), some (.int w), some (.int v)]) ?_ rfl rfl rfl rfl
            refine V2_iload_n (i := 1) d_Car_alter_0 rfl rfl ?_
            by_cases c41_0 : w = 0
            · refine V2_tableIn (tgt := 36) (off := 35) d_Car_alter_1 (by rw [c41_0]; decide) (by rw [c41_0]; decide) (by rw [c41_0]; decide) rfl ?_
              refine V2_aload_n (i := 0) d_Car_alter_36 rfl rfl ?_
              refine V2_iload_n (i := 2) d_Car_alter_37 rfl rfl ?_
              refine V2_put d_Car_alter_38 fl_Car_7 (by decide) rfl (by decide) rfl ?_
              refine V2_goto (tgt := 76) d_Car_alter_41 rfl ?_
              refine V2_return d_Car_alter_76 rfl ?_
              refine V2.to (st' := []) ?_ rfl rfl rfl rfl
              refine V2_iload_n (i := 3) d_P_car_38 rfl rfl ?_
              refine V2_ireturn d_P_car_39 rfl ?_
              exact absurd (by rw [c1_1]; decide) hw
            by_cases c41_1 : w = 1
            · refine V2_tableIn (tgt := 44) (off := 43) d_Car_alter_1 (by rw [c41_1]; decide) (by rw [c41_1]; decide) (by rw [c41_1]; decide) rfl ?_
              refine V2_aload_n (i := 0) d_Car_alter_44 rfl rfl ?_
              refine V2_iload_n (i := 2) d_Car_alter_45 rfl rfl ?_
              refine V2_put d_Car_alter_46 fl_Car_13 (by decide) rfl (by decide) rfl ?_
              refine V2_goto (tgt := 76) d_Car_alter_49 rfl ?_
              refine V2_return d_Car_alter_76 rfl ?_
              refine V2.to (st' := []) ?_ rfl rfl rfl rfl
              refine V2_iload_n (i := 3) d_P_car_38 rfl rfl ?_
              refine V2_ireturn d_P_car_39 rfl ?_
              exact absurd (by rw [c1_1]; decide) hw
            by_cases c41_2 : w = 2
            · refine V2_tableIn (tgt := 52) (off := 51) d_Car_alter_1 (by rw [c41_2]; decide) (by rw [c41_2]; decide) (by rw [c41_2]; decide) rfl ?_
              refine V2_aload_n (i := 0) d_Car_alter_52 rfl rfl ?_
              refine V2_iload_n (i := 2) d_Car_alter_53 rfl rfl ?_
              refine V2_put d_Car_alter_54 fl_Car_16 (by decide) rfl (by decide) rfl ?_
              refine V2_goto (tgt := 76) d_Car_alter_57 rfl ?_
              refine V2_return d_Car_alter_76 rfl ?_
              refine V2.to (st' := []) ?_ rfl rfl rfl rfl
              refine V2_iload_n (i := 3) d_P_car_38 rfl rfl ?_
              refine V2_ireturn d_P_car_39 rfl ?_
              exact absurd (by rw [c1_1]; decide) hw
            by_cases c41_3 : w = 3
            · refine V2_tableIn (tgt := 60) (off := 59) d_Car_alter_1 (by rw [c41_3]; decide) (by rw [c41_3]; decide) (by rw [c41_3]; decide) rfl ?_
              refine V2_aload_n (i := 0) d_Car_alter_60 rfl rfl ?_
              refine V2_iload_n (i := 2) d_Car_alter_61 rfl rfl ?_
              refine V2_put d_Car_alter_62 fl_Car_19 (by decide) rfl (by decide) rfl ?_
              refine V2_goto (tgt := 76) d_Car_alter_65 rfl ?_
              refine V2_return d_Car_alter_76 rfl ?_
              refine V2.to (st' := []) ?_ rfl rfl rfl rfl
              refine V2_iload_n (i := 3) d_P_car_38 rfl rfl ?_
              refine V2_ireturn d_P_car_39 rfl ?_
              exact absurd (by rw [c1_1]; decide) hw
            by_cases c41_4 : w = 4
            · refine V2_tableIn (tgt := 68) (off := 67) d_Car_alter_1 (by rw [c41_4]; decide) (by rw [c41_4]; decide) (by rw [c41_4]; decide) rfl ?_
              refine V2_aload_n (i := 0) d_Car_alter_68 rfl rfl ?_
              refine V2_iload_n (i := 2) d_Car_alter_69 rfl rfl ?_
              refine V2_put d_Car_alter_70 fl_Car_22 (by decide) rfl (by decide) rfl ?_
              refine V2_goto (tgt := 76) d_Car_alter_73 rfl ?_
              refine V2_return d_Car_alter_76 rfl ?_
              refine V2.to (st' := []) ?_ rfl rfl rfl rfl
              refine V2_iload_n (i := 3) d_P_car_38 rfl rfl ?_
              refine V2_ireturn d_P_car_39 rfl ?_
              exact absurd (by rw [c1_1]; decide) hw
            refine V2_tableOut (tgt := 76) d_Car_alter_1 (by have := lv_neT (a := 0) c41_0 rfl; have := lv_neT (a := 1) c41_1 rfl; have := lv_neT (a := 2) c41_2 rfl; have := lv_neT (a := 3) c41_3 rfl; have := lv_neT (a := 4) c41_4 rfl; omega) rfl ?_
            refine V2_return d_Car_alter_76 rfl ?_
            refine V2.to (st' := []) ?_ rfl rfl rfl rfl
            refine V2_iload_n (i := 3) d_P_car_38 rfl rfl ?_
            refine V2_ireturn d_P_car_39 rfl ?_
            exact absurd (by rw [c1_1]; decide) hw
        refine V2_tableOut (tgt := 78) d_Car_tells_1 (by have := lv_neT (a := 0) c27_0 rfl; have := lv_neT (a := 1) c27_1 rfl; have := lv_neT (a := 2) c27_2 rfl; have := lv_neT (a := 3) c27_3 rfl; have := lv_neT (a := 4) c27_4 rfl; have := lv_neT (a := 5) c27_5 rfl; omega) rfl ?_
        refine V2_aload_n (i := 0) d_Car_tells_78 rfl rfl ?_
        refine V2_get (v := F 2 6) d_Car_tells_79 fl_Car_28 (by decide) rfl (by decide) rfl rfl ?_
        refine V2_topi (fun v42 ev42 => ?_)
        refine V2_ireturn d_Car_tells_82 rfl ?_
        refine V2.to (st' := [.int v42]) ?_ rfl rfl rfl rfl
        refine V2_istore_n (i := 3) (l' := [some (.ref 0), some (.int w), some (.int v), some (.int v42)]) d_P_car_25 rfl (xst_i (Nat.le_of_ble_eq_true rfl) rfl rfl) ?_
        refine V2_aload_n (i := 0) d_P_car_26 rfl rfl ?_
        refine V2_getr (a := 1) d_P_car_27 fl_P_10 (by decide) rfl (by decide) rfl ?_
        refine V2_getr (a := 2) d_P_car_30 fl_P_93 (by decide) rfl (by decide) rfl ?_
        refine V2_iload_n (i := 1) d_P_car_33 rfl rfl ?_
        refine V2_iload_n (i := 2) d_P_car_34 rfl rfl ?_
        refine V2_callV [.int w, .int v] d_P_car_35 rfl rfl lk_P_129 mo_Car_alter (by decide) rfl rfl rfl (Nat.le_of_ble_eq_true rfl) (Nat.le_of_ble_eq_true rfl) ?_
        refine V2.to (l' := [some (.ref 2), some (.int w), some (.int v)]) ?_ rfl rfl rfl rfl
        refine V2_iload_n (i := 1) d_Car_alter_0 rfl rfl ?_
        by_cases c43_0 : w = 0
        · refine V2_tableIn (tgt := 36) (off := 35) d_Car_alter_1 (by rw [c43_0]; decide) (by rw [c43_0]; decide) (by rw [c43_0]; decide) rfl ?_
          refine V2_aload_n (i := 0) d_Car_alter_36 rfl rfl ?_
          refine V2_iload_n (i := 2) d_Car_alter_37 rfl rfl ?_
          refine V2_put d_Car_alter_38 fl_Car_7 (by decide) rfl (by decide) rfl ?_
          refine V2_goto (tgt := 76) d_Car_alter_41 rfl ?_
          refine V2_return d_Car_alter_76 rfl ?_
          refine V2.to (st' := []) ?_ rfl rfl rfl rfl
          refine V2_iload_n (i := 3) d_P_car_38 rfl rfl ?_
          refine V2_ireturn d_P_car_39 rfl ?_
          exact absurd (by rw [c1_1]; decide) hw
        by_cases c43_1 : w = 1
        · refine V2_tableIn (tgt := 44) (off := 43) d_Car_alter_1 (by rw [c43_1]; decide) (by rw [c43_1]; decide) (by rw [c43_1]; decide) rfl ?_
          refine V2_aload_n (i := 0) d_Car_alter_44 rfl rfl ?_
          refine V2_iload_n (i := 2) d_Car_alter_45 rfl rfl ?_
          refine V2_put d_Car_alter_46 fl_Car_13 (by decide) rfl (by decide) rfl ?_
          refine V2_goto (tgt := 76) d_Car_alter_49 rfl ?_
          refine V2_return d_Car_alter_76 rfl ?_
          refine V2.to (st' := []) ?_ rfl rfl rfl rfl
          refine V2_iload_n (i := 3) d_P_car_38 rfl rfl ?_
          refine V2_ireturn d_P_car_39 rfl ?_
          exact absurd (by rw [c1_1]; decide) hw
        by_cases c43_2 : w = 2
        · refine V2_tableIn (tgt := 52) (off := 51) d_Car_alter_1 (by rw [c43_2]; decide) (by rw [c43_2]; decide) (by rw [c43_2]; decide) rfl ?_
          refine V2_aload_n (i := 0) d_Car_alter_52 rfl rfl ?_
          refine V2_iload_n (i := 2) d_Car_alter_53 rfl rfl ?_
          refine V2_put d_Car_alter_54 fl_Car_16 (by decide) rfl (by decide) rfl ?_
          refine V2_goto (tgt := 76) d_Car_alter_57 rfl ?_
          refine V2_return d_Car_alter_76 rfl ?_
          refine V2.to (st' := []) ?_ rfl rfl rfl rfl
          refine V2_iload_n (i := 3) d_P_car_38 rfl rfl ?_
          refine V2_ireturn d_P_car_39 rfl ?_
          exact absurd (by rw [c1_1]; decide) hw
        by_cases c43_3 : w = 3
        · refine V2_tableIn (tgt := 60) (off := 59) d_Car_alter_1 (by rw [c43_3]; decide) (by rw [c43_3]; decide) (by rw [c43_3]; decide) rfl ?_
          refine V2_aload_n (i := 0) d_Car_alter_60 rfl rfl ?_
          refine V2_iload_n (i := 2) d_Car_alter_61 rfl rfl ?_
          refine V2_put d_Car_alter_62 fl_Car_19 (by decide) rfl (by decide) rfl ?_
          refine V2_goto (tgt := 76) d_Car_alter_65 rfl ?_
          refine V2_return d_Car_alter_76 rfl ?_
          refine V2.to (st' := []) ?_ rfl rfl rfl rfl
          refine V2_iload_n (i := 3) d_P_car_38 rfl rfl ?_
          refine V2_ireturn d_P_car_39 rfl ?_
          exact absurd (by rw [c1_1]; decide) hw
        by_cases c43_4 : w = 4
        · refine V2_tableIn (tgt := 68) (off := 67) d_Car_alter_1 (by rw [c43_4]; decide) (by rw [c43_4]; decide) (by rw [c43_4]; decide) rfl ?_
          refine V2_aload_n (i := 0) d_Car_alter_68 rfl rfl ?_
          refine V2_iload_n (i := 2) d_Car_alter_69 rfl rfl ?_
          refine V2_put d_Car_alter_70 fl_Car_22 (by decide) rfl (by decide) rfl ?_
          refine V2_goto (tgt := 76) d_Car_alter_73 rfl ?_
          refine V2_return d_Car_alter_76 rfl ?_
          refine V2.to (st' := []) ?_ rfl rfl rfl rfl
          refine V2_iload_n (i := 3) d_P_car_38 rfl rfl ?_
          refine V2_ireturn d_P_car_39 rfl ?_
          exact absurd (by rw [c1_1]; decide) hw
        refine V2_tableOut (tgt := 76) d_Car_alter_1 (by have := lv_neT (a := 0) c43_0 rfl; have := lv_neT (a := 1) c43_1 rfl; have := lv_neT (a := 2) c43_2 rfl; have := lv_neT (a := 3) c43_3 rfl; have := lv_neT (a := 4) c43_4 rfl; omega) rfl ?_
        refine V2_return d_Car_alter_76 rfl ?_
        refine V2.to (st' := []) ?_ rfl rfl rfl rfl
        refine V2_iload_n (i := 3) d_P_car_38 rfl rfl ?_
        refine V2_ireturn d_P_car_39 rfl ?_
        exact absurd (by rw [c1_1]; decide) hw
  by_cases c1_2 : w = 2
  · refine V2_tableIn (tgt := 44) (off := 43) d_Car_canBecome_1 (by rw [c1_2]; decide) (by rw [c1_2]; decide) (by rw [c1_2]; decide) rfl ?_
    refine V2_iload_n (i := 1) d_Car_canBecome_44 rfl rfl ?_
    refine V2_iconst (v := 0) d_Car_canBecome_45 rfl ?_
    refine V2_bipush (v := 99) d_Car_canBecome_46 rfl ?_
    refine V2_callS [.int v, .int (0 : Int32), .int (99 : Int32)] d_Car_canBecome_48 rfl rfl lk_Car_35 mo_P_within (Nat.le_of_ble_eq_true rfl) (Nat.le_of_ble_eq_true rfl) ?_
    refine V2.to (l' := [some (.int v), some (.int (0 : Int32)), some (.int (99 : Int32))]) ?_ rfl rfl rfl rfl
    refine V2_iload_n (i := 0) d_P_within_0 rfl rfl ?_
    refine V2_iload_n (i := 1) d_P_within_1 rfl rfl ?_
    refine V2_icmp_lt (tgt := 14) d_P_within_2 rfl (fun c44 => ?_) (fun c44 => ?_)
    · refine V2_iconst (v := 0) d_P_within_14 rfl ?_
      refine V2_zreturn d_P_within_15 rfl (by decide) ?_
      refine V2.to (st' := [.int (0 : Int32)]) ?_ rfl rfl rfl rfl
      refine V2_zreturn d_Car_canBecome_51 rfl (by decide) ?_
      refine V2.to (st' := [.int (0 : Int32)]) ?_ rfl rfl rfl rfl
      refine V2_if_ne (tgt := 14) d_P_car_5 rfl (fun c => (by first | exact absurd c (by decide) | exact absurd (by decide) c)) (fun _ => ?_)
      refine V2_aload_n (i := 0) d_P_car_8 rfl rfl ?_
      refine V2_iconst (v := 1) d_P_car_9 rfl ?_
      refine V2_callV [.int (1 : Int32)] d_P_car_10 rfl rfl lk_P_66 mo_P_fails (by decide) rfl rfl rfl (Nat.le_of_ble_eq_true rfl) (Nat.le_of_ble_eq_true rfl) ?_
      refine c_P_fails1 ?_
      refine V2_topi (fun v45 ev45 => ?_)
      refine V2_ireturn d_P_car_13 rfl ?_
      exact absurd (by rw [c1_2]; decide) hw
    · refine V2_iload_n (i := 0) d_P_within_5 rfl rfl ?_
      refine V2_iload_n (i := 2) d_P_within_6 rfl rfl ?_
      refine V2_icmp_gt (tgt := 14) d_P_within_7 rfl (fun c46 => ?_) (fun c46 => ?_)
      · refine V2_iconst (v := 0) d_P_within_14 rfl ?_
        refine V2_zreturn d_P_within_15 rfl (by decide) ?_
        refine V2.to (st' := [.int (0 : Int32)]) ?_ rfl rfl rfl rfl
        refine V2_zreturn d_Car_canBecome_51 rfl (by decide) ?_
        refine V2.to (st' := [.int (0 : Int32)]) ?_ rfl rfl rfl rfl
        refine V2_if_ne (tgt := 14) d_P_car_5 rfl (fun c => (by first | exact absurd c (by decide) | exact absurd (by decide) c)) (fun _ => ?_)
        refine V2_aload_n (i := 0) d_P_car_8 rfl rfl ?_
        refine V2_iconst (v := 1) d_P_car_9 rfl ?_
        refine V2_callV [.int (1 : Int32)] d_P_car_10 rfl rfl lk_P_66 mo_P_fails (by decide) rfl rfl rfl (Nat.le_of_ble_eq_true rfl) (Nat.le_of_ble_eq_true rfl) ?_
        refine c_P_fails1 ?_
        refine V2_topi (fun v47 ev47 => ?_)
        refine V2_ireturn d_P_car_13 rfl ?_
        exact absurd (by rw [c1_2]; decide) hw
      · refine V2_iconst (v := 1) d_P_within_10 rfl ?_
        refine V2_goto (tgt := 15) d_P_within_11 rfl ?_
        refine V2_zreturn d_P_within_15 rfl (by decide) ?_
        refine V2.to (st' := [.int (1 : Int32)]) ?_ rfl rfl rfl rfl
        refine V2_zreturn d_Car_canBecome_51 rfl (by decide) ?_
        refine V2.to (st' := [.int (1 : Int32)]) ?_ rfl rfl rfl rfl
        refine V2_if_ne (tgt := 14) d_P_car_5 rfl (fun _ => ?_) (fun c => (by first | exact absurd c (by decide) | exact absurd (by decide) c))
        refine V2_aload_n (i := 0) d_P_car_14 rfl rfl ?_
        refine V2_getr (a := 1) d_P_car_15 fl_P_10 (by decide) rfl (by decide) rfl ?_
        refine V2_getr (a := 2) d_P_car_18 fl_P_93 (by decide) rfl (by decide) rfl ?_
        refine V2_iload_n (i := 1) d_P_car_21 rfl rfl ?_
        refine V2_callV [.int w] d_P_car_22 rfl rfl lk_P_126 mo_Car_tells (by decide) rfl rfl rfl (Nat.le_of_ble_eq_true rfl) (Nat.le_of_ble_eq_true rfl) ?_
        refine V2.to (l' := [some (.ref 2), some (.int w)]) ?_ rfl rfl rfl rfl
        refine V2_iload_n (i := 1) d_Car_tells_0 rfl rfl ?_
        by_cases c48_0 : w = 0
        · refine V2_tableIn (tgt := 40) (off := 39) d_Car_tells_1 (by rw [c48_0]; decide) (by rw [c48_0]; decide) (by rw [c48_0]; decide) rfl ?_
          refine V2_aload_n (i := 0) d_Car_tells_40 rfl rfl ?_
          refine V2_get (v := F 2 0) d_Car_tells_41 fl_Car_7 (by decide) rfl (by decide) rfl rfl ?_
          refine V2_topi (fun v49 ev49 => ?_)
          refine V2_ireturn d_Car_tells_44 rfl ?_
          refine V2.to (st' := [.int v49]) ?_ rfl rfl rfl rfl
          refine V2_istore_n (i := 3) (l' := [some (.ref 0), some (.int w), some (.int v), some (.int v49)]) d_P_car_25 rfl (xst_i (Nat.le_of_ble_eq_true rfl) rfl rfl) ?_
          refine V2_aload_n (i := 0) d_P_car_26 rfl rfl ?_
          refine V2_getr (a := 1) d_P_car_27 fl_P_10 (by decide) rfl (by decide) rfl ?_
          refine V2_getr (a := 2) d_P_car_30 fl_P_93 (by decide) rfl (by decide) rfl ?_
          refine V2_iload_n (i := 1) d_P_car_33 rfl rfl ?_
          refine V2_iload_n (i := 2) d_P_car_34 rfl rfl ?_
          refine V2_callV [.int w, .int v] d_P_car_35 rfl rfl lk_P_129 mo_Car_alter (by decide) rfl rfl rfl (Nat.le_of_ble_eq_true rfl) (Nat.le_of_ble_eq_true rfl) ?_
          refine V2.to (l' := [some (.ref 2), some (.int w), some (.int v)]) ?_ rfl rfl rfl rfl
          refine V2_iload_n (i := 1) d_Car_alter_0 rfl rfl ?_
          by_cases c50_0 : w = 0
          · refine V2_tableIn (tgt := 36) (off := 35) d_Car_alter_1 (by rw [c50_0]; decide) (by rw [c50_0]; decide) (by rw [c50_0]; decide) rfl ?_
            refine V2_aload_n (i := 0) d_Car_alter_36 rfl rfl ?_
            refine V2_iload_n (i := 2) d_Car_alter_37 rfl rfl ?_
            refine V2_put d_Car_alter_38 fl_Car_7 (by decide) rfl (by decide) rfl ?_
            refine V2_goto (tgt := 76) d_Car_alter_41 rfl ?_
            refine V2_return d_Car_alter_76 rfl ?_
            refine V2.to (st' := []) ?_ rfl rfl rfl rfl
            refine V2_iload_n (i := 3) d_P_car_38 rfl rfl ?_
            refine V2_ireturn d_P_car_39 rfl ?_
            exact absurd (by rw [c1_2]; decide) hw
          by_cases c50_1 : w = 1
          · refine V2_tableIn (tgt := 44) (off := 43) d_Car_alter_1 (by rw [c50_1]; decide) (by rw [c50_1]; decide) (by rw [c50_1]; decide) rfl ?_
            refine V2_aload_n (i := 0) d_Car_alter_44 rfl rfl ?_
            refine V2_iload_n (i := 2) d_Car_alter_45 rfl rfl ?_
            refine V2_put d_Car_alter_46 fl_Car_13 (by decide) rfl (by decide) rfl ?_
            refine V2_goto (tgt := 76) d_Car_alter_49 rfl ?_
            refine V2_return d_Car_alter_76 rfl ?_
            refine V2.to (st' := []) ?_ rfl rfl rfl rfl
            refine V2_iload_n (i := 3) d_P_car_38 rfl rfl ?_
            refine V2_ireturn d_P_car_39 rfl ?_
            exact absurd (by rw [c1_2]; decide) hw
          by_cases c50_2 : w = 2
          · refine V2_tableIn (tgt := 52) (off := 51) d_Car_alter_1 (by rw [c50_2]; decide) (by rw [c50_2]; decide) (by rw [c50_2]; decide) rfl ?_
            refine V2_aload_n (i := 0) d_Car_alter_52 rfl rfl ?_
            refine V2_iload_n (i := 2) d_Car_alter_53 rfl rfl ?_
            refine V2_put d_Car_alter_54 fl_Car_16 (by decide) rfl (by decide) rfl ?_
            refine V2_goto (tgt := 76) d_Car_alter_57 rfl ?_
            refine V2_return d_Car_alter_76 rfl ?_
            refine V2.to (st' := []) ?_ rfl rfl rfl rfl
            refine V2_iload_n (i := 3) d_P_car_38 rfl rfl ?_
            refine V2_ireturn d_P_car_39 rfl ?_
            exact absurd (by rw [c1_2]; decide) hw
          by_cases c50_3 : w = 3
          · refine V2_tableIn (tgt := 60) (off := 59) d_Car_alter_1 (by rw [c50_3]; decide) (by rw [c50_3]; decide) (by rw [c50_3]; decide) rfl ?_
            refine V2_aload_n (i := 0) d_Car_alter_60 rfl rfl ?_
            refine V2_iload_n (i := 2) d_Car_alter_61 rfl rfl ?_
            refine V2_put d_Car_alter_62 fl_Car_19 (by decide) rfl (by decide) rfl ?_
            refine V2_goto (tgt := 76) d_Car_alter_65 rfl ?_
            refine V2_return d_Car_alter_76 rfl ?_
            refine V2.to (st' := []) ?_ rfl rfl rfl rfl
            refine V2_iload_n (i := 3) d_P_car_38 rfl rfl ?_
            refine V2_ireturn d_P_car_39 rfl ?_
            exact absurd (by rw [c1_2]; decide) hw
          by_cases c50_4 : w = 4
          · refine V2_tableIn (tgt := 68) (off := 67) d_Car_alter_1 (by rw [c50_4]; decide) (by rw [c50_4]; decide) (by rw [c50_4]; decide) rfl ?_
            refine V2_aload_n (i := 0) d_Car_alter_68 rfl rfl ?_
            refine V2_iload_n (i := 2) d_Car_alter_69 rfl rfl ?_
            refine V2_put d_Car_alter_70 fl_Car_22 (by decide) rfl (by decide) rfl ?_
            refine V2_goto (tgt := 76) d_Car_alter_73 rfl ?_
            refine V2_return d_Car_alter_76 rfl ?_
            refine V2.to (st' := []) ?_ rfl rfl rfl rfl
            refine V2_iload_n (i := 3) d_P_car_38 rfl rfl ?_
            refine V2_ireturn d_P_car_39 rfl ?_
            exact absurd (by rw [c1_2]; decide) hw
          refine V2_tableOut (tgt := 76) d_Car_alter_1 (by have := lv_neT (a := 0) c50_0 rfl; have := lv_neT (a := 1) c50_1 rfl; have := lv_neT (a := 2) c50_2 rfl; have := lv_neT (a := 3) c50_3 rfl; have := lv_neT (a := 4) c50_4 rfl; omega) rfl ?_
          refine V2_return d_Car_alter_76 rfl ?_
          refine V2.to (st' := []) ?_ rfl rfl rfl rfl
          refine V2_iload_n (i := 3) d_P_car_38 rfl rfl ?_
          refine V2_ireturn d_P_car_39 rfl ?_
          exact absurd (by rw [c1_2]; decide) hw
        by_cases c48_1 : w = 1
        · refine V2_tableIn (tgt := 45) (off := 44) d_Car_tells_1 (by rw [c48_1]; decide) (by rw [c48_1]; decide) (by rw [c48_1]; decide) rfl ?_
          refine V2_aload_n (i := 0) d_Car_tells_45 rfl rfl ?_
          refine V2_get (v := F 2 1) d_Car_tells_46 fl_Car_13 (by decide) rfl (by decide) rfl rfl ?_
          refine V2_topi (fun v51 ev51 => ?_)
          refine V2_ireturn d_Car_tells_49 rfl ?_
          refine V2.to (st' := [.int v51]) ?_ rfl rfl rfl rfl
          refine V2_istore_n (i := 3) (l' := [some (.ref 0), some (.int w), some (.int v), some (.int v51)]) d_P_car_25 rfl (xst_i (Nat.le_of_ble_eq_true rfl) rfl rfl) ?_
          refine V2_aload_n (i := 0) d_P_car_26 rfl rfl ?_
          refine V2_getr (a := 1) d_P_car_27 fl_P_10 (by decide) rfl (by decide) rfl ?_
          refine V2_getr (a := 2) d_P_car_30 fl_P_93 (by decide) rfl (by decide) rfl ?_
          refine V2_iload_n (i := 1) d_P_car_33 rfl rfl ?_
          refine V2_iload_n (i := 2) d_P_car_34 rfl rfl ?_
          refine V2_callV [.int w, .int v] d_P_car_35 rfl rfl lk_P_129 mo_Car_alter (by decide) rfl rfl rfl (Nat.le_of_ble_eq_true rfl) (Nat.le_of_ble_eq_true rfl) ?_
          refine V2.to (l' := [some (.ref 2), some (.int w), some (.int v)]) ?_ rfl rfl rfl rfl
          refine V2_iload_n (i := 1) d_Car_alter_0 rfl rfl ?_
          by_cases c52_0 : w = 0
          · refine V2_tableIn (tgt := 36) (off := 35) d_Car_alter_1 (by rw [c52_0]; decide) (by rw [c52_0]; decide) (by rw [c52_0]; decide) rfl ?_
            refine V2_aload_n (i := 0) d_Car_alter_36 rfl rfl ?_
            refine V2_iload_n (i := 2) d_Car_alter_37 rfl rfl ?_
            refine V2_put d_Car_alter_38 fl_Car_7 (by decide) rfl (by decide) rfl ?_
            refine V2_goto (tgt := 76) d_Car_alter_41 rfl ?_
            refine V2_return d_Car_alter_76 rfl ?_
            refine V2.to (st' := []) ?_ rfl rfl rfl rfl
            refine V2_iload_n (i := 3) d_P_car_38 rfl rfl ?_
            refine V2_ireturn d_P_car_39 rfl ?_
            exact absurd (by rw [c1_2]; decide) hw
          by_cases c52_1 : w = 1
          · refine V2_tableIn (tgt := 44) (off := 43) d_Car_alter_1 (by rw [c52_1]; decide) (by rw [c52_1]; decide) (by rw [c52_1]; decide) rfl ?_
            refine V2_aload_n (i := 0) d_Car_alter_44 rfl rfl ?_
            refine V2_iload_n (i := 2) d_Car_alter_45 rfl rfl ?_
            refine V2_put d_Car_alter_46 fl_Car_13 (by decide) rfl (by decide) rfl ?_
            refine V2_goto (tgt := 76) d_Car_alter_49 rfl ?_
            refine V2_return d_Car_alter_76 rfl ?_
            refine V2.to (st' := []) ?_ rfl rfl rfl rfl
            refine V2_iload_n (i := 3) d_P_car_38 rfl rfl ?_
            refine V2_ireturn d_P_car_39 rfl ?_
            exact absurd (by rw [c1_2]; decide) hw
          by_cases c52_2 : w = 2
          · refine V2_tableIn (tgt := 52) (off := 51) d_Car_alter_1 (by rw [c52_2]; decide) (by rw [c52_2]; decide) (by rw [c52_2]; decide) rfl ?_
            refine V2_aload_n (i := 0) d_Car_alter_52 rfl rfl ?_
            refine V2_iload_n (i := 2) d_Car_alter_53 rfl rfl ?_
            refine V2_put d_Car_alter_54 fl_Car_16 (by decide) rfl (by decide) rfl ?_
            refine V2_goto (tgt := 76) d_Car_alter_57 rfl ?_
            refine V2_return d_Car_alter_76 rfl ?_
            refine V2.to (st' := []) ?_ rfl rfl rfl rfl
            refine V2_iload_n (i := 3) d_P_car_38 rfl rfl ?_
            refine V2_ireturn d_P_car_39 rfl ?_
            exact absurd (by rw [c1_2]; decide) hw
          by_cases c52_3 : w = 3
          · refine V2_tableIn (tgt := 60) (off := 59) d_Car_alter_1 (by rw [c52_3]; decide) (by rw [c52_3]; decide) (by rw [c52_3]; decide) rfl ?_
            refine V2_aload_n (i := 0) d_Car_alter_60 rfl rfl ?_
            refine V2_iload_n (i := 2) d_Car_alter_61 rfl rfl ?_
            refine V2_put d_Car_alter_62 fl_Car_19 (by decide) rfl (by decide) rfl ?_
            refine V2_goto (tgt := 76) d_Car_alter_65 rfl ?_
            refine V2_return d_Car_alter_76 rfl ?_
            refine V2.to (st' := []) ?_ rfl rfl rfl rfl
            refine V2_iload_n (i := 3) d_P_car_38 rfl rfl ?_
            refine V2_ireturn d_P_car_39 rfl ?_
            exact absurd (by rw [c1_2]; decide) hw
          by_cases c52_4 : w = 4
          · refine V2_tableIn (tgt := 68) (off := 67) d_Car_alter_1 (by rw [c52_4]; decide) (by rw [c52_4]; decide) (by rw [c52_4]; decide) rfl ?_
            refine V2_aload_n (i := 0) d_Car_alter_68 rfl rfl ?_
            refine V2_iload_n (i := 2) d_Car_alter_69 rfl rfl ?_
            refine V2_put d_Car_alter_70 fl_Car_22 (by decide) rfl (by decide) rfl ?_
            refine V2_goto (tgt := 76) d_Car_alter_73 rfl ?_
            refine V2_return d_Car_alter_76 rfl ?_
            refine V2.to (st' := []) ?_ rfl rfl rfl rfl
            refine V2_iload_n (i := 3) d_P_car_38 rfl rfl ?_
            refine V2_ireturn d_P_car_39 rfl ?_
            exact absurd (by rw [c1_2]; decide) hw
          refine V2_tableOut (tgt := 76) d_Car_alter_1 (by have := lv_neT (a := 0) c52_0 rfl; have := lv_neT (a := 1) c52_1 rfl; have := lv_neT (a := 2) c52_2 rfl; have := lv_neT (a := 3) c52_3 rfl; have := lv_neT (a := 4) c52_4 rfl; omega) rfl ?_
          refine V2_return d_Car_alter_76 rfl ?_
          refine V2.to (st' := []) ?_ rfl rfl rfl rfl
          refine V2_iload_n (i := 3) d_P_car_38 rfl rfl ?_
          refine V2_ireturn d_P_car_39 rfl ?_
          exact absurd (by rw [c1_2]; decide) hw
        by_cases c48_2 : w = 2
        · refine V2_tableIn (tgt := 50) (off := 49) d_Car_tells_1 (by rw [c48_2]; decide) (by rw [c48_2]; decide) (by rw [c48_2]; decide) rfl ?_
          refine V2_aload_n (i := 0) d_Car_tells_50 rfl rfl ?_
          refine V2_get (v := F 2 2) d_Car_tells_51 fl_Car_16 (by decide) rfl (by decide) rfl rfl ?_
          refine V2_topi (fun v53 ev53 => ?_)
          refine V2_ireturn d_Car_tells_54 rfl ?_
          refine V2.to (st' := [.int v53]) ?_ rfl rfl rfl rfl
          refine V2_istore_n (i := 3) (l' := [some (.ref 0), some (.int w), some (.int v), some (.int v53)]) d_P_car_25 rfl (xst_i (Nat.le_of_ble_eq_true rfl) rfl rfl) ?_
          refine V2_aload_n (i := 0) d_P_car_26 rfl rfl ?_
          refine V2_getr (a := 1) d_P_car_27 fl_P_10 (by decide) rfl (by decide) rfl ?_
          refine V2_getr (a := 2) d_P_car_30 fl_P_93 (by decide) rfl (by decide) rfl ?_
          refine V2_iload_n (i := 1) d_P_car_33 rfl rfl ?_
          refine V2_iload_n (i := 2) d_P_car_34 rfl rfl ?_
          refine V2_callV [.int w, .int v] d_P_car_35 rfl rfl lk_P_129 mo_Car_alter (by decide) rfl rfl rfl (Nat.le_of_ble_eq_true rfl) (Nat.le_of_ble_eq_true rfl) ?_
          refine V2.to (l' := [some (.ref 2), some (.int w), some (.int v)]) ?_ rfl rfl rfl rfl
          refine V2_iload_n (i := 1) d_Car_alter_0 rfl rfl ?_
          by_cases c54_0 : w = 0
          · refine V2_tableIn (tgt := 36) (off := 35) d_Car_alter_1 (by rw [c54_0]; decide) (by rw [c54_0]; decide) (by rw [c54_0]; decide) rfl ?_
            refine V2_aload_n (i := 0) d_Car_alter_36 rfl rfl ?_
            refine V2_iload_n (i := 2) d_Car_alter_37 rfl rfl ?_
            refine V2_put d_Car_alter_38 fl_Car_7 (by decide) rfl (by decide) rfl ?_
            refine V2_goto (tgt := 76) d_Car_alter_41 rfl ?_
            refine V2_return d_Car_alter_76 rfl ?_
            refine V2.to (st' := []) ?_ rfl rfl rfl rfl
            refine V2_iload_n (i := 3) d_P_car_38 rfl rfl ?_
            refine V2_ireturn d_P_car_39 rfl ?_
            exact absurd (by rw [c1_2]; decide) hw
          by_cases c54_1 : w = 1
          · refine V2_tableIn (tgt := 44) (off := 43) d_Car_alter_1 (by rw [c54_1]; decide) (by rw [c54_1]; decide) (by rw [c54_1]; decide) rfl ?_
            refine V2_aload_n (i := 0) d_Car_alter_44 rfl rfl ?_
            refine V2_iload_n (i := 2) d_Car_alter_45 rfl rfl ?_
            refine V2_put d_Car_alter_46 fl_Car_13 (by decide) rfl (by decide) rfl ?_
            refine V2_goto (tgt := 76) d_Car_alter_49 rfl ?_
            refine V2_return d_Car_alter_76 rfl ?_
            refine V2.to (st' := []) ?_ rfl rfl rfl rfl
            refine V2_iload_n (i := 3) d_P_car_38 rfl rfl ?_
            refine V2_ireturn d_P_car_39 rfl ?_
            exact absurd (by rw [c1_2]; decide) hw
          by_cases c54_2 : w = 2
          · refine V2_tableIn (tgt := 52) (off := 51) d_Car_alter_1 (by rw [c54_2]; decide) (by rw [c54_2]; decide) (by rw [c54_2]; decide) rfl ?_
            refine V2_aload_n (i := 0) d_Car_alter_52 rfl rfl ?_
            refine V2_iload_n (i := 2) d_Car_alter_53 rfl rfl ?_
            refine V2_put d_Car_alter_54 fl_Car_16 (by decide) rfl (by decide) rfl ?_
            refine V2_goto (tgt := 76) d_Car_alter_57 rfl ?_
            refine V2_return d_Car_alter_76 rfl ?_
            refine V2.to (st' := []) ?_ rfl rfl rfl rfl
            refine V2_iload_n (i := 3) d_P_car_38 rfl rfl ?_
            refine V2_ireturn d_P_car_39 rfl ?_
            exact absurd (by rw [c1_2]; decide) hw
          by_cases c54_3 : w = 3
          · refine V2_tableIn (tgt := 60) (off := 59) d_Car_alter_1 (by rw [c54_3]; decide) (by rw [c54_3]; decide) (by rw [c54_3]; decide) rfl ?_
            refine V2_aload_n (i := 0) d_Car_alter_60 rfl rfl ?_
            refine V2_iload_n (i := 2) d_Car_alter_61 rfl rfl ?_
            refine V2_put d_Car_alter_62 fl_Car_19 (by decide) rfl (by decide) rfl ?_
            refine V2_goto (tgt := 76) d_Car_alter_65 rfl ?_
            refine V2_return d_Car_alter_76 rfl ?_
            refine V2.to (st' := []) ?_ rfl rfl rfl rfl
            refine V2_iload_n (i := 3) d_P_car_38 rfl rfl ?_
            refine V2_ireturn d_P_car_39 rfl ?_
            exact absurd (by rw [c1_2]; decide) hw
          by_cases c54_4 : w = 4
          · refine V2_tableIn (tgt := 68) (off := 67) d_Car_alter_1 (by rw [c54_4]; decide) (by rw [c54_4]; decide) (by rw [c54_4]; decide) rfl ?_
            refine V2_aload_n (i := 0) d_Car_alter_68 rfl rfl ?_
            refine V2_iload_n (i := 2) d_Car_alter_69 rfl rfl ?_
            refine V2_put d_Car_alter_70 fl_Car_22 (by decide) rfl (by decide) rfl ?_
            refine V2_goto (tgt := 76) d_Car_alter_73 rfl ?_
            refine V2_return d_Car_alter_76 rfl ?_
            refine V2.to (st' := []) ?_ rfl rfl rfl rfl
            refine V2_iload_n (i := 3) d_P_car_38 rfl rfl ?_
            refine V2_ireturn d_P_car_39 rfl ?_
            exact absurd (by rw [c1_2]; decide) hw
          refine V2_tableOut (tgt := 76) d_Car_alter_1 (by have := lv_neT (a := 0) c54_0 rfl; have := lv_neT (a := 1) c54_1 rfl; have := lv_neT (a := 2) c54_2 rfl; have := lv_neT (a := 3) c54_3 rfl; have := lv_neT (a := 4) c54_4 rfl; omega) rfl ?_
          refine V2_return d_Car_alter_76 rfl ?_
          refine V2.to (st' := []) ?_ rfl rfl rfl rfl
          refine V2_iload_n (i := 3) d_P_car_38 rfl rfl ?_
          refine V2_ireturn d_P_car_39 rfl ?_
          exact absurd (by rw [c1_2]; decide) hw
        by_cases c48_3 : w = 3
        · refine V2_tableIn (tgt := 55) (off := 54) d_Car_tells_1 (by rw [c48_3]; decide) (by rw [c48_3]; decide) (by rw [c48_3]; decide) rfl ?_
          refine V2_aload_n (i := 0) d_Car_tells_55 rfl rfl ?_
          refine V2_get (v := F 2 3) d_Car_tells_56 fl_Car_19 (by decide) rfl (by decide) rfl rfl ?_
          refine V2_topi (fun v55 ev55 => ?_)
          refine V2_ireturn d_Car_tells_59 rfl ?_
          refine V2.to (st' := [.int v55]) ?_ rfl rfl rfl rfl
          refine V2_istore_n (i := 3) (l' := [some (.ref 0), some (.int w), some (.int v), some (.int v55)]) d_P_car_25 rfl (xst_i (Nat.le_of_ble_eq_true rfl) rfl rfl) ?_
          refine V2_aload_n (i := 0) d_P_car_26 rfl rfl ?_
          refine V2_getr (a := 1) d_P_car_27 fl_P_10 (by decide) rfl (by decide) rfl ?_
          refine V2_getr (a := 2) d_P_car_30 fl_P_93 (by decide) rfl (by decide) rfl ?_
          refine V2_iload_n (i := 1) d_P_car_33 rfl rfl ?_
          refine V2_iload_n (i := 2) d_P_car_34 rfl rfl ?_
          refine V2_callV [.int w, .int v] d_P_car_35 rfl rfl lk_P_129 mo_Car_alter (by decide) rfl rfl rfl (Nat.le_of_ble_eq_true rfl) (Nat.le_of_ble_eq_true rfl) ?_
          refine V2.to (l' := [some (.ref 2), some (.int w), some (.int v)]) ?_ rfl rfl rfl rfl
          refine V2_iload_n (i := 1) d_Car_alter_0 rfl rfl ?_
          by_cases c56_0 : w = 0
          · refine V2_tableIn (tgt := 36) (off := 35) d_Car_alter_1 (by rw [c56_0]; decide) (by rw [c56_0]; decide) (by rw [c56_0]; decide) rfl ?_
            refine V2_aload_n (i := 0) d_Car_alter_36 rfl rfl ?_
            refine V2_iload_n (i := 2) d_Car_alter_37 rfl rfl ?_
            refine V2_put d_Car_alter_38 fl_Car_7 (by decide) rfl (by decide) rfl ?_
            refine V2_goto (tgt := 76) d_Car_alter_41 rfl ?_
            refine V2_return d_Car_alter_76 rfl ?_
            refine V2.to (st' := []) ?_ rfl rfl rfl rfl
            refine V2_iload_n (i := 3) d_P_car_38 rfl rfl ?_
            refine V2_ireturn d_P_car_39 rfl ?_
            exact absurd (by rw [c1_2]; decide) hw
          by_cases c56_1 : w = 1
          · refine V2_tableIn (tgt := 44) (off := 43) d_Car_alter_1 (by rw [c56_1]; decide) (by rw [c56_1]; decide) (by rw [c56_1]; decide) rfl ?_
            refine V2_aload_n (i := 0) d_Car_alter_44 rfl rfl ?_
            refine V2_iload_n (i := 2) d_Car_alter_45 rfl rfl ?_
            refine V2_put d_Car_alter_46 fl_Car_13 (by decide) rfl (by decide) rfl ?_
            refine V2_goto (tgt := 76) d_Car_alter_49 rfl ?_
            refine V2_return d_Car_alter_76 rfl ?_
            refine V2.to (st' := []) ?_ rfl rfl rfl rfl
            refine V2_iload_n (i := 3) d_P_car_38 rfl rfl ?_
            refine V2_ireturn d_P_car_39 rfl ?_
            exact absurd (by rw [c1_2]; decide) hw
          by_cases c56_2 : w = 2
          · refine V2_tableIn (tgt := 52) (off := 51) d_Car_alter_1 (by rw [c56_2]; decide) (by rw [c56_2]; decide) (by rw [c56_2]; decide) rfl ?_
            refine V2_aload_n (i := 0) d_Car_alter_52 rfl rfl ?_
            refine V2_iload_n (i := 2) d_Car_alter_53 rfl rfl ?_
            refine V2_put d_Car_alter_54 fl_Car_16 (by decide) rfl (by decide) rfl ?_
            refine V2_goto (tgt := 76) d_Car_alter_57 rfl ?_
            refine V2_return d_Car_alter_76 rfl ?_
            refine V2.to (st' := []) ?_ rfl rfl rfl rfl
            refine V2_iload_n (i := 3) d_P_car_38 rfl rfl ?_
            refine V2_ireturn d_P_car_39 rfl ?_
            exact absurd (by rw [c1_2]; decide) hw
          by_cases c56_3 : w = 3
          · refine V2_tableIn (tgt := 60) (off := 59) d_Car_alter_1 (by rw [c56_3]; decide) (by rw [c56_3]; decide) (by rw [c56_3]; decide) rfl ?_
            refine V2_aload_n (i := 0) d_Car_alter_60 rfl rfl ?_
            refine V2_iload_n (i := 2) d_Car_alter_61 rfl rfl ?_
            refine V2_put d_Car_alter_62 fl_Car_19 (by decide) rfl (by decide) rfl ?_
            refine V2_goto (tgt := 76) d_Car_alter_65 rfl ?_
            refine V2_return d_Car_alter_76 rfl ?_
            refine V2.to (st' := []) ?_ rfl rfl rfl rfl
            refine V2_iload_n (i := 3) d_P_car_38 rfl rfl ?_
            refine V2_ireturn d_P_car_39 rfl ?_
            exact absurd (by rw [c1_2]; decide) hw
          by_cases c56_4 : w = 4
          · refine V2_tableIn (tgt := 68) (off := 67) d_Car_alter_1 (by rw [c56_4]; decide) (by rw [c56_4]; decide) (by rw [c56_4]; decide) rfl ?_
            refine V2_aload_n (i := 0) d_Car_alter_68 rfl rfl ?_
            refine V2_iload_n (i := 2) d_Car_alter_69 rfl rfl ?_
            refine V2_put d_Car_alter_70 fl_Car_22 (by decide) rfl (by decide) rfl ?_
            refine V2_goto (tgt := 76) d_Car_alter_73 rfl ?_
            refine V2_return d_Car_alter_76 rfl ?_
            refine V2.to (st' := []) ?_ rfl rfl rfl rfl
            refine V2_iload_n (i := 3) d_P_car_38 rfl rfl ?_
            refine V2_ireturn d_P_car_39 rfl ?_
            exact absurd (by rw [c1_2]; decide) hw
          refine V2_tableOut (tgt := 76) d_Car_alter_1 (by have := lv_neT (a := 0) c56_0 rfl; have := lv_neT (a := 1) c56_1 rfl; have := lv_neT (a := 2) c56_2 rfl; have := lv_neT (a := 3) c56_3 rfl; have := lv_neT (a := 4) c56_4 rfl; omega) rfl ?_
          refine V2_return d_Car_alter_76 rfl ?_
          refine V2.to (st' := []) ?_ rfl rfl rfl rfl
          refine V2_iload_n (i := 3) d_P_car_38 rfl rfl ?_
          refine V2_ireturn d_P_car_39 rfl ?_
          exact absurd (by rw [c1_2]; decide) hw
        by_cases c48_4 : w = 4
        · refine V2_tableIn (tgt := 60) (off := 59) d_Car_tells_1 (by rw [c48_4]; decide) (by rw [c48_4]; decide) (by rw [c48_4]; decide) rfl ?_
          refine V2_aload_n (i := 0) d_Car_tells_60 rfl rfl ?_
          refine V2_get (v := F 2 4) d_Car_tells_61 fl_Car_22 (by decide) rfl (by decide) rfl rfl ?_
          refine V2_topi (fun v57 ev57 => ?_)
          refine V2_ireturn d_Car_tells_64 rfl ?_
          refine V2.to (st' := [.int v57]) ?_ rfl rfl rfl rfl
          refine V2_istore_n (i := 3) (l' := [some (.ref 0), some (.int w), some (.int v), some (.int v57)]) d_P_car_25 rfl (xst_i (Nat.le_of_ble_eq_true rfl) rfl rfl) ?_
          refine V2_aload_n (i := 0) d_P_car_26 rfl rfl ?_
          refine V2_getr (a := 1) d_P_car_27 fl_P_10 (by decide) rfl (by decide) rfl ?_
          refine V2_getr (a := 2) d_P_car_30 fl_P_93 (by decide) rfl (by decide) rfl ?_
          refine V2_iload_n (i := 1) d_P_car_33 rfl rfl ?_
          refine V2_iload_n (i := 2) d_P_car_34 rfl rfl ?_
          refine V2_callV [.int w, .int v] d_P_car_35 rfl rfl lk_P_129 mo_Car_alter (by decide) rfl rfl rfl (Nat.le_of_ble_eq_true rfl) (Nat.le_of_ble_eq_true rfl) ?_
          refine V2.to (l' := [some (.ref 2), some (.int w), some (.int v)]) ?_ rfl rfl rfl rfl
          refine V2_iload_n (i := 1) d_Car_alter_0 rfl rfl ?_
          by_cases c58_0 : w = 0
          · refine V2_tableIn (tgt := 36) (off := 35) d_Car_alter_1 (by rw [c58_0]; decide) (by rw [c58_0]; decide) (by rw [c58_0]; decide) rfl ?_
            refine V2_aload_n (i := 0) d_Car_alter_36 rfl rfl ?_
            refine V2_iload_n (i := 2) d_Car_alter_37 rfl rfl ?_
            refine V2_put d_Car_alter_38 fl_Car_7 (by decide) rfl (by decide) rfl ?_
            refine V2_goto (tgt := 76) d_Car_alter_41 rfl ?_
            refine V2_return d_Car_alter_76 rfl ?_
            refine V2.to (st' := []) ?_ rfl rfl rfl rfl
            refine V2_iload_n (i := 3) d_P_car_38 rfl rfl ?_
            refine V2_ireturn d_P_car_39 rfl ?_
            exact absurd (by rw [c1_2]; decide) hw
          by_cases c58_1 : w = 1
          · refine V2_tableIn (tgt := 44) (off := 43) d_Car_alter_1 (by rw [c58_1]; decide) (by rw [c58_1]; decide) (by rw [c58_1]; decide) rfl ?_
            refine V2_aload_n (i := 0) d_Car_alter_44 rfl rfl ?_
            refine V2_iload_n (i := 2) d_Car_alter_45 rfl rfl ?_
            refine V2_put d_Car_alter_46 fl_Car_13 (by decide) rfl (by decide) rfl ?_
            refine V2_goto (tgt := 76) d_Car_alter_49 rfl ?_
            refine V2_return d_Car_alter_76 rfl ?_
            refine V2.to (st' := []) ?_ rfl rfl rfl rfl
            refine V2_iload_n (i := 3) d_P_car_38 rfl rfl ?_
            refine V2_ireturn d_P_car_39 rfl ?_
            exact absurd (by rw [c1_2]; decide) hw
          by_cases c58_2 : w = 2
          · refine V2_tableIn (tgt := 52) (off := 51) d_Car_alter_1 (by rw [c58_2]; decide) (by rw [c58_2]; decide) (by rw [c58_2]; decide) rfl ?_
            refine V2_aload_n (i := 0) d_Car_alter_52 rfl rfl ?_
            refine V2_iload_n (i := 2) d_Car_alter_53 rfl rfl ?_
            refine V2_put d_Car_alter_54 fl_Car_16 (by decide) rfl (by decide) rfl ?_
            refine V2_goto (tgt := 76) d_Car_alter_57 rfl ?_
            refine V2_return d_Car_alter_76 rfl ?_
            refine V2.to (st' := []) ?_ rfl rfl rfl rfl
            refine V2_iload_n (i := 3) d_P_car_38 rfl rfl ?_
            refine V2_ireturn d_P_car_39 rfl ?_
            exact absurd (by rw [c1_2]; decide) hw
          by_cases c58_3 : w = 3
          · refine V2_tableIn (tgt := 60) (off := 59) d_Car_alter_1 (by rw [c58_3]; decide) (by rw [c58_3]; decide) (by rw [c58_3]; decide) rfl ?_
            refine V2_aload_n (i := 0) d_Car_alter_60 rfl rfl ?_
            refine V2_iload_n (i := 2) d_Car_alter_61 rfl rfl ?_
            refine V2_put d_Car_alter_62 fl_Car_19 (by decide) rfl (by decide) rfl ?_
            refine V2_goto (tgt := 76) d_Car_alter_65 rfl ?_
            refine V2_return d_Car_alter_76 rfl ?_
            refine V2.to (st' := []) ?_ rfl rfl rfl rfl
            refine V2_iload_n (i := 3) d_P_car_38 rfl rfl ?_
            refine V2_ireturn d_P_car_39 rfl ?_
            exact absurd (by rw [c1_2]; decide) hw
          by_cases c58_4 : w = 4
          · refine V2_tableIn (tgt := 68) (off := 67) d_Car_alter_1 (by rw [c58_4]; decide) (by rw [c58_4]; decide) (by rw [c58_4]; decide) rfl ?_
            refine V2_aload_n (i := 0) d_Car_alter_68 rfl rfl ?_
            refine V2_iload_n (i := 2) d_Car_alter_69 rfl rfl ?_
            refine V2_put d_Car_alter_70 fl_Car_22 (by decide) rfl (by decide) rfl ?_
            refine V2_goto (tgt := 76) d_Car_alter_73 rfl ?_
            refine V2_return d_Car_alter_76 rfl ?_
            refine V2.to (st' := []) ?_ rfl rfl rfl rfl
            refine V2_iload_n (i := 3) d_P_car_38 rfl rfl ?_
            refine V2_ireturn d_P_car_39 rfl ?_
            exact absurd (by rw [c1_2]; decide) hw
          refine V2_tableOut (tgt := 76) d_Car_alter_1 (by have := lv_neT (a := 0) c58_0 rfl; have := lv_neT (a := 1) c58_1 rfl; have := lv_neT (a := 2) c58_2 rfl; have := lv_neT (a := 3) c58_3 rfl; have := lv_neT (a := 4) c58_4 rfl; omega) rfl ?_
          refine V2_return d_Car_alter_76 rfl ?_
          refine V2.to (st' := []) ?_ rfl rfl rfl rfl
          refine V2_iload_n (i := 3) d_P_car_38 rfl rfl ?_
          refine V2_ireturn d_P_car_39 rfl ?_
          exact absurd (by rw [c1_2]; decide) hw
        by_cases c48_5 : w = 5
        · refine V2_tableIn (tgt := 65) (off := 64) d_Car_tells_1 (by rw [c48_5]; decide) (by rw [c48_5]; decide) (by rw [c48_5]; decide) rfl ?_
          refine V2_aload_n (i := 0) d_Car_tells_65 rfl rfl ?_
          refine V2_get (v := F 2 7) d_Car_tells_66 fl_Car_31 (by decide) rfl (by decide) rfl rfl ?_
          refine V2_topi (fun v59 ev59 => ?_)
          refine V2_if_eq (tgt := 76) d_Car_tells_69 rfl (fun c60 => ?_) (fun c60 => ?_)
          · refine V2_iconst (v := 0) d_Car_tells_76 rfl ?_
            refine V2_ireturn d_Car_tells_77 rfl ?_
            refine V2.to (st' := [.int (0 : Int32)]) ?_ rfl rfl rfl rfl
            refine V2_istore_n (i := 3) (l' := [some (.ref 0), some (.int w), some (.int v), some (.int (0 : Int32))]) d_P_car_25 rfl (xst_i (Nat.le_of_ble_eq_true rfl) rfl rfl) ?_
            refine V2_aload_n (i := 0) d_P_car_26 rfl rfl ?_
            refine V2_getr (a := 1) d_P_car_27 fl_P_10 (by decide) rfl (by decide) rfl ?_
            refine V2_getr (a := 2) d_P_car_30 fl_P_93 (by decide) rfl (by decide) rfl ?_
            refine V2_iload_n (i := 1) d_P_car_33 rfl rfl ?_
            refine V2_iload_n (i := 2) d_P_car_34 rfl rfl ?_
            refine V2_callV [.int w, .int v] d_P_car_35 rfl rfl lk_P_129 mo_Car_alter (by decide) rfl rfl rfl (Nat.le_of_ble_eq_true rfl) (Nat.le_of_ble_eq_true rfl) ?_
            refine V2.to (l' := [some (.ref 2), some (.int w), some (.int v)]) ?_ rfl rfl rfl rfl
            refine V2_iload_n (i := 1) d_Car_alter_0 rfl rfl ?_
            by_cases c61_0 : w = 0
            · refine V2_tableIn (tgt := 36) (off := 35) d_Car_alter_1 (by rw [c61_0]; decide) (by rw [c61_0]; decide) (by rw [c61_0]; decide) rfl ?_
              refine V2_aload_n (i := 0) d_Car_alter_36 rfl rfl ?_
              refine V2_iload_n (i := 2) d_Car_alter_37 rfl rfl ?_
              refine V2_put d_Car_alter_38 fl_Car_7 (by decide) rfl (by decide) rfl ?_
              refine V2_goto (tgt := 76) d_Car_alter_41 rfl ?_
              refine V2_return d_Car_alter_76 rfl ?_
              refine V2.to (st' := []) ?_ rfl rfl rfl rfl
              refine V2_iload_n (i := 3) d_P_car_38 rfl rfl ?_
              refine V2_ireturn d_P_car_39 rfl ?_
              exact absurd (by rw [c1_2]; decide) hw
            by_cases c61_1 : w = 1
            · refine V2_tableIn (tgt := 44) (off := 43) d_Car_alter_1 (by rw [c61_1]; decide) (by rw [c61_1]; decide) (by rw [c61_1]; decide) rfl ?_
              refine V2_aload_n (i := 0) d_Car_alter_44 rfl rfl ?_
              refine V2_iload_n (i := 2) d_Car_alter_45 rfl rfl ?_
              refine V2_put d_Car_alter_46 fl_Car_13 (by decide) rfl (by decide) rfl ?_
              refine V2_goto (tgt := 76) d_Car_alter_49 rfl ?_
              refine V2_return d_Car_alter_76 rfl ?_
              refine V2.to (st' := []) ?_ rfl rfl rfl rfl
              refine V2_iload_n (i := 3) d_P_car_38 rfl rfl ?_
              refine V2_ireturn d_P_car_39 rfl ?_
              exact absurd (by rw [c1_2]; decide) hw
            by_cases c61_2 : w = 2
            · refine V2_tableIn (tgt := 52) (off := 51) d_Car_alter_1 (by rw [c61_2]; decide) (by rw [c61_2]; decide) (by rw [c61_2]; decide) rfl ?_
              refine V2_aload_n (i := 0) d_Car_alter_52 rfl rfl ?_
              refine V2_iload_n (i := 2) d_Car_alter_53 rfl rfl ?_
              refine V2_put d_Car_alter_54 fl_Car_16 (by decide) rfl (by decide) rfl ?_
              refine V2_goto (tgt := 76) d_Car_alter_57 rfl ?_
              refine V2_return d_Car_alter_76 rfl ?_
              refine V2.to (st' := []) ?_ rfl rfl rfl rfl
              refine V2_iload_n (i := 3) d_P_car_38 rfl rfl ?_
              refine V2_ireturn d_P_car_39 rfl ?_
              exact absurd (by rw [c1_2]; decide) hw
            by_cases c61_3 : w = 3
            · refine V2_tableIn (tgt := 60) (off := 59) d_Car_alter_1 (by rw [c61_3]; decide) (by rw [c61_3]; decide) (by rw [c61_3]; decide) rfl ?_
              refine V2_aload_n (i := 0) d_Car_alter_60 rfl rfl ?_
              refine V2_iload_n (i := 2) d_Car_alter_61 rfl rfl ?_
              refine V2_put d_Car_alter_62 fl_Car_19 (by decide) rfl (by decide) rfl ?_
              refine V2_goto (tgt := 76) d_Car_alter_65 rfl ?_
              refine V2_return d_Car_alter_76 rfl ?_
              refine V2.to (st' := []) ?_ rfl rfl rfl rfl
              refine V2_iload_n (i := 3) d_P_car_38 rfl rfl ?_
              refine V2_ireturn d_P_car_39 rfl ?_
              exact absurd (by rw [c1_2]; decide) hw
            by_cases c61_4 : w = 4
            · refine V2_tableIn (tgt := 68) (off := 67) d_Car_alter_1 (by rw [c61_4]; decide) (by rw [c61_4]; decide) (by rw [c61_4]; decide) rfl ?_
              refine V2_aload_n (i := 0) d_Car_alter_68 rfl rfl ?_
              refine V2_iload_n (i := 2) d_Car_alter_69 rfl rfl ?_
              refine V2_put d_Car_alter_70 fl_Car_22 (by decide) rfl (by decide) rfl ?_
              refine V2_goto (tgt := 76) d_Car_alter_73 rfl ?_
              refine V2_return d_Car_alter_76 rfl ?_
              refine V2.to (st' := []) ?_ rfl rfl rfl rfl
              refine V2_iload_n (i := 3) d_P_car_38 rfl rfl ?_
              refine V2_ireturn d_P_car_39 rfl ?_
              exact absurd (by rw [c1_2]; decide) hw
            refine V2_tableOut (tgt := 76) d_Car_alter_1 (by have := lv_neT (a := 0) c61_0 rfl; have := lv_neT (a := 1) c61_1 rfl; have := lv_neT (a := 2) c61_2 rfl; have := lv_neT (a := 3) c61_3 rfl; have := lv_neT (a := 4) c61_4 rfl; omega) rfl ?_
            refine V2_return d_Car_alter_76 rfl ?_
            refine V2.to (st' := []) ?_ rfl rfl rfl rfl
            refine V2_iload_n (i := 3) d_P_car_38 rfl rfl ?_
            refine V2_ireturn d_P_car_39 rfl ?_
            exact absurd (by rw [c1_2]; decide) hw
          · refine V2_iconst (v := 1) d_Car_tells_72 rfl ?_
            refine V2_goto (tgt := 77) d_Car_tells_73 rfl ?_
            refine V2_ireturn d_Car_tells_77 rfl ?_
            refine V2.to (st' := [.int (1 : Int32)]) ?_ rfl rfl rfl rfl
            refine V2_istore_n (i := 3) (l' := [some (.ref 0), some (.int w), some (.int v), some (.int (1 : Int32))]) d_P_car_25 rfl (xst_i (Nat.le_of_ble_eq_true rfl) rfl rfl) ?_
            refine V2_aload_n (i := 0) d_P_car_26 rfl rfl ?_
            refine V2_getr (a := 1) d_P_car_27 fl_P_10 (by decide) rfl (by decide) rfl ?_
            refine V2_getr (a := 2) d_P_car_30 fl_P_93 (by decide) rfl (by decide) rfl ?_
            refine V2_iload_n (i := 1) d_P_car_33 rfl rfl ?_
            refine V2_iload_n (i := 2) d_P_car_34 rfl rfl ?_
            refine V2_callV [.int w, .int v] d_P_car_35 rfl rfl lk_P_129 mo_Car_alter (by decide) rfl rfl rfl (Nat.le_of_ble_eq_true rfl) (Nat.le_of_ble_eq_true rfl) ?_
            refine V2.to (l' := [some (.ref 2), some (.int w), some (.int v)]) ?_ rfl rfl rfl rfl
            refine V2_iload_n (i := 1) d_Car_alter_0 rfl rfl ?_
            by_cases c62_0 : w = 0
            · refine V2_tableIn (tgt := 36) (off := 35) d_Car_alter_1 (by rw [c62_0]; decide) (by rw [c62_0]; decide) (by rw [c62_0]; decide) rfl ?_
              refine V2_aload_n (i := 0) d_Car_alter_36 rfl rfl ?_
              refine V2_iload_n (i := 2) d_Car_alter_37 rfl rfl ?_
              refine V2_put d_Car_alter_38 fl_Car_7 (by decide) rfl (by decide) rfl ?_
              refine V2_goto (tgt := 76) d_Car_alter_41 rfl ?_
              refine V2_return d_Car_alter_76 rfl ?_
              refine V2.to (st' := []) ?_ rfl rfl rfl rfl
              refine V2_iload_n (i := 3) d_P_car_38 rfl rfl ?_
              refine V2_ireturn d_P_car_39 rfl ?_
              exact absurd (by rw [c1_2]; decide) hw
            by_cases c62_1 : w = 1
            · refine V2_tableIn (tgt := 44) (off := 43) d_Car_alter_1 (by rw [c62_1]; decide) (by rw [c62_1]; decide) (by rw [c62_1]; decide) rfl ?_
              refine V2_aload_n (i := 0) d_Car_alter_44 rfl rfl ?_
              refine V2_iload_n (i := 2) d_Car_alter_45 rfl rfl ?_
              refine V2_put d_Car_alter_46 fl_Car_13 (by decide) rfl (by decide) rfl ?_
              refine V2_goto (tgt := 76) d_Car_alter_49 rfl ?_
              refine V2_return d_Car_alter_76 rfl ?_
              refine V2.to (st' := []) ?_ rfl rfl rfl rfl
              refine V2_iload_n (i := 3) d_P_car_38 rfl rfl ?_
              refine V2_ireturn d_P_car_39 rfl ?_
              exact absurd (by rw [c1_2]; decide) hw
            by_cases c62_2 : w = 2
            · refine V2_tableIn (tgt := 52) (off := 51) d_Car_alter_1 (by rw [c62_2]; decide) (by rw [c62_2]; decide) (by rw [c62_2]; decide) rfl ?_
              refine V2_aload_n (i := 0) d_Car_alter_52 rfl rfl ?_
              refine V2_iload_n (i := 2) d_Car_alter_53 rfl rfl ?_
              refine V2_put d_Car_alter_54 fl_Car_16 (by decide) rfl (by decide) rfl ?_
              refine V2_goto (tgt := 76) d_Car_alter_57 rfl ?_
              refine V2_return d_Car_alter_76 rfl ?_
              refine V2.to (st' := []) ?_ rfl rfl rfl rfl
              refine V2_iload_n (i := 3) d_P_car_38 rfl rfl ?_
              refine V2_ireturn d_P_car_39 rfl ?_
              exact absurd (by rw [c1_2]; decide) hw
            by_cases c62_3 : w = 3
            · refine V2_tableIn (tgt := 60) (off := 59) d_Car_alter_1 (by rw [c62_3]; decide) (by rw [c62_3]; decide) (by rw [c62_3]; decide) rfl ?_
              refine V2_aload_n (i := 0) d_Car_alter_60 rfl rfl ?_
              refine V2_iload_n (i := 2) d_Car_alter_61 rfl rfl ?_
              refine V2_put d_Car_alter_62 fl_Car_19 (by decide) rfl (by decide) rfl ?_
              refine V2_goto (tgt := 76) d_Car_alter_65 rfl ?_
              refine V2_return d_Car_alter_76 rfl ?_
              refine V2.to (st' := []) ?_ rfl rfl rfl rfl
              refine V2_iload_n (i := 3) d_P_car_38 rfl rfl ?_
              refine V2_ireturn d_P_car_39 rfl ?_
              exact absurd (by rw [c1_2]; decide) hw
            by_cases c62_4 : w = 4
            · refine V2_tableIn (tgt := 68) (off := 67) d_Car_alter_1 (by rw [c62_4]; decide) (by rw [c62_4]; decide) (by rw [c62_4]; decide) rfl ?_
              refine V2_aload_n (i := 0) d_Car_alter_68 rfl rfl ?_
              refine V2_iload_n (i := 2) d_Car_alter_69 rfl rfl ?_
              refine V2_put d_Car_alter_70 fl_Car_22 (by decide) rfl (by decide) rfl ?_
              refine V2_goto (tgt := 76) d_Car_alter_73 rfl ?_
              refine V2_return d_Car_alter_76 rfl ?_
              refine V2.to (st' := []) ?_ rfl rfl rfl rfl
              refine V2_iload_n (i := 3) d_P_car_38 rfl rfl ?_
              refine V2_ireturn d_P_car_39 rfl ?_
              exact absurd (by rw [c1_2]; decide) hw
            refine V2_tableOut (tgt := 76) d_Car_alter_1 (by have := lv_neT (a := 0) c62_0 rfl; have := lv_neT (a := 1) c62_1 rfl; have := lv_neT (a := 2) c62_2 rfl; have := lv_neT (a := 3) c62_3 rfl; have := lv_neT (a := 4) c62_4 rfl; omega) rfl ?_
            refine V2_return d_Car_alter_76 rfl ?_
            refine V2.to (st' := []) ?_ rfl rfl rfl rfl
            refine V2_iload_n (i := 3) d_P_car_38 rfl rfl ?_
            refine V2_ireturn d_P_car_39 rfl ?_
            exact absurd (by rw [c1_2]; decide) hw
        refine V2_tableOut (tgt := 78) d_Car_tells_1 (by have := lv_neT (a := 0) c48_0 rfl; have := lv_neT (a := 1) c48_1 rfl; have := lv_neT (a := 2) c48_2 rfl; have := lv_neT (a := 3) c48_3 rfl; have := lv_neT (a := 4) c48_4 rfl; have := lv_neT (a := 5) c48_5 rfl; omega) rfl ?_
        refine V2_aload_n (i := 0) d_Car_tells_78 rfl rfl ?_
        refine V2_get (v := F 2 6) d_Car_tells_79 fl_Car_28 (by decide) rfl (by decide) rfl rfl ?_
        refine V2_topi (fun v63 ev63 => ?_)
        refine V2_ireturn d_Car_tells_82 rfl ?_
        refine V2.to (st' := [.int v63]) ?_ rfl rfl rfl rfl
        refine V2_istore_n (i := 3) (l' := [some (.ref 0), some (.int w), some (.int v), some (.int v63)]) d_P_car_25 rfl (xst_i (Nat.le_of_ble_eq_true rfl) rfl rfl) ?_
        refine V2_aload_n (i := 0) d_P_car_26 rfl rfl ?_
        refine V2_getr (a := 1) d_P_car_27 fl_P_10 (by decide) rfl (by decide) rfl ?_
        refine V2_getr (a := 2) d_P_car_30 fl_P_93 (by decide) rfl (by decide) rfl ?_
        refine V2_iload_n (i := 1) d_P_car_33 rfl rfl ?_
        refine V2_iload_n (i := 2) d_P_car_34 rfl rfl ?_
        refine V2_callV [.int w, .int v] d_P_car_35 rfl rfl lk_P_129 mo_Car_alter (by decide) rfl rfl rfl (Nat.le_of_ble_eq_true rfl) (Nat.le_of_ble_eq_true rfl) ?_
        refine V2.to (l' := [some (.ref 2), some (.int w), some (.int v)]) ?_ rfl rfl rfl rfl
        refine V2_iload_n (i := 1) d_Car_alter_0 rfl rfl ?_
        by_cases c64_0 : w = 0
        · refine V2_tableIn (tgt := 36) (off := 35) d_Car_alter_1 (by rw [c64_0]; decide) (by rw [c64_0]; decide) (by rw [c64_0]; decide) rfl ?_
          refine V2_aload_n (i := 0) d_Car_alter_36 rfl rfl ?_
          refine V2_iload_n (i := 2) d_Car_alter_37 rfl rfl ?_
          refine V2_put d_Car_alter_38 fl_Car_7 (by decide) rfl (by decide) rfl ?_
          refine V2_goto (tgt := 76) d_Car_alter_41 rfl ?_
          refine V2_return d_Car_alter_76 rfl ?_
          refine V2.to (st' := []) ?_ rfl rfl rfl rfl
          refine V2_iload_n (i := 3) d_P_car_38 rfl rfl ?_
          refine V2_ireturn d_P_car_39 rfl ?_
          exact absurd (by rw [c1_2]; decide) hw
        by_cases c64_1 : w = 1
        · refine V2_tableIn (tgt := 44) (off := 43) d_Car_alter_1 (by rw [c64_1]; decide) (by rw [c64_1]; decide) (by rw [c64_1]; decide) rfl ?_
          refine V2_aload_n (i := 0) d_Car_alter_44 rfl rfl ?_
          refine V2_iload_n (i := 2) d_Car_alter_45 rfl rfl ?_
          refine V2_put d_Car_alter_46 fl_Car_13 (by decide) rfl (by decide) rfl ?_
          refine V2_goto (tgt := 76) d_Car_alter_49 rfl ?_
          refine V2_return d_Car_alter_76 rfl ?_
          refine V2.to (st' := []) ?_ rfl rfl rfl rfl
          refine V2_iload_n (i := 3) d_P_car_38 rfl rfl ?_
          refine V2_ireturn d_P_car_39 rfl ?_
          exact absurd (by rw [c1_2]; decide) hw
        by_cases c64_2 : w = 2
        · refine V2_tableIn (tgt := 52) (off := 51) d_Car_alter_1 (by rw [c64_2]; decide) (by rw [c64_2]; decide) (by rw [c64_2]; decide) rfl ?_
          refine V2_aload_n (i := 0) d_Car_alter_52 rfl rfl ?_
          refine V2_iload_n (i := 2) d_Car_alter_53 rfl rfl ?_
          refine V2_put d_Car_alter_54 fl_Car_16 (by decide) rfl (by decide) rfl ?_
          refine V2_goto (tgt := 76) d_Car_alter_57 rfl ?_
          refine V2_return d_Car_alter_76 rfl ?_
          refine V2.to (st' := []) ?_ rfl rfl rfl rfl
          refine V2_iload_n (i := 3) d_P_car_38 rfl rfl ?_
          refine V2_ireturn d_P_car_39 rfl ?_
          exact absurd (by rw [c1_2]; decide) hw
        by_cases c64_3 : w = 3
        · refine V2_tableIn (tgt := 60) (off := 59) d_Car_alter_1 (by rw [c64_3]; decide) (by rw [c64_3]; decide) (by rw [c64_3]; decide) rfl ?_
          refine V2_aload_n (i := 0) d_Car_alter_60 rfl rfl ?_
          refine V2_iload_n (i := 2) d_Car_alter_61 rfl rfl ?_
          refine V2_put d_Car_alter_62 fl_Car_19 (by decide) rfl (by decide) rfl ?_
          refine V2_goto (tgt := 76) d_Car_alter_65 rfl ?_
          refine V2_return d_Car_alter_76 rfl ?_
          refine V2.to (st' := []) ?_ rfl rfl rfl rfl
          refine V2_iload_n (i := 3) d_P_car_38 rfl rfl ?_
          refine V2_ireturn d_P_car_39 rfl ?_
          exact absurd (by rw [c1_2]; decide) hw
        by_cases c64_4 : w = 4
        · refine V2_tableIn (tgt := 68) (off := 67) d_Car_alter_1 (by rw [c64_4]; decide) (by rw [c64_4]; decide) (by rw [c64_4]; decide) rfl ?_
          refine V2_aload_n (i := 0) d_Car_alter_68 rfl rfl ?_
          refine V2_iload_n (i := 2) d_Car_alter_69 rfl rfl ?_
          refine V2_put d_Car_alter_70 fl_Car_22 (by decide) rfl (by decide) rfl ?_
          refine V2_goto (tgt := 76) d_Car_alter_73 rfl ?_
          refine V2_return d_Car_alter_76 rfl ?_
          refine V2.to (st' := []) ?_ rfl rfl rfl rfl
          refine V2_iload_n (i := 3) d_P_car_38 rfl rfl ?_
          refine V2_ireturn d_P_car_39 rfl ?_
          exact absurd (by rw [c1_2]; decide) hw
        refine V2_tableOut (tgt := 76) d_Car_alter_1 (by have := lv_neT (a := 0) c64_0 rfl; have := lv_neT (a := 1) c64_1 rfl; have := lv_neT (a := 2) c64_2 rfl; have := lv_neT (a := 3) c64_3 rfl; have := lv_neT (a := 4) c64_4 rfl; omega) rfl ?_
        refine V2_return d_Car_alter_76 rfl ?_
        refine V2.to (st' := []) ?_ rfl rfl rfl rfl
        refine V2_iload_n (i := 3) d_P_car_38 rfl rfl ?_
        refine V2_ireturn d_P_car_39 rfl ?_
        exact absurd (by rw [c1_2]; decide) hw
  by_cases c1_3 : w = 3
  · refine V2_tableIn (tgt := 52) (off := 51) d_Car_canBecome_1 (by rw [c1_3]; decide) (by rw [c1_3]; decide) (by rw [c1_3]; decide) rfl ?_
    refine V2_iload_n (i := 1) d_Car_canBecome_52 rfl rfl ?_
    refine V2_iconst (v := 0) d_Car_canBecome_53 rfl ?_
    refine V2_iconst (v := 1) d_Car_canBecome_54 rfl ?_
    refine V2_callS [.int v, .int (0 : Int32), .int (1 : Int32)] d_Car_canBecome_55 rfl rfl lk_Car_35 mo_P_within (Nat.le_of_ble_eq_true rfl) (Nat.le_of_ble_eq_true rfl) ?_
    refine V2.to (l' := [some (.int v), some (.int (0 : Int32)), some (.int (1 : Int32))]) ?_ rfl rfl rfl rfl
    refine V2_iload_n (i := 0) d_P_within_0 rfl rfl ?_
    refine V2_iload_n (i := 1) d_P_within_1 rfl rfl ?_
    refine V2_icmp_lt (tgt := 14) d_P_within_2 rfl (fun c65 => ?_) (fun c65 => ?_)
    · refine V2_iconst (v := 0) d_P_within_14 rfl ?_
      refine V2_zreturn d_P_within_15 rfl (by decide) ?_
      refine V2.to (st' := [.int (0 : Int32)]) ?_ rfl rfl rfl rfl
      refine V2_zreturn d_Car_canBecome_58 rfl (by decide) ?_
      refine V2.to (st' := [.int (0 : Int32)]) ?_ rfl rfl rfl rfl
      refine V2_if_ne (tgt := 14) d_P_car_5 rfl (fun c => (by first | exact absurd c (by decide) | exact absurd (by decide) c)) (fun _ => ?_)
      refine V2_aload_n (i := 0) d_P_car_8 rfl rfl ?_
      refine V2_iconst (v := 1) d_P_car_9 rfl ?_
      refine V2_callV [.int (1 : Int32)] d_P_car_10 rfl rfl lk_P_66 mo_P_fails (by decide) rfl rfl rfl (Nat.le_of_ble_eq_true rfl) (Nat.le_of_ble_eq_true rfl) ?_
      refine c_P_fails1 ?_
      refine V2_topi (fun v66 ev66 => ?_)
      refine V2_ireturn d_P_car_13 rfl ?_
      exact absurd (by rw [c1_3]; decide) hw
    · refine V2_iload_n (i := 0) d_P_within_5 rfl rfl ?_
      refine V2_iload_n (i := 2) d_P_within_6 rfl rfl ?_
      refine V2_icmp_gt (tgt := 14) d_P_within_7 rfl (fun c67 => ?_) (fun c67 => ?_)
      · refine V2_iconst (v := 0) d_P_within_14 rfl ?_
        refine V2_zreturn d_P_within_15 rfl (by decide) ?_
        refine V2.to (st' := [.int (0 : Int32)]) ?_ rfl rfl rfl rfl
        refine V2_zreturn d_Car_canBecome_58 rfl (by decide) ?_
        refine V2.to (st' := [.int (0 : Int32)]) ?_ rfl rfl rfl rfl
        refine V2_if_ne (tgt := 14) d_P_car_5 rfl (fun c => (by first | exact absurd c (by decide) | exact absurd (by decide) c)) (fun _ => ?_)
        refine V2_aload_n (i := 0) d_P_car_8 rfl rfl ?_
        refine V2_iconst (v := 1) d_P_car_9 rfl ?_
        refine V2_callV [.int (1 : Int32)] d_P_car_10 rfl rfl lk_P_66 mo_P_fails (by decide) rfl rfl rfl (Nat.le_of_ble_eq_true rfl) (Nat.le_of_ble_eq_true rfl) ?_
        refine c_P_fails1 ?_
        refine V2_topi (fun v68 ev68 => ?_)
        refine V2_ireturn d_P_car_13 rfl ?_
        exact absurd (by rw [c1_3]; decide) hw
      · refine V2_iconst (v := 1) d_P_within_10 rfl ?_
        refine V2_goto (tgt := 15) d_P_within_11 rfl ?_
        refine V2_zreturn d_P_within_15 rfl (by decide) ?_
        refine V2.to (st' := [.int (1 : Int32)]) ?_ rfl rfl rfl rfl
        refine V2_zreturn d_Car_canBecome_58 rfl (by decide) ?_
        refine V2.to (st' := [.int (1 : Int32)]) ?_ rfl rfl rfl rfl
        refine V2_if_ne (tgt := 14) d_P_car_5 rfl (fun _ => ?_) (fun c => (by first | exact absurd c (by decide) | exact absurd (by decide) c))
        refine V2_aload_n (i := 0) d_P_car_14 rfl rfl ?_
        refine V2_getr (a := 1) d_P_car_15 fl_P_10 (by decide) rfl (by decide) rfl ?_
        refine V2_getr (a := 2) d_P_car_18 fl_P_93 (by decide) rfl (by decide) rfl ?_
        refine V2_iload_n (i := 1) d_P_car_21 rfl rfl ?_
        refine V2_callV [.int w] d_P_car_22 rfl rfl lk_P_126 mo_Car_tells (by decide) rfl rfl rfl (Nat.le_of_ble_eq_true rfl) (Nat.le_of_ble_eq_true rfl) ?_
        refine V2.to (l' := [some (.ref 2), some (.int w)]) ?_ rfl rfl rfl rfl
        refine V2_iload_n (i := 1) d_Car_tells_0 rfl rfl ?_
        by_cases c69_0 : w = 0
        · refine V2_tableIn (tgt := 40) (off := 39) d_Car_tells_1 (by rw [c69_0]; decide) (by rw [c69_0]; decide) (by rw [c69_0]; decide) rfl ?_
          refine V2_aload_n (i := 0) d_Car_tells_40 rfl rfl ?_
          refine V2_get (v := F 2 0) d_Car_tells_41 fl_Car_7 (by decide) rfl (by decide) rfl rfl ?_
          refine V2_topi (fun v70 ev70 => ?_)
          refine V2_ireturn d_Car_tells_44 rfl ?_
          refine V2.to (st' := [.int v70]) ?_ rfl rfl rfl rfl
          refine V2_istore_n (i := 3) (l' := [some (.ref 0), some (.int w), some (.int v), some (.int v70)]) d_P_car_25 rfl (xst_i (Nat.le_of_ble_eq_true rfl) rfl rfl) ?_
          refine V2_aload_n (i := 0) d_P_car_26 rfl rfl ?_
          refine V2_getr (a := 1) d_P_car_27 fl_P_10 (by decide) rfl (by decide) rfl ?_
          refine V2_getr (a := 2) d_P_car_30 fl_P_93 (by decide) rfl (by decide) rfl ?_
          refine V2_iload_n (i := 1) d_P_car_33 rfl rfl ?_
          refine V2_iload_n (i := 2) d_P_car_34 rfl rfl ?_
          refine V2_callV [.int w, .int v] d_P_car_35 rfl rfl lk_P_129 mo_Car_alter (by decide) rfl rfl rfl (Nat.le_of_ble_eq_true rfl) (Nat.le_of_ble_eq_true rfl) ?_
          refine V2.to (l' := [some (.ref 2), some (.int w), some (.int v)]) ?_ rfl rfl rfl rfl
          refine V2_iload_n (i := 1) d_Car_alter_0 rfl rfl ?_
          by_cases c71_0 : w = 0
          · refine V2_tableIn (tgt := 36) (off := 35) d_Car_alter_1 (by rw [c71_0]; decide) (by rw [c71_0]; decide) (by rw [c71_0]; decide) rfl ?_
            refine V2_aload_n (i := 0) d_Car_alter_36 rfl rfl ?_
            refine V2_iload_n (i := 2) d_Car_alter_37 rfl rfl ?_
            refine V2_put d_Car_alter_38 fl_Car_7 (by decide) rfl (by decide) rfl ?_
            refine V2_goto (tgt := 76) d_Car_alter_41 rfl ?_
            refine V2_return d_Car_alter_76 rfl ?_
            refine V2.to (st' := []) ?_ rfl rfl rfl rfl
            refine V2_iload_n (i := 3) d_P_car_38 rfl rfl ?_
            refine V2_ireturn d_P_car_39 rfl ?_
            exact absurd (by rw [c1_3]; decide) hw
          by_cases c71_1 : w = 1
          · refine V2_tableIn (tgt := 44) (off := 43) d_Car_alter_1 (by rw [c71_1]; decide) (by rw [c71_1]; decide) (by rw [c71_1]; decide) rfl ?_
            refine V2_aload_n (i := 0) d_Car_alter_44 rfl rfl ?_
            refine V2_iload_n (i := 2) d_Car_alter_45 rfl rfl ?_
            refine V2_put d_Car_alter_46 fl_Car_13 (by decide) rfl (by decide) rfl ?_
            refine V2_goto (tgt := 76) d_Car_alter_49 rfl ?_
            refine V2_return d_Car_alter_76 rfl ?_
            refine V2.to (st' := []) ?_ rfl rfl rfl rfl
            refine V2_iload_n (i := 3) d_P_car_38 rfl rfl ?_
            refine V2_ireturn d_P_car_39 rfl ?_
            exact absurd (by rw [c1_3]; decide) hw
          by_cases c71_2 : w = 2
          · refine V2_tableIn (tgt := 52) (off := 51) d_Car_alter_1 (by rw [c71_2]; decide) (by rw [c71_2]; decide) (by rw [c71_2]; decide) rfl ?_
            refine V2_aload_n (i := 0) d_Car_alter_52 rfl rfl ?_
            refine V2_iload_n (i := 2) d_Car_alter_53 rfl rfl ?_
            refine V2_put d_Car_alter_54 fl_Car_16 (by decide) rfl (by decide) rfl ?_
            refine V2_goto (tgt := 76) d_Car_alter_57 rfl ?_
            refine V2_return d_Car_alter_76 rfl ?_
            refine V2.to (st' := []) ?_ rfl rfl rfl rfl
            refine V2_iload_n (i := 3) d_P_car_38 rfl rfl ?_
            refine V2_ireturn d_P_car_39 rfl ?_
            exact absurd (by rw [c1_3]; decide) hw
          by_cases c71_3 : w = 3
          · refine V2_tableIn (tgt := 60) (off := 59) d_Car_alter_1 (by rw [c71_3]; decide) (by rw [c71_3]; decide) (by rw [c71_3]; decide) rfl ?_
            refine V2_aload_n (i := 0) d_Car_alter_60 rfl rfl ?_
            refine V2_iload_n (i := 2) d_Car_alter_61 rfl rfl ?_
            refine V2_put d_Car_alter_62 fl_Car_19 (by decide) rfl (by decide) rfl ?_
            refine V2_goto (tgt := 76) d_Car_alter_65 rfl ?_
            refine V2_return d_Car_alter_76 rfl ?_
            refine V2.to (st' := []) ?_ rfl rfl rfl rfl
            refine V2_iload_n (i := 3) d_P_car_38 rfl rfl ?_
            refine V2_ireturn d_P_car_39 rfl ?_
            exact absurd (by rw [c1_3]; decide) hw
          by_cases c71_4 : w = 4
          · refine V2_tableIn (tgt := 68) (off := 67) d_Car_alter_1 (by rw [c71_4]; decide) (by rw [c71_4]; decide) (by rw [c71_4]; decide) rfl ?_
            refine V2_aload_n (i := 0) d_Car_alter_68 rfl rfl ?_
            refine V2_iload_n (i := 2) d_Car_alter_69 rfl rfl ?_
            refine V2_put d_Car_alter_70 fl_Car_22 (by decide) rfl (by decide) rfl ?_
            refine V2_goto (tgt := 76) d_Car_alter_73 rfl ?_
            refine V2_return d_Car_alter_76 rfl ?_
            refine V2.to (st' := []) ?_ rfl rfl rfl rfl
            refine V2_iload_n (i := 3) d_P_car_38 rfl rfl ?_
            refine V2_ireturn d_P_car_39 rfl ?_
            exact absurd (by rw [c1_3]; decide) hw
          refine V2_tableOut (tgt := 76) d_Car_alter_1 (by have := lv_neT (a := 0) c71_0 rfl; have := lv_neT (a := 1) c71_1 rfl; have := lv_neT (a := 2) c71_2 rfl; have := lv_neT (a := 3) c71_3 rfl; have := lv_neT (a := 4) c71_4 rfl; omega) rfl ?_
          refine V2_return d_Car_alter_76 rfl ?_
          refine V2.to (st' := []) ?_ rfl rfl rfl rfl
          refine V2_iload_n (i := 3) d_P_car_38 rfl rfl ?_
          refine V2_ireturn d_P_car_39 rfl ?_
          exact absurd (by rw [c1_3]; decide) hw
        by_cases c69_1 : w = 1
        · refine V2_tableIn (tgt := 45) (off := 44) d_Car_tells_1 (by rw [c69_1]; decide) (by rw [c69_1]; decide) (by rw [c69_1]; decide) rfl ?_
          refine V2_aload_n (i := 0) d_Car_tells_45 rfl rfl ?_
          refine V2_get (v := F 2 1) d_Car_tells_46 fl_Car_13 (by decide) rfl (by decide) rfl rfl ?_
          refine V2_topi (fun v72 ev72 => ?_)
          refine V2_ireturn d_Car_tells_49 rfl ?_
          refine V2.to (st' := [.int v72]) ?_ rfl rfl rfl rfl
          refine V2_istore_n (i := 3) (l' := [some (.ref 0), some (.int w), some (.int v), some (.int v72)]) d_P_car_25 rfl (xst_i (Nat.le_of_ble_eq_true rfl) rfl rfl) ?_
          refine V2_aload_n (i := 0) d_P_car_26 rfl rfl ?_
          refine V2_getr (a := 1) d_P_car_27 fl_P_10 (by decide) rfl (by decide) rfl ?_
          refine V2_getr (a := 2) d_P_car_30 fl_P_93 (by decide) rfl (by decide) rfl ?_
          refine V2_iload_n (i := 1) d_P_car_33 rfl rfl ?_
          refine V2_iload_n (i := 2) d_P_car_34 rfl rfl ?_
          refine V2_callV [.int w, .int v] d_P_car_35 rfl rfl lk_P_129 mo_Car_alter (by decide) rfl rfl rfl (Nat.le_of_ble_eq_true rfl) (Nat.le_of_ble_eq_true rfl) ?_
          refine V2.to (l' := [some (.ref 2), some (.int w), some (.int v)]) ?_ rfl rfl rfl rfl
          refine V2_iload_n (i := 1) d_Car_alter_0 rfl rfl ?_
          by_cases c73_0 : w = 0
          · refine V2_tableIn (tgt := 36) (off := 35) d_Car_alter_1 (by rw [c73_0]; decide) (by rw [c73_0]; decide) (by rw [c73_0]; decide) rfl ?_
            refine V2_aload_n (i := 0) d_Car_alter_36 rfl rfl ?_
            refine V2_iload_n (i := 2) d_Car_alter_37 rfl rfl ?_
            refine V2_put d_Car_alter_38 fl_Car_7 (by decide) rfl (by decide) rfl ?_
            refine V2_goto (tgt := 76) d_Car_alter_41 rfl ?_
            refine V2_return d_Car_alter_76 rfl ?_
            refine V2.to (st' := []) ?_ rfl rfl rfl rfl
            refine V2_iload_n (i := 3) d_P_car_38 rfl rfl ?_
            refine V2_ireturn d_P_car_39 rfl ?_
            exact absurd (by rw [c1_3]; decide) hw
          by_cases c73_1 : w = 1
          · refine V2_tableIn (tgt := 44) (off := 43) d_Car_alter_1 (by rw [c73_1]; decide) (by rw [c73_1]; decide) (by rw [c73_1]; decide) rfl ?_
            refine V2_aload_n (i := 0) d_Car_alter_44 rfl rfl ?_
            refine V2_iload_n (i := 2) d_Car_alter_45 rfl rfl ?_
            refine V2_put d_Car_alter_46 fl_Car_13 (by decide) rfl (by decide) rfl ?_
            refine V2_goto (tgt := 76) d_Car_alter_49 rfl ?_
            refine V2_return d_Car_alter_76 rfl ?_
            refine V2.to (st' := []) ?_ rfl rfl rfl rfl
            refine V2_iload_n (i := 3) d_P_car_38 rfl rfl ?_
            refine V2_ireturn d_P_car_39 rfl ?_
            exact absurd (by rw [c1_3]; decide) hw
          by_cases c73_2 : w = 2
          · refine V2_tableIn (tgt := 52) (off := 51) d_Car_alter_1 (by rw [c73_2]; decide) (by rw [c73_2]; decide) (by rw [c73_2]; decide) rfl ?_
            refine V2_aload_n (i := 0) d_Car_alter_52 rfl rfl ?_
            refine V2_iload_n (i := 2) d_Car_alter_53 rfl rfl ?_
            refine V2_put d_Car_alter_54 fl_Car_16 (by decide) rfl (by decide) rfl ?_
            refine V2_goto (tgt := 76) d_Car_alter_57 rfl ?_
            refine V2_return d_Car_alter_76 rfl ?_
            refine V2.to (st' := []) ?_ rfl rfl rfl rfl
            refine V2_iload_n (i := 3) d_P_car_38 rfl rfl ?_
            refine V2_ireturn d_P_car_39 rfl ?_
            exact absurd (by rw [c1_3]; decide) hw
          by_cases c73_3 : w = 3
          · refine V2_tableIn (tgt := 60) (off := 59) d_Car_alter_1 (by rw [c73_3]; decide) (by rw [c73_3]; decide) (by rw [c73_3]; decide) rfl ?_
            refine V2_aload_n (i := 0) d_Car_alter_60 rfl rfl ?_
            refine V2_iload_n (i := 2) d_Car_alter_61 rfl rfl ?_
            refine V2_put d_Car_alter_62 fl_Car_19 (by decide) rfl (by decide) rfl ?_
            refine V2_goto (tgt := 76) d_Car_alter_65 rfl ?_
            refine V2_return d_Car_alter_76 rfl ?_
            refine V2.to (st' := []) ?_ rfl rfl rfl rfl
            refine V2_iload_n (i := 3) d_P_car_38 rfl rfl ?_
            refine V2_ireturn d_P_car_39 rfl ?_
            exact absurd (by rw [c1_3]; decide) hw
          by_cases c73_4 : w = 4
          · refine V2_tableIn (tgt := 68) (off := 67) d_Car_alter_1 (by rw [c73_4]; decide) (by rw [c73_4]; decide) (by rw [c73_4]; decide) rfl ?_
            refine V2_aload_n (i := 0) d_Car_alter_68 rfl rfl ?_
            refine V2_iload_n (i := 2) d_Car_alter_69 rfl rfl ?_
            refine V2_put d_Car_alter_70 fl_Car_22 (by decide) rfl (by decide) rfl ?_
            refine V2_goto (tgt := 76) d_Car_alter_73 rfl ?_
            refine V2_return d_Car_alter_76 rfl ?_
            refine V2.to (st' := []) ?_ rfl rfl rfl rfl
            refine V2_iload_n (i := 3) d_P_car_38 rfl rfl ?_
            refine V2_ireturn d_P_car_39 rfl ?_
            exact absurd (by rw [c1_3]; decide) hw
          refine V2_tableOut (tgt := 76) d_Car_alter_1 (by have := lv_neT (a := 0) c73_0 rfl; have := lv_neT (a := 1) c73_1 rfl; have := lv_neT (a := 2) c73_2 rfl; have := lv_neT (a := 3) c73_3 rfl; have := lv_neT (a := 4) c73_4 rfl; omega) rfl ?_
          refine V2_return d_Car_alter_76 rfl ?_
          refine V2.to (st' := []) ?_ rfl rfl rfl rfl
          refine V2_iload_n (i := 3) d_P_car_38 rfl rfl ?_
          refine V2_ireturn d_P_car_39 rfl ?_
          exact absurd (by rw [c1_3]; decide) hw
        by_cases c69_2 : w = 2
        · refine V2_tableIn (tgt := 50) (off := 49) d_Car_tells_1 (by rw [c69_2]; decide) (by rw [c69_2]; decide) (by rw [c69_2]; decide) rfl ?_
          refine V2_aload_n (i := 0) d_Car_tells_50 rfl rfl ?_
          refine V2_get (v := F 2 2) d_Car_tells_51 fl_Car_16 (by decide) rfl (by decide) rfl rfl ?_
          refine V2_topi (fun v74 ev74 => ?_)
          refine V2_ireturn d_Car_tells_54 rfl ?_
          refine V2.to (st' := [.int v74]) ?_ rfl rfl rfl rfl
          refine V2_istore_n (i := 3) (l' := [some (.ref 0), some (.int w), some (.int v), some (.int v74)]) d_P_car_25 rfl (xst_i (Nat.le_of_ble_eq_true rfl) rfl rfl) ?_
          refine V2_aload_n (i := 0) d_P_car_26 rfl rfl ?_
          refine V2_getr (a := 1) d_P_car_27 fl_P_10 (by decide) rfl (by decide) rfl ?_
          refine V2_getr (a := 2) d_P_car_30 fl_P_93 (by decide) rfl (by decide) rfl ?_
          refine V2_iload_n (i := 1) d_P_car_33 rfl rfl ?_
          refine V2_iload_n (i := 2) d_P_car_34 rfl rfl ?_
          refine V2_callV [.int w, .int v] d_P_car_35 rfl rfl lk_P_129 mo_Car_alter (by decide) rfl rfl rfl (Nat.le_of_ble_eq_true rfl) (Nat.le_of_ble_eq_true rfl) ?_
          refine V2.to (l' := [some (.ref 2), some (.int w), some (.int v)]) ?_ rfl rfl rfl rfl
          refine V2_iload_n (i := 1) d_Car_alter_0 rfl rfl ?_
          by_cases c75_0 : w = 0
          · refine V2_tableIn (tgt := 36) (off := 35) d_Car_alter_1 (by rw [c75_0]; decide) (by rw [c75_0]; decide) (by rw [c75_0]; decide) rfl ?_
            refine V2_aload_n (i := 0) d_Car_alter_36 rfl rfl ?_
            refine V2_iload_n (i := 2) d_Car_alter_37 rfl rfl ?_
            refine V2_put d_Car_alter_38 fl_Car_7 (by decide) rfl (by decide) rfl ?_
            refine V2_goto (tgt := 76) d_Car_alter_41 rfl ?_
            refine V2_return d_Car_alter_76 rfl ?_
            refine V2.to (st' := []) ?_ rfl rfl rfl rfl
            refine V2_iload_n (i := 3) d_P_car_38 rfl rfl ?_
            refine V2_ireturn d_P_car_39 rfl ?_
            exact absurd (by rw [c1_3]; decide) hw
          by_cases c75_1 : w = 1
          · refine V2_tableIn (tgt := 44) (off := 43) d_Car_alter_1 (by rw [c75_1]; decide) (by rw [c75_1]; decide) (by rw [c75_1]; decide) rfl ?_
            refine V2_aload_n (i := 0) d_Car_alter_44 rfl rfl ?_
            refine V2_iload_n (i := 2) d_Car_alter_45 rfl rfl ?_
            refine V2_put d_Car_alter_46 fl_Car_13 (by decide) rfl (by decide) rfl ?_
            refine V2_goto (tgt := 76) d_Car_alter_49 rfl ?_
            refine V2_return d_Car_alter_76 rfl ?_
            refine V2.to (st' := []) ?_ rfl rfl rfl rfl
            refine V2_iload_n (i := 3) d_P_car_38 rfl rfl ?_
            refine V2_ireturn d_P_car_39 rfl ?_
            exact absurd (by rw [c1_3]; decide) hw
          by_cases c75_2 : w = 2
          · refine V2_tableIn (tgt := 52) (off := 51) d_Car_alter_1 (by rw [c75_2]; decide) (by rw [c75_2]; decide) (by rw [c75_2]; decide) rfl ?_
            refine V2_aload_n (i := 0) d_Car_alter_52 rfl rfl ?_
            refine V2_iload_n (i := 2) d_Car_alter_53 rfl rfl ?_
            refine V2_put d_Car_alter_54 fl_Car_16 (by decide) rfl (by decide) rfl ?_
            refine V2_goto (tgt := 76) d_Car_alter_57 rfl ?_
            refine V2_return d_Car_alter_76 rfl ?_
            refine V2.to (st' := []) ?_ rfl rfl rfl rfl
            refine V2_iload_n (i := 3) d_P_car_38 rfl rfl ?_
            refine V2_ireturn d_P_car_39 rfl ?_
            exact absurd (by rw [c1_3]; decide) hw
          by_cases c75_3 : w = 3
          · refine V2_tableIn (tgt := 60) (off := 59) d_Car_alter_1 (by rw [c75_3]; decide) (by rw [c75_3]; decide) (by rw [c75_3]; decide) rfl ?_
            refine V2_aload_n (i := 0) d_Car_alter_60 rfl rfl ?_
            refine V2_iload_n (i := 2) d_Car_alter_61 rfl rfl ?_
            refine V2_put d_Car_alter_62 fl_Car_19 (by decide) rfl (by decide) rfl ?_
            refine V2_goto (tgt := 76) d_Car_alter_65 rfl ?_
            refine V2_return d_Car_alter_76 rfl ?_
            refine V2.to (st' := []) ?_ rfl rfl rfl rfl
            refine V2_iload_n (i := 3) d_P_car_38 rfl rfl ?_
            refine V2_ireturn d_P_car_39 rfl ?_
            exact absurd (by rw [c1_3]; decide) hw
          by_cases c75_4 : w = 4
          · refine V2_tableIn (tgt := 68) (off := 67) d_Car_alter_1 (by rw [c75_4]; decide) (by rw [c75_4]; decide) (by rw [c75_4]; decide) rfl ?_
            refine V2_aload_n (i := 0) d_Car_alter_68 rfl rfl ?_
            refine V2_iload_n (i := 2) d_Car_alter_69 rfl rfl ?_
            refine V2_put d_Car_alter_70 fl_Car_22 (by decide) rfl (by decide) rfl ?_
            refine V2_goto (tgt := 76) d_Car_alter_73 rfl ?_
            refine V2_return d_Car_alter_76 rfl ?_
            refine V2.to (st' := []) ?_ rfl rfl rfl rfl
            refine V2_iload_n (i := 3) d_P_car_38 rfl rfl ?_
            refine V2_ireturn d_P_car_39 rfl ?_
            exact absurd (by rw [c1_3]; decide) hw
          refine V2_tableOut (tgt := 76) d_Car_alter_1 (by have := lv_neT (a := 0) c75_0 rfl; have := lv_neT (a := 1) c75_1 rfl; have := lv_neT (a := 2) c75_2 rfl; have := lv_neT (a := 3) c75_3 rfl; have := lv_neT (a := 4) c75_4 rfl; omega) rfl ?_
          refine V2_return d_Car_alter_76 rfl ?_
          refine V2.to (st' := []) ?_ rfl rfl rfl rfl
          refine V2_iload_n (i := 3) d_P_car_38 rfl rfl ?_
          refine V2_ireturn d_P_car_39 rfl ?_
          exact absurd (by rw [c1_3]; decide) hw
        by_cases c69_3 : w = 3
        · refine V2_tableIn (tgt := 55) (off := 54) d_Car_tells_1 (by rw [c69_3]; decide) (by rw [c69_3]; decide) (by rw [c69_3]; decide) rfl ?_
          refine V2_aload_n (i := 0) d_Car_tells_55 rfl rfl ?_
          refine V2_get (v := F 2 3) d_Car_tells_56 fl_Car_19 (by decide) rfl (by decide) rfl rfl ?_
          refine V2_topi (fun v76 ev76 => ?_)
          refine V2_ireturn d_Car_tells_59 rfl ?_
          refine V2.to (st' := [.int v76]) ?_ rfl rfl rfl rfl
          refine V2_istore_n (i := 3) (l' := [some (.ref 0), some (.int w), some (.int v), some (.int v76)]) d_P_car_25 rfl (xst_i (Nat.le_of_ble_eq_true rfl) rfl rfl) ?_
          refine V2_aload_n (i := 0) d_P_car_26 rfl rfl ?_
          refine V2_getr (a := 1) d_P_car_27 fl_P_10 (by decide) rfl (by decide) rfl ?_
          refine V2_getr (a := 2) d_P_car_30 fl_P_93 (by decide) rfl (by decide) rfl ?_
          refine V2_iload_n (i := 1) d_P_car_33 rfl rfl ?_
          refine V2_iload_n (i := 2) d_P_car_34 rfl rfl ?_
          refine V2_callV [.int w, .int v] d_P_car_35 rfl rfl lk_P_129 mo_Car_alter (by decide) rfl rfl rfl (Nat.le_of_ble_eq_true rfl) (Nat.le_of_ble_eq_true rfl) ?_
          refine V2.to (l' := [some (.ref 2), some (.int w), some (.int v)]) ?_ rfl rfl rfl rfl
          refine V2_iload_n (i := 1) d_Car_alter_0 rfl rfl ?_
          by_cases c77_0 : w = 0
          · refine V2_tableIn (tgt := 36) (off := 35) d_Car_alter_1 (by rw [c77_0]; decide) (by rw [c77_0]; decide) (by rw [c77_0]; decide) rfl ?_
            refine V2_aload_n (i := 0) d_Car_alter_36 rfl rfl ?_
            refine V2_iload_n (i := 2) d_Car_alter_37 rfl rfl ?_
            refine V2_put d_Car_alter_38 fl_Car_7 (by decide) rfl (by decide) rfl ?_
            refine V2_goto (tgt := 76) d_Car_alter_41 rfl ?_
            refine V2_return d_Car_alter_76 rfl ?_
            refine V2.to (st' := []) ?_ rfl rfl rfl rfl
            refine V2_iload_n (i := 3) d_P_car_38 rfl rfl ?_
            refine V2_ireturn d_P_car_39 rfl ?_
            exact absurd (by rw [c1_3]; decide) hw
          by_cases c77_1 : w = 1
          · refine V2_tableIn (tgt := 44) (off := 43) d_Car_alter_1 (by rw [c77_1]; decide) (by rw [c77_1]; decide) (by rw [c77_1]; decide) rfl ?_
            refine V2_aload_n (i := 0) d_Car_alter_44 rfl rfl ?_
            refine V2_iload_n (i := 2) d_Car_alter_45 rfl rfl ?_
            refine V2_put d_Car_alter_46 fl_Car_13 (by decide) rfl (by decide) rfl ?_
            refine V2_goto (tgt := 76) d_Car_alter_49 rfl ?_
            refine V2_return d_Car_alter_76 rfl ?_
            refine V2.to (st' := []) ?_ rfl rfl rfl rfl
            refine V2_iload_n (i := 3) d_P_car_38 rfl rfl ?_
            refine V2_ireturn d_P_car_39 rfl ?_
            exact absurd (by rw [c1_3]; decide) hw
          by_cases c77_2 : w = 2
          · refine V2_tableIn (tgt := 52) (off := 51) d_Car_alter_1 (by rw [c77_2]; decide) (by rw [c77_2]; decide) (by rw [c77_2]; decide) rfl ?_
            refine V2_aload_n (i := 0) d_Car_alter_52 rfl rfl ?_
            refine V2_iload_n (i := 2) d_Car_alter_53 rfl rfl ?_
            refine V2_put d_Car_alter_54 fl_Car_16 (by decide) rfl (by decide) rfl ?_
            refine V2_goto (tgt := 76) d_Car_alter_57 rfl ?_
            refine V2_return d_Car_alter_76 rfl ?_
            refine V2.to (st' := []) ?_ rfl rfl rfl rfl
            refine V2_iload_n (i := 3) d_P_car_38 rfl rfl ?_
            refine V2_ireturn d_P_car_39 rfl ?_
            exact absurd (by rw [c1_3]; decide) hw
          by_cases c77_3 : w = 3
          · refine V2_tableIn (tgt := 60) (off := 59) d_Car_alter_1 (by rw [c77_3]; decide) (by rw [c77_3]; decide) (by rw [c77_3]; decide) rfl ?_
            refine V2_aload_n (i := 0) d_Car_alter_60 rfl rfl ?_
            refine V2_iload_n (i := 2) d_Car_alter_61 rfl rfl ?_
            refine V2_put d_Car_alter_62 fl_Car_19 (by decide) rfl (by decide) rfl ?_
            refine V2_goto (tgt := 76) d_Car_alter_65 rfl ?_
            refine V2_return d_Car_alter_76 rfl ?_
            refine V2.to (st' := []) ?_ rfl rfl rfl rfl
            refine V2_iload_n (i := 3) d_P_car_38 rfl rfl ?_
            refine V2_ireturn d_P_car_39 rfl ?_
            exact absurd (by rw [c1_3]; decide) hw
          by_cases c77_4 : w = 4
          · refine V2_tableIn (tgt := 68) (off := 67) d_Car_alter_1 (by rw [c77_4]; decide) (by rw [c77_4]; decide) (by rw [c77_4]; decide) rfl ?_
            refine V2_aload_n (i := 0) d_Car_alter_68 rfl rfl ?_
            refine V2_iload_n (i := 2) d_Car_alter_69 rfl rfl ?_
            refine V2_put d_Car_alter_70 fl_Car_22 (by decide) rfl (by decide) rfl ?_
            refine V2_goto (tgt := 76) d_Car_alter_73 rfl ?_
            refine V2_return d_Car_alter_76 rfl ?_
            refine V2.to (st' := []) ?_ rfl rfl rfl rfl
            refine V2_iload_n (i := 3) d_P_car_38 rfl rfl ?_
            refine V2_ireturn d_P_car_39 rfl ?_
            exact absurd (by rw [c1_3]; decide) hw
          refine V2_tableOut (tgt := 76) d_Car_alter_1 (by have := lv_neT (a := 0) c77_0 rfl; have := lv_neT (a := 1) c77_1 rfl; have := lv_neT (a := 2) c77_2 rfl; have := lv_neT (a := 3) c77_3 rfl; have := lv_neT (a := 4) c77_4 rfl; omega) rfl ?_
          refine V2_return d_Car_alter_76 rfl ?_
          refine V2.to (st' := []) ?_ rfl rfl rfl rfl
          refine V2_iload_n (i := 3) d_P_car_38 rfl rfl ?_
          refine V2_ireturn d_P_car_39 rfl ?_
          exact absurd (by rw [c1_3]; decide) hw
        by_cases c69_4 : w = 4
        · refine V2_tableIn (tgt := 60) (off := 59) d_Car_tells_1 (by rw [c69_4]; decide) (by rw [c69_4]; decide) (by rw [c69_4]; decide) rfl ?_
          refine V2_aload_n (i := 0) d_Car_tells_60 rfl rfl ?_
          refine V2_get (v := F 2 4) d_Car_tells_61 fl_Car_22 (by decide) rfl (by decide) rfl rfl ?_
          refine V2_topi (fun v78 ev78 => ?_)
          refine V2_ireturn d_Car_tells_64 rfl ?_
          refine V2.to (st' := [.int v78]) ?_ rfl rfl rfl rfl
          refine V2_istore_n (i := 3) (l' := [some (.ref 0), some (.int w), some (.int v), some (.int v78)]) d_P_car_25 rfl (xst_i (Nat.le_of_ble_eq_true rfl) rfl rfl) ?_
          refine V2_aload_n (i := 0) d_P_car_26 rfl rfl ?_
          refine V2_getr (a := 1) d_P_car_27 fl_P_10 (by decide) rfl (by decide) rfl ?_
          refine V2_getr (a := 2) d_P_car_30 fl_P_93 (by decide) rfl (by decide) rfl ?_
          refine V2_iload_n (i := 1) d_P_car_33 rfl rfl ?_
          refine V2_iload_n (i := 2) d_P_car_34 rfl rfl ?_
          refine V2_callV [.int w, .int v] d_P_car_35 rfl rfl lk_P_129 mo_Car_alter (by decide) rfl rfl rfl (Nat.le_of_ble_eq_true rfl) (Nat.le_of_ble_eq_true rfl) ?_
          refine V2.to (l' := [some (.ref 2), some (.int w), some (.int v)]) ?_ rfl rfl rfl rfl
          refine V2_iload_n (i := 1) d_Car_alter_0 rfl rfl ?_
          by_cases c79_0 : w = 0
          · refine V2_tableIn (tgt := 36) (off := 35) d_Car_alter_1 (by rw [c79_0]; decide) (by rw [c79_0]; decide) (by rw [c79_0]; decide) rfl ?_
            refine V2_aload_n (i := 0) d_Car_alter_36 rfl rfl ?_
            refine V2_iload_n (i := 2) d_Car_alter_37 rfl rfl ?_
            refine V2_put d_Car_alter_38 fl_Car_7 (by decide) rfl (by decide) rfl ?_
            refine V2_goto (tgt := 76) d_Car_alter_41 rfl ?_
            refine V2_return d_Car_alter_76 rfl ?_
            refine V2.to (st' := []) ?_ rfl rfl rfl rfl
            refine V2_iload_n (i := 3) d_P_car_38 rfl rfl ?_
            refine V2_ireturn d_P_car_39 rfl ?_
            exact absurd (by rw [c1_3]; decide) hw
          by_cases c79_1 : w = 1
          · refine V2_tableIn (tgt := 44) (off := 43) d_Car_alter_1 (by rw [c79_1]; decide) (by rw [c79_1]; decide) (by rw [c79_1]; decide) rfl ?_
            refine V2_aload_n (i := 0) d_Car_alter_44 rfl rfl ?_
            refine V2_iload_n (i := 2) d_Car_alter_45 rfl rfl ?_
            refine V2_put d_Car_alter_46 fl_Car_13 (by decide) rfl (by decide) rfl ?_
            refine V2_goto (tgt := 76) d_Car_alter_49 rfl ?_
            refine V2_return d_Car_alter_76 rfl ?_
            refine V2.to (st' := []) ?_ rfl rfl rfl rfl
            refine V2_iload_n (i := 3) d_P_car_38 rfl rfl ?_
            refine V2_ireturn d_P_car_39 rfl ?_
            exact absurd (by rw [c1_3]; decide) hw
          by_cases c79_2 : w = 2
          · refine V2_tableIn (tgt := 52) (off := 51) d_Car_alter_1 (by rw [c79_2]; decide) (by rw [c79_2]; decide) (by rw [c79_2]; decide) rfl ?_
            refine V2_aload_n (i := 0) d_Car_alter_52 rfl rfl ?_
            refine V2_iload_n (i := 2) d_Car_alter_53 rfl rfl ?_
            refine V2_put d_Car_alter_54 fl_Car_16 (by decide) rfl (by decide) rfl ?_
            refine V2_goto (tgt := 76) d_Car_alter_57 rfl ?_
            refine V2_return d_Car_alter_76 rfl ?_
            refine V2.to (st' := []) ?_ rfl rfl rfl rfl
            refine V2_iload_n (i := 3) d_P_car_38 rfl rfl ?_
            refine V2_ireturn d_P_car_39 rfl ?_
            exact absurd (by rw [c1_3]; decide) hw
          by_cases c79_3 : w = 3
          · refine V2_tableIn (tgt := 60) (off := 59) d_Car_alter_1 (by rw [c79_3]; decide) (by rw [c79_3]; decide) (by rw [c79_3]; decide) rfl ?_
            refine V2_aload_n (i := 0) d_Car_alter_60 rfl rfl ?_
            refine V2_iload_n (i := 2) d_Car_alter_61 rfl rfl ?_
            refine V2_put d_Car_alter_62 fl_Car_19 (by decide) rfl (by decide) rfl ?_
            refine V2_goto (tgt := 76) d_Car_alter_65 rfl ?_
            refine V2_return d_Car_alter_76 rfl ?_
            refine V2.to (st' := []) ?_ rfl rfl rfl rfl
            refine V2_iload_n (i := 3) d_P_car_38 rfl rfl ?_
            refine V2_ireturn d_P_car_39 rfl ?_
            exact absurd (by rw [c1_3]; decide) hw
          by_cases c79_4 : w = 4
          · refine V2_tableIn (tgt := 68) (off := 67) d_Car_alter_1 (by rw [c79_4]; decide) (by rw [c79_4]; decide) (by rw [c79_4]; decide) rfl ?_
            refine V2_aload_n (i := 0) d_Car_alter_68 rfl rfl ?_
            refine V2_iload_n (i := 2) d_Car_alter_69 rfl rfl ?_
            refine V2_put d_Car_alter_70 fl_Car_22 (by decide) rfl (by decide) rfl ?_
            refine V2_goto (tgt := 76) d_Car_alter_73 rfl ?_
            refine V2_return d_Car_alter_76 rfl ?_
            refine V2.to (st' := []) ?_ rfl rfl rfl rfl
            refine V2_iload_n (i := 3) d_P_car_38 rfl rfl ?_
            refine V2_ireturn d_P_car_39 rfl ?_
            exact absurd (by rw [c1_3]; decide) hw
          refine V2_tableOut (tgt := 76) d_Car_alter_1 (by have := lv_neT (a := 0) c79_0 rfl; have := lv_neT (a := 1) c79_1 rfl; have := lv_neT (a := 2) c79_2 rfl; have := lv_neT (a := 3) c79_3 rfl; have := lv_neT (a := 4) c79_4 rfl; omega) rfl ?_
          refine V2_return d_Car_alter_76 rfl ?_
          refine V2.to (st' := []) ?_ rfl rfl rfl rfl
          refine V2_iload_n (i := 3) d_P_car_38 rfl rfl ?_
          refine V2_ireturn d_P_car_39 rfl ?_
          exact absurd (by rw [c1_3]; decide) hw
        by_cases c69_5 : w = 5
        · refine V2_tableIn (tgt := 65) (off := 64) d_Car_tells_1 (by rw [c69_5]; decide) (by rw [c69_5]; decide) (by rw [c69_5]; decide) rfl ?_
          refine V2_aload_n (i := 0) d_Car_tells_65 rfl rfl ?_
          refine V2_get (v := F 2 7) d_Car_tells_66 fl_Car_31 (by decide) rfl (by decide) rfl rfl ?_
          refine V2_topi (fun v80 ev80 => ?_)
          refine V2_if_eq (tgt := 76) d_Car_tells_69 rfl (fun c81 => ?_) (fun c81 => ?_)
          · refine V2_iconst (v := 0) d_Car_tells_76 rfl ?_
            refine V2_ireturn d_Car_tells_77 rfl ?_
            refine V2.to (st' := [.int (0 : Int32)]) ?_ rfl rfl rfl rfl
            refine V2_istore_n (i := 3) (l' := [some (.ref 0), some (.int w), some (.int v), some (.int (0 : Int32))]) d_P_car_25 rfl (xst_i (Nat.le_of_ble_eq_true rfl) rfl rfl) ?_
            refine V2_aload_n (i := 0) d_P_car_26 rfl rfl ?_
            refine V2_getr (a := 1) d_P_car_27 fl_P_10 (by decide) rfl (by decide) rfl ?_
            refine V2_getr (a := 2) d_P_car_30 fl_P_93 (by decide) rfl (by decide) rfl ?_
            refine V2_iload_n (i := 1) d_P_car_33 rfl rfl ?_
            refine V2_iload_n (i := 2) d_P_car_34 rfl rfl ?_
            refine V2_callV [.int w, .int v] d_P_car_35 rfl rfl lk_P_129 mo_Car_alter (by decide) rfl rfl rfl (Nat.le_of_ble_eq_true rfl) (Nat.le_of_ble_eq_true rfl) ?_
            refine V2.to (l' := [some (.ref 2), some (.int w), some (.int v)]) ?_ rfl rfl rfl rfl
            refine V2_iload_n (i := 1) d_Car_alter_0 rfl rfl ?_
            by_cases c82_0 : w = 0
            · refine V2_tableIn (tgt := 36) (off := 35) d_Car_alter_1 (by rw [c82_0]; decide) (by rw [c82_0]; decide) (by rw [c82_0]; decide) rfl ?_
              refine V2_aload_n (i := 0) d_Car_alter_36 rfl rfl ?_
              refine V2_iload_n (i := 2) d_Car_alter_37 rfl rfl ?_
              refine V2_put d_Car_alter_38 fl_Car_7 (by decide) rfl (by decide) rfl ?_
              refine V2_goto (tgt := 76) d_Car_alter_41 rfl ?_
              refine V2_return d_Car_alter_76 rfl ?_
              refine V2.to (st' := []) ?_ rfl rfl rfl rfl
              refine V2_iload_n (i := 3) d_P_car_38 rfl rfl ?_
              refine V2_ireturn d_P_car_39 rfl ?_
              exact absurd (by rw [c1_3]; decide) hw
            by_cases c82_1 : w = 1
            · refine V2_tableIn (tgt := 44) (off := 43) d_Car_alter_1 (by rw [c82_1]; decide) (by rw [c82_1]; decide) (by rw [c82_1]; decide) rfl ?_
              refine V2_aload_n (i := 0) d_Car_alter_44 rfl rfl ?_
              refine V2_iload_n (i := 2) d_Car_alter_45 rfl rfl ?_
              refine V2_put d_Car_alter_46 fl_Car_13 (by decide) rfl (by decide) rfl ?_
              refine V2_goto (tgt := 76) d_Car_alter_49 rfl ?_
              refine V2_return d_Car_alter_76 rfl ?_
              refine V2.to (st' := []) ?_ rfl rfl rfl rfl
              refine V2_iload_n (i := 3) d_P_car_38 rfl rfl ?_
              refine V2_ireturn d_P_car_39 rfl ?_
              exact absurd (by rw [c1_3]; decide) hw
            by_cases c82_2 : w = 2
            · refine V2_tableIn (tgt := 52) (off := 51) d_Car_alter_1 (by rw [c82_2]; decide) (by rw [c82_2]; decide) (by rw [c82_2]; decide) rfl ?_
              refine V2_aload_n (i := 0) d_Car_alter_52 rfl rfl ?_
              refine V2_iload_n (i := 2) d_Car_alter_53 rfl rfl ?_
              refine V2_put d_Car_alter_54 fl_Car_16 (by decide) rfl (by decide) rfl ?_
              refine V2_goto (tgt := 76) d_Car_alter_57 rfl ?_
              refine V2_return d_Car_alter_76 rfl ?_
              refine V2.to (st' := []) ?_ rfl rfl rfl rfl
              refine V2_iload_n (i := 3) d_P_car_38 rfl rfl ?_
              refine V2_ireturn d_P_car_39 rfl ?_
              exact absurd (by rw [c1_3]; decide) hw
            by_cases c82_3 : w = 3
            · refine V2_tableIn (tgt := 60) (off := 59) d_Car_alter_1 (by rw [c82_3]; decide) (by rw [c82_3]; decide) (by rw [c82_3]; decide) rfl ?_
              refine V2_aload_n (i := 0) d_Car_alter_60 rfl rfl ?_
              refine V2_iload_n (i := 2) d_Car_alter_61 rfl rfl ?_
              refine V2_put d_Car_alter_62 fl_Car_19 (by decide) rfl (by decide) rfl ?_
              refine V2_goto (tgt := 76) d_Car_alter_65 rfl ?_
              refine V2_return d_Car_alter_76 rfl ?_
              refine V2.to (st' := []) ?_ rfl rfl rfl rfl
              refine V2_iload_n (i := 3) d_P_car_38 rfl rfl ?_
              refine V2_ireturn d_P_car_39 rfl ?_
              exact absurd (by rw [c1_3]; decide) hw
            by_cases c82_4 : w = 4
            · refine V2_tableIn (tgt := 68) (off := 67) d_Car_alter_1 (by rw [c82_4]; decide) (by rw [c82_4]; decide) (by rw [c82_4]; decide) rfl ?_
              refine V2_aload_n (i := 0) d_Car_alter_68 rfl rfl ?_
              refine V2_iload_n (i := 2) d_Car_alter_69 rfl rfl ?_
              refine V2_put d_Car_alter_70 fl_Car_22 (by decide) rfl (by decide) rfl ?_
              refine V2_goto (tgt := 76) d_Car_alter_73 rfl ?_
              refine V2_return d_Car_alter_76 rfl ?_
              refine V2.to (st' := []) ?_ rfl rfl rfl rfl
              refine V2_iload_n (i := 3) d_P_car_38 rfl rfl ?_
              refine V2_ireturn d_P_car_39 rfl ?_
              exact absurd (by rw [c1_3]; decide) hw
            refine V2_tableOut (tgt := 76) d_Car_alter_1 (by have := lv_neT (a := 0) c82_0 rfl; have := lv_neT (a := 1) c82_1 rfl; have := lv_neT (a := 2) c82_2 rfl; have := lv_neT (a := 3) c82_3 rfl; have := lv_neT (a := 4) c82_4 rfl; omega) rfl ?_
            refine V2_return d_Car_alter_76 rfl ?_
            refine V2.to (st' := []) ?_ rfl rfl rfl rfl
            refine V2_iload_n (i := 3) d_P_car_38 rfl rfl ?_
            refine V2_ireturn d_P_car_39 rfl ?_
            exact absurd (by rw [c1_3]; decide) hw
          · refine V2_iconst (v := 1) d_Car_tells_72 rfl ?_
            refine V2_goto (tgt := 77) d_Car_tells_73 rfl ?_
            refine V2_ireturn d_Car_tells_77 rfl ?_
            refine V2.to (st' := [.int (1 : Int32)]) ?_ rfl rfl rfl rfl
            refine V2_istore_n (i := 3) (l' := [some (.ref 0), some (.int w), some (.int v), some (.int (1 : Int32))]) d_P_car_25 rfl (xst_i (Nat.le_of_ble_eq_true rfl) rfl rfl) ?_
            refine V2_aload_n (i := 0) d_P_car_26 rfl rfl ?_
            refine V2_getr (a := 1) d_P_car_27 fl_P_10 (by decide) rfl (by decide) rfl ?_
            refine V2_getr (a := 2) d_P_car_30 fl_P_93 (by decide) rfl (by decide) rfl ?_
            refine V2_iload_n (i := 1) d_P_car_33 rfl rfl ?_
            refine V2_iload_n (i := 2) d_P_car_34 rfl rfl ?_
            refine V2_callV [.int w, .int v] d_P_car_35 rfl rfl lk_P_129 mo_Car_alter (by decide) rfl rfl rfl (Nat.le_of_ble_eq_true rfl) (Nat.le_of_ble_eq_true rfl) ?_
            refine V2.to (l' := [some (.ref 2), some (.int w), some (.int v)]) ?_ rfl rfl rfl rfl
            refine V2_iload_n (i := 1) d_Car_alter_0 rfl rfl ?_
            by_cases c83_0 : w = 0
            · refine V2_tableIn (tgt := 36) (off := 35) d_Car_alter_1 (by rw [c83_0]; decide) (by rw [c83_0]; decide) (by rw [c83_0]; decide) rfl ?_
              refine V2_aload_n (i := 0) d_Car_alter_36 rfl rfl ?_
              refine V2_iload_n (i := 2) d_Car_alter_37 rfl rfl ?_
              refine V2_put d_Car_alter_38 fl_Car_7 (by decide) rfl (by decide) rfl ?_
              refine V2_goto (tgt := 76) d_Car_alter_41 rfl ?_
              refine V2_return d_Car_alter_76 rfl ?_
              refine V2.to (st' := []) ?_ rfl rfl rfl rfl
              refine V2_iload_n (i := 3) d_P_car_38 rfl rfl ?_
              refine V2_ireturn d_P_car_39 rfl ?_
              exact absurd (by rw [c1_3]; decide) hw
            by_cases c83_1 : w = 1
            · refine V2_tableIn (tgt := 44) (off := 43) d_Car_alter_1 (by rw [c83_1]; decide) (by rw [c83_1]; decide) (by rw [c83_1]; decide) rfl ?_
              refine V2_aload_n (i := 0) d_Car_alter_44 rfl rfl ?_
              refine V2_iload_n (i := 2) d_Car_alter_45 rfl rfl ?_
              refine V2_put d_Car_alter_46 fl_Car_13 (by decide) rfl (by decide) rfl ?_
              refine V2_goto (tgt := 76) d_Car_alter_49 rfl ?_
              refine V2_return d_Car_alter_76 rfl ?_
              refine V2.to (st' := []) ?_ rfl rfl rfl rfl
              refine V2_iload_n (i := 3) d_P_car_38 rfl rfl ?_
              refine V2_ireturn d_P_car_39 rfl ?_
              exact absurd (by rw [c1_3]; decide) hw
            by_cases c83_2 : w = 2
            · refine V2_tableIn (tgt := 52) (off := 51) d_Car_alter_1 (by rw [c83_2]; decide) (by rw [c83_2]; decide) (by rw [c83_2]; decide) rfl ?_
              refine V2_aload_n (i := 0) d_Car_alter_52 rfl rfl ?_
              refine V2_iload_n (i := 2) d_Car_alter_53 rfl rfl ?_
              refine V2_put d_Car_alter_54 fl_Car_16 (by decide) rfl (by decide) rfl ?_
              refine V2_goto (tgt := 76) d_Car_alter_57 rfl ?_
              refine V2_return d_Car_alter_76 rfl ?_
              refine V2.to (st' := []) ?_ rfl rfl rfl rfl
              refine V2_iload_n (i := 3) d_P_car_38 rfl rfl ?_
              refine V2_ireturn d_P_car_39 rfl ?_
              exact absurd (by rw [c1_3]; decide) hw
            by_cases c83_3 : w = 3
            · refine V2_tableIn (tgt := 60) (off := 59) d_Car_alter_1 (by rw [c83_3]; decide) (by rw [c83_3]; decide) (by rw [c83_3]; decide) rfl ?_
              refine V2_aload_n (i := 0) d_Car_alter_60 rfl rfl ?_
              refine V2_iload_n (i := 2) d_Car_alter_61 rfl rfl ?_
              refine V2_put d_Car_alter_62 fl_Car_19 (by decide) rfl (by decide) rfl ?_
              refine V2_goto (tgt := 76) d_Car_alter_65 rfl ?_
              refine V2_return d_Car_alter_76 rfl ?_
              refine V2.to (st' := []) ?_ rfl rfl rfl rfl
              refine V2_iload_n (i := 3) d_P_car_38 rfl rfl ?_
              refine V2_ireturn d_P_car_39 rfl ?_
              exact absurd (by rw [c1_3]; decide) hw
            by_cases c83_4 : w = 4
            · refine V2_tableIn (tgt := 68) (off := 67) d_Car_alter_1 (by rw [c83_4]; decide) (by rw [c83_4]; decide) (by rw [c83_4]; decide) rfl ?_
              refine V2_aload_n (i := 0) d_Car_alter_68 rfl rfl ?_
              refine V2_iload_n (i := 2) d_Car_alter_69 rfl rfl ?_
              refine V2_put d_Car_alter_70 fl_Car_22 (by decide) rfl (by decide) rfl ?_
              refine V2_goto (tgt := 76) d_Car_alter_73 rfl ?_
              refine V2_return d_Car_alter_76 rfl ?_
              refine V2.to (st' := []) ?_ rfl rfl rfl rfl
              refine V2_iload_n (i := 3) d_P_car_38 rfl rfl ?_
              refine V2_ireturn d_P_car_39 rfl ?_
              exact absurd (by rw [c1_3]; decide) hw
            refine V2_tableOut (tgt := 76) d_Car_alter_1 (by have := lv_neT (a := 0) c83_0 rfl; have := lv_neT (a := 1) c83_1 rfl; have := lv_neT (a := 2) c83_2 rfl; have := lv_neT (a := 3) c83_3 rfl; have := lv_neT (a := 4) c83_4 rfl; omega) rfl ?_
            refine V2_return d_Car_alter_76 rfl ?_
            refine V2.to (st' := []) ?_ rfl rfl rfl rfl
            refine V2_iload_n (i := 3) d_P_car_38 rfl rfl ?_
            refine V2_ireturn d_P_car_39 rfl ?_
            exact absurd (by rw [c1_3]; decide) hw
        refine V2_tableOut (tgt := 78) d_Car_tells_1 (by have := lv_neT (a := 0) c69_0 rfl; have := lv_neT (a := 1) c69_1 rfl; have := lv_neT (a := 2) c69_2 rfl; have := lv_neT (a := 3) c69_3 rfl; have := lv_neT (a := 4) c69_4 rfl; have := lv_neT (a := 5) c69_5 rfl; omega) rfl ?_
        refine V2_aload_n (i := 0) d_Car_tells_78 rfl rfl ?_
        refine V2_get (v := F 2 6) d_Car_tells_79 fl_Car_28 (by decide) rfl (by decide) rfl rfl ?_
        refine V2_topi (fun v84 ev84 => ?_)
        refine V2_ireturn d_Car_tells_82 rfl ?_
        refine V2.to (st' := [.int v84]) ?_ rfl rfl rfl rfl
        refine V2_istore_n (i := 3) (l' := [some (.ref 0), some (.int w), some (.int v), some (.int v84)]) d_P_car_25 rfl (xst_i (Nat.le_of_ble_eq_true rfl) rfl rfl) ?_
        refine V2_aload_n (i := 0) d_P_car_26 rfl rfl ?_
        refine V2_getr (a := 1) d_P_car_27 fl_P_10 (by decide) rfl (by decide) rfl ?_
        refine V2_getr (a := 2) d_P_car_30 fl_P_93 (by decide) rfl (by decide) rfl ?_
        refine V2_iload_n (i := 1) d_P_car_33 rfl rfl ?_
        refine V2_iload_n (i := 2) d_P_car_34 rfl rfl ?_
        refine V2_callV [.int w, .int v] d_P_car_35 rfl rfl lk_P_129 mo_Car_alter (by decide) rfl rfl rfl (Nat.le_of_ble_eq_true rfl) (Nat.le_of_ble_eq_true rfl) ?_
        refine V2.to (l' := [some (.ref 2), some (.int w), some (.int v)]) ?_ rfl rfl rfl rfl
        refine V2_iload_n (i := 1) d_Car_alter_0 rfl rfl ?_
        by_cases c85_0 : w = 0
        · refine V2_tableIn (tgt := 36) (off := 35) d_Car_alter_1 (by rw [c85_0]; decide) (by rw [c85_0]; decide) (by rw [c85_0]; decide) rfl ?_
          refine V2_aload_n (i := 0) d_Car_alter_36 rfl rfl ?_
          refine V2_iload_n (i := 2) d_Car_alter_37 rfl rfl ?_
          refine V2_put d_Car_alter_38 fl_Car_7 (by decide) rfl (by decide) rfl ?_
          refine V2_goto (tgt := 76) d_Car_alter_41 rfl ?_
          refine V2_return d_Car_alter_76 rfl ?_
          refine V2.to (st' := []) ?_ rfl rfl rfl rfl
          refine V2_iload_n (i := 3) d_P_car_38 rfl rfl ?_
          refine V2_ireturn d_P_car_39 rfl ?_
          exact absurd (by rw [c1_3]; decide) hw
        by_cases c85_1 : w = 1
        · refine V2_tableIn (tgt := 44) (off := 43) d_Car_alter_1 (by rw [c85_1]; decide) (by rw [c85_1]; decide) (by rw [c85_1]; decide) rfl ?_
          refine V2_aload_n (i := 0) d_Car_alter_44 rfl rfl ?_
          refine V2_iload_n (i := 2) d_Car_alter_45 rfl rfl ?_
          refine V2_put d_Car_alter_46 fl_Car_13 (by decide) rfl (by decide) rfl ?_
          refine V2_goto (tgt := 76) d_Car_alter_49 rfl ?_
          refine V2_return d_Car_alter_76 rfl ?_
          refine V2.to (st' := []) ?_ rfl rfl rfl rfl
          refine V2_iload_n (i := 3) d_P_car_38 rfl rfl ?_
          refine V2_ireturn d_P_car_39 rfl ?_
          exact absurd (by rw [c1_3]; decide) hw
        by_cases c85_2 : w = 2
        · refine V2_tableIn (tgt := 52) (off := 51) d_Car_alter_1 (by rw [c85_2]; decide) (by rw [c85_2]; decide) (by rw [c85_2]; decide) rfl ?_
          refine V2_aload_n (i := 0) d_Car_alter_52 rfl rfl ?_
          refine V2_iload_n (i := 2) d_Car_alter_53 rfl rfl ?_
          refine V2_put d_Car_alter_54 fl_Car_16 (by decide) rfl (by decide) rfl ?_
          refine V2_goto (tgt := 76) d_Car_alter_57 rfl ?_
          refine V2_return d_Car_alter_76 rfl ?_
          refine V2.to (st' := []) ?_ rfl rfl rfl rfl
          refine V2_iload_n (i := 3) d_P_car_38 rfl rfl ?_
          refine V2_ireturn d_P_car_39 rfl ?_
          exact absurd (by rw [c1_3]; decide) hw
        by_cases c85_3 : w = 3
        · refine V2_tableIn (tgt := 60) (off := 59) d_Car_alter_1 (by rw [c85_3]; decide) (by rw [c85_3]; decide) (by rw [c85_3]; decide) rfl ?_
          refine V2_aload_n (i := 0) d_Car_alter_60 rfl rfl ?_
          refine V2_iload_n (i := 2) d_Car_alter_61 rfl rfl ?_
          refine V2_put d_Car_alter_62 fl_Car_19 (by decide) rfl (by decide) rfl ?_
          refine V2_goto (tgt := 76) d_Car_alter_65 rfl ?_
          refine V2_return d_Car_alter_76 rfl ?_
          refine V2.to (st' := []) ?_ rfl rfl rfl rfl
          refine V2_iload_n (i := 3) d_P_car_38 rfl rfl ?_
          refine V2_ireturn d_P_car_39 rfl ?_
          exact absurd (by rw [c1_3]; decide) hw
        by_cases c85_4 : w = 4
        · refine V2_tableIn (tgt := 68) (off := 67) d_Car_alter_1 (by rw [c85_4]; decide) (by rw [c85_4]; decide) (by rw [c85_4]; decide) rfl ?_
          refine V2_aload_n (i := 0) d_Car_alter_68 rfl rfl ?_
          refine V2_iload_n (i := 2) d_Car_alter_69 rfl rfl ?_
          refine V2_put d_Car_alter_70 fl_Car_22 (by decide) rfl (by decide) rfl ?_
          refine V2_goto (tgt := 76) d_Car_alter_73 rfl ?_
          refine V2_return d_Car_alter_76 rfl ?_
          refine V2.to (st' := []) ?_ rfl rfl rfl rfl
          refine V2_iload_n (i := 3) d_P_car_38 rfl rfl ?_
          refine V2_ireturn d_P_car_39 rfl ?_
          exact absurd (by rw [c1_3]; decide) hw
        refine V2_tableOut (tgt := 76) d_Car_alter_1 (by have := lv_neT (a := 0) c85_0 rfl; have := lv_neT (a := 1) c85_1 rfl; have := lv_neT (a := 2) c85_2 rfl; have := lv_neT (a := 3) c85_3 rfl; have := lv_neT (a := 4) c85_4 rfl; omega) rfl ?_
        refine V2_return d_Car_alter_76 rfl ?_
        refine V2.to (st' := []) ?_ rfl rfl rfl rfl
        refine V2_iload_n (i := 3) d_P_car_38 rfl rfl ?_
        refine V2_ireturn d_P_car_39 rfl ?_
        exact absurd (by rw [c1_3]; decide) hw
  by_cases c1_4 : w = 4
  · refine V2_tableIn (tgt := 44) (off := 43) d_Car_canBecome_1 (by rw [c1_4]; decide) (by rw [c1_4]; decide) (by rw [c1_4]; decide) rfl ?_
    refine V2_iload_n (i := 1) d_Car_canBecome_44 rfl rfl ?_
    refine V2_iconst (v := 0) d_Car_canBecome_45 rfl ?_
    refine V2_bipush (v := 99) d_Car_canBecome_46 rfl ?_
    refine V2_callS [.int v, .int (0 : Int32), .int (99 : Int32)] d_Car_canBecome_48 rfl rfl lk_Car_35 mo_P_within (Nat.le_of_ble_eq_true rfl) (Nat.le_of_ble_eq_true rfl) ?_
    refine V2.to (l' := [some (.int v), some (.int (0 : Int32)), some (.int (99 : Int32))]) ?_ rfl rfl rfl rfl
    refine V2_iload_n (i := 0) d_P_within_0 rfl rfl ?_
    refine V2_iload_n (i := 1) d_P_within_1 rfl rfl ?_
    refine V2_icmp_lt (tgt := 14) d_P_within_2 rfl (fun c86 => ?_) (fun c86 => ?_)
    · refine V2_iconst (v := 0) d_P_within_14 rfl ?_
      refine V2_zreturn d_P_within_15 rfl (by decide) ?_
      refine V2.to (st' := [.int (0 : Int32)]) ?_ rfl rfl rfl rfl
      refine V2_zreturn d_Car_canBecome_51 rfl (by decide) ?_
      refine V2.to (st' := [.int (0 : Int32)]) ?_ rfl rfl rfl rfl
      refine V2_if_ne (tgt := 14) d_P_car_5 rfl (fun c => (by first | exact absurd c (by decide) | exact absurd (by decide) c)) (fun _ => ?_)
      refine V2_aload_n (i := 0) d_P_car_8 rfl rfl ?_
      refine V2_iconst (v := 1) d_P_car_9 rfl ?_
      refine V2_callV [.int (1 : Int32)] d_P_car_10 rfl rfl lk_P_66 mo_P_fails (by decide) rfl rfl rfl (Nat.le_of_ble_eq_true rfl) (Nat.le_of_ble_eq_true rfl) ?_
      refine c_P_fails1 ?_
      refine V2_topi (fun v87 ev87 => ?_)
      refine V2_ireturn d_P_car_13 rfl ?_
      exact absurd (by rw [c1_4]; decide) hw
    · refine V2_iload_n (i := 0) d_P_within_5 rfl rfl ?_
      refine V2_iload_n (i := 2) d_P_within_6 rfl rfl ?_
      refine V2_icmp_gt (tgt := 14) d_P_within_7 rfl (fun c88 => ?_) (fun c88 => ?_)
      · refine V2_iconst (v := 0) d_P_within_14 rfl ?_
        refine V2_zreturn d_P_within_15 rfl (by decide) ?_
        refine V2.to (st' := [.int (0 : Int32)]) ?_ rfl rfl rfl rfl
        refine V2_zreturn d_Car_canBecome_51 rfl (by decide) ?_
        refine V2.to (st' := [.int (0 : Int32)]) ?_ rfl rfl rfl rfl
        refine V2_if_ne (tgt := 14) d_P_car_5 rfl (fun c => (by first | exact absurd c (by decide) | exact absurd (by decide) c)) (fun _ => ?_)
        refine V2_aload_n (i := 0) d_P_car_8 rfl rfl ?_
        refine V2_iconst (v := 1) d_P_car_9 rfl ?_
        refine V2_callV [.int (1 : Int32)] d_P_car_10 rfl rfl lk_P_66 mo_P_fails (by decide) rfl rfl rfl (Nat.le_of_ble_eq_true rfl) (Nat.le_of_ble_eq_true rfl) ?_
        refine c_P_fails1 ?_
        refine V2_topi (fun v89 ev89 => ?_)
        refine V2_ireturn d_P_car_13 rfl ?_
        exact absurd (by rw [c1_4]; decide) hw
      · refine V2_iconst (v := 1) d_P_within_10 rfl ?_
        refine V2_goto (tgt := 15) d_P_within_11 rfl ?_
        refine V2_zreturn d_P_within_15 rfl (by decide) ?_
        refine V2.to (st' := [.int (1 : Int32)]) ?_ rfl rfl rfl rfl
        refine V2_zreturn d_Car_canBecome_51 rfl (by decide) ?_
        refine V2.to (st' := [.int (1 : Int32)]) ?_ rfl rfl rfl rfl
        refine V2_if_ne (tgt := 14) d_P_car_5 rfl (fun _ => ?_) (fun c => (by first | exact absurd c (by decide) | exact absurd (by decide) c))
        refine V2_aload_n (i := 0) d_P_car_14 rfl rfl ?_
        refine V2_getr (a := 1) d_P_car_15 fl_P_10 (by decide) rfl (by decide) rfl ?_
        refine V2_getr (a := 2) d_P_car_18 fl_P_93 (by decide) rfl (by decide) rfl ?_
        refine V2_iload_n (i := 1) d_P_car_21 rfl rfl ?_
        refine V2_callV [.int w] d_P_car_22 rfl rfl lk_P_126 mo_Car_tells (by decide) rfl rfl rfl (Nat.le_of_ble_eq_true rfl) (Nat.le_of_ble_eq_true rfl) ?_
        refine V2.to (l' := [some (.ref 2), some (.int w)]) ?_ rfl rfl rfl rfl
        refine V2_iload_n (i := 1) d_Car_tells_0 rfl rfl ?_
        by_cases c90_0 : w = 0
        · refine V2_tableIn (tgt := 40) (off := 39) d_Car_tells_1 (by rw [c90_0]; decide) (by rw [c90_0]; decide) (by rw [c90_0]; decide) rfl ?_
          refine V2_aload_n (i := 0) d_Car_tells_40 rfl rfl ?_
          refine V2_get (v := F 2 0) d_Car_tells_41 fl_Car_7 (by decide) rfl (by decide) rfl rfl ?_
          refine V2_topi (fun v91 ev91 => ?_)
          refine V2_ireturn d_Car_tells_44 rfl ?_
          refine V2.to (st' := [.int v91]) ?_ rfl rfl rfl rfl
          refine V2_istore_n (i := 3) (l' := [some (.ref 0), some (.int w), some (.int v), some (.int v91)]) d_P_car_25 rfl (xst_i (Nat.le_of_ble_eq_true rfl) rfl rfl) ?_
          refine V2_aload_n (i := 0) d_P_car_26 rfl rfl ?_
          refine V2_getr (a := 1) d_P_car_27 fl_P_10 (by decide) rfl (by decide) rfl ?_
          refine V2_getr (a := 2) d_P_car_30 fl_P_93 (by decide) rfl (by decide) rfl ?_
          refine V2_iload_n (i := 1) d_P_car_33 rfl rfl ?_
          refine V2_iload_n (i := 2) d_P_car_34 rfl rfl ?_
          refine V2_callV [.int w, .int v] d_P_car_35 rfl rfl lk_P_129 mo_Car_alter (by decide) rfl rfl rfl (Nat.le_of_ble_eq_true rfl) (Nat.le_of_ble_eq_true rfl) ?_
          refine V2.to (l' := [some (.ref 2), some (.int w), some (.int v)]) ?_ rfl rfl rfl rfl
          refine V2_iload_n (i := 1) d_Car_alter_0 rfl rfl ?_
          by_cases c92_0 : w = 0
          · refine V2_tableIn (tgt := 36) (off := 35) d_Car_alter_1 (by rw [c92_0]; decide) (by rw [c92_0]; decide) (by rw [c92_0]; decide) rfl ?_
            refine V2_aload_n (i := 0) d_Car_alter_36 rfl rfl ?_
            refine V2_iload_n (i := 2) d_Car_alter_37 rfl rfl ?_
            refine V2_put d_Car_alter_38 fl_Car_7 (by decide) rfl (by decide) rfl ?_
            refine V2_goto (tgt := 76) d_Car_alter_41 rfl ?_
            refine V2_return d_Car_alter_76 rfl ?_
            refine V2.to (st' := []) ?_ rfl rfl rfl rfl
            refine V2_iload_n (i := 3) d_P_car_38 rfl rfl ?_
            refine V2_ireturn d_P_car_39 rfl ?_
            exact absurd (by rw [c1_4]; decide) hw
          by_cases c92_1 : w = 1
          · refine V2_tableIn (tgt := 44) (off := 43) d_Car_alter_1 (by rw [c92_1]; decide) (by rw [c92_1]; decide) (by rw [c92_1]; decide) rfl ?_
            refine V2_aload_n (i := 0) d_Car_alter_44 rfl rfl ?_
            refine V2_iload_n (i := 2) d_Car_alter_45 rfl rfl ?_
            refine V2_put d_Car_alter_46 fl_Car_13 (by decide) rfl (by decide) rfl ?_
            refine V2_goto (tgt := 76) d_Car_alter_49 rfl ?_
            refine V2_return d_Car_alter_76 rfl ?_
            refine V2.to (st' := []) ?_ rfl rfl rfl rfl
            refine V2_iload_n (i := 3) d_P_car_38 rfl rfl ?_
            refine V2_ireturn d_P_car_39 rfl ?_
            exact absurd (by rw [c1_4]; decide) hw
          by_cases c92_2 : w = 2
          · refine V2_tableIn (tgt := 52) (off := 51) d_Car_alter_1 (by rw [c92_2]; decide) (by rw [c92_2]; decide) (by rw [c92_2]; decide) rfl ?_
            refine V2_aload_n (i := 0) d_Car_alter_52 rfl rfl ?_
            refine V2_iload_n (i := 2) d_Car_alter_53 rfl rfl ?_
            refine V2_put d_Car_alter_54 fl_Car_16 (by decide) rfl (by decide) rfl ?_
            refine V2_goto (tgt := 76) d_Car_alter_57 rfl ?_
            refine V2_return d_Car_alter_76 rfl ?_
            refine V2.to (st' := []) ?_ rfl rfl rfl rfl
            refine V2_iload_n (i := 3) d_P_car_38 rfl rfl ?_
            refine V2_ireturn d_P_car_39 rfl ?_
            exact absurd (by rw [c1_4]; decide) hw
          by_cases c92_3 : w = 3
          · refine V2_tableIn (tgt := 60) (off := 59) d_Car_alter_1 (by rw [c92_3]; decide) (by rw [c92_3]; decide) (by rw [c92_3]; decide) rfl ?_
            refine V2_aload_n (i := 0) d_Car_alter_60 rfl rfl ?_
            refine V2_iload_n (i := 2) d_Car_alter_61 rfl rfl ?_
            refine V2_put d_Car_alter_62 fl_Car_19 (by decide) rfl (by decide) rfl ?_
            refine V2_goto (tgt := 76) d_Car_alter_65 rfl ?_
            refine V2_return d_Car_alter_76 rfl ?_
            refine V2.to (st' := []) ?_ rfl rfl rfl rfl
            refine V2_iload_n (i := 3) d_P_car_38 rfl rfl ?_
            refine V2_ireturn d_P_car_39 rfl ?_
            exact absurd (by rw [c1_4]; decide) hw
          by_cases c92_4 : w = 4
          · refine V2_tableIn (tgt := 68) (off := 67) d_Car_alter_1 (by rw [c92_4]; decide) (by rw [c92_4]; decide) (by rw [c92_4]; decide) rfl ?_
            refine V2_aload_n (i := 0) d_Car_alter_68 rfl rfl ?_
            refine V2_iload_n (i := 2) d_Car_alter_69 rfl rfl ?_
            refine V2_put d_Car_alter_70 fl_Car_22 (by decide) rfl (by decide) rfl ?_
            refine V2_goto (tgt := 76) d_Car_alter_73 rfl ?_
            refine V2_return d_Car_alter_76 rfl ?_
            refine V2.to (st' := []) ?_ rfl rfl rfl rfl
            refine V2_iload_n (i := 3) d_P_car_38 rfl rfl ?_
            refine V2_ireturn d_P_car_39 rfl ?_
            exact absurd (by rw [c1_4]; decide) hw
          refine V2_tableOut (tgt := 76) d_Car_alter_1 (by have := lv_neT (a := 0) c92_0 rfl; have := lv_neT (a := 1) c92_1 rfl; have := lv_neT (a := 2) c92_2 rfl; have := lv_neT (a := 3) c92_3 rfl; have := lv_neT (a := 4) c92_4 rfl; omega) rfl ?_
          refine V2_return d_Car_alter_76 rfl ?_
          refine V2.to (st' := []) ?_ rfl rfl rfl rfl
          refine V2_iload_n (i := 3) d_P_car_38 rfl rfl ?_
          refine V2_ireturn d_P_car_39 rfl ?_
          exact absurd (by rw [c1_4]; decide) hw
        by_cases c90_1 : w = 1
        · refine V2_tableIn (tgt := 45) (off := 44) d_Car_tells_1 (by rw [c90_1]; decide) (by rw [c90_1]; decide) (by rw [c90_1]; decide) rfl ?_
          refine V2_aload_n (i := 0) d_Car_tells_45 rfl rfl ?_
          refine V2_get (v := F 2 1) d_Car_tells_46 fl_Car_13 (by decide) rfl (by decide) rfl rfl ?_
          refine V2_topi (fun v93 ev93 => ?_)
          refine V2_ireturn d_Car_tells_49 rfl ?_
          refine V2.to (st' := [.int v93]) ?_ rfl rfl rfl rfl
          refine V2_istore_n (i := 3) (l' := [some (.ref 0), some (.int w), some (.int v), some (.int v93)]) d_P_car_25 rfl (xst_i (Nat.le_of_ble_eq_true rfl) rfl rfl) ?_
          refine V2_aload_n (i := 0) d_P_car_26 rfl rfl ?_
          refine V2_getr (a := 1) d_P_car_27 fl_P_10 (by decide) rfl (by decide) rfl ?_
          refine V2_getr (a := 2) d_P_car_30 fl_P_93 (by decide) rfl (by decide) rfl ?_
          refine V2_iload_n (i := 1) d_P_car_33 rfl rfl ?_
          refine V2_iload_n (i := 2) d_P_car_34 rfl rfl ?_
          refine V2_callV [.int w, .int v] d_P_car_35 rfl rfl lk_P_129 mo_Car_alter (by decide) rfl rfl rfl (Nat.le_of_ble_eq_true rfl) (Nat.le_of_ble_eq_true rfl) ?_
          refine V2.to (l' := [some (.ref 2), some (.int w), some (.int v)]) ?_ rfl rfl rfl rfl
          refine V2_iload_n (i := 1) d_Car_alter_0 rfl rfl ?_
          by_cases c94_0 : w = 0
          · refine V2_tableIn (tgt := 36) (off := 35) d_Car_alter_1 (by rw [c94_0]; decide) (by rw [c94_0]; decide) (by rw [c94_0]; decide) rfl ?_
            refine V2_aload_n (i := 0) d_Car_alter_36 rfl rfl ?_
            refine V2_iload_n (i := 2) d_Car_alter_37 rfl rfl ?_
            refine V2_put d_Car_alter_38 fl_Car_7 (by decide) rfl (by decide) rfl ?_
            refine V2_goto (tgt := 76) d_Car_alter_41 rfl ?_
            refine V2_return d_Car_alter_76 rfl ?_
            refine V2.to (st' := []) ?_ rfl rfl rfl rfl
            refine V2_iload_n (i := 3) d_P_car_38 rfl rfl ?_
            refine V2_ireturn d_P_car_39 rfl ?_
            exact absurd (by rw [c1_4]; decide) hw
          by_cases c94_1 : w = 1
          · refine V2_tableIn (tgt := 44) (off := 43) d_Car_alter_1 (by rw [c94_1]; decide) (by rw [c94_1]; decide) (by rw [c94_1]; decide) rfl ?_
            refine V2_aload_n (i := 0) d_Car_alter_44 rfl rfl ?_
            refine V2_iload_n (i := 2) d_Car_alter_45 rfl rfl ?_
            refine V2_put d_Car_alter_46 fl_Car_13 (by decide) rfl (by decide) rfl ?_
            refine V2_goto (tgt := 76) d_Car_alter_49 rfl ?_
            refine V2_return d_Car_alter_76 rfl ?_
            refine V2.to (st' := []) ?_ rfl rfl rfl rfl
            refine V2_iload_n (i := 3) d_P_car_38 rfl rfl ?_
            refine V2_ireturn d_P_car_39 rfl ?_
            exact absurd (by rw [c1_4]; decide) hw
          by_cases c94_2 : w = 2
          · refine V2_tableIn (tgt := 52) (off := 51) d_Car_alter_1 (by rw [c94_2]; decide) (by rw [c94_2]; decide) (by rw [c94_2]; decide) rfl ?_
            refine V2_aload_n (i := 0) d_Car_alter_52 rfl rfl ?_
            refine V2_iload_n (i := 2) d_Car_alter_53 rfl rfl ?_
            refine V2_put d_Car_alter_54 fl_Car_16 (by decide) rfl (by decide) rfl ?_
            refine V2_goto (tgt := 76) d_Car_alter_57 rfl ?_
            refine V2_return d_Car_alter_76 rfl ?_
            refine V2.to (st' := []) ?_ rfl rfl rfl rfl
            refine V2_iload_n (i := 3) d_P_car_38 rfl rfl ?_
            refine V2_ireturn d_P_car_39 rfl ?_
            exact absurd (by rw [c1_4]; decide) hw
          by_cases c94_3 : w = 3
          · refine V2_tableIn (tgt := 60) (off := 59) d_Car_alter_1 (by rw [c94_3]; decide) (by rw [c94_3]; decide) (by rw [c94_3]; decide) rfl ?_
            refine V2_aload_n (i := 0) d_Car_alter_60 rfl rfl ?_
            refine V2_iload_n (i := 2) d_Car_alter_61 rfl rfl ?_
            refine V2_put d_Car_alter_62 fl_Car_19 (by decide) rfl (by decide) rfl ?_
            refine V2_goto (tgt := 76) d_Car_alter_65 rfl ?_
            refine V2_return d_Car_alter_76 rfl ?_
            refine V2.to (st' := []) ?_ rfl rfl rfl rfl
            refine V2_iload_n (i := 3) d_P_car_38 rfl rfl ?_
            refine V2_ireturn d_P_car_39 rfl ?_
            exact absurd (by rw [c1_4]; decide) hw
          by_cases c94_4 : w = 4
          · refine V2_tableIn (tgt := 68) (off := 67) d_Car_alter_1 (by rw [c94_4]; decide) (by rw [c94_4]; decide) (by rw [c94_4]; decide) rfl ?_
            refine V2_aload_n (i := 0) d_Car_alter_68 rfl rfl ?_
            refine V2_iload_n (i := 2) d_Car_alter_69 rfl rfl ?_
            refine V2_put d_Car_alter_70 fl_Car_22 (by decide) rfl (by decide) rfl ?_
            refine V2_goto (tgt := 76) d_Car_alter_73 rfl ?_
            refine V2_return d_Car_alter_76 rfl ?_
            refine V2.to (st' := []) ?_ rfl rfl rfl rfl
            refine V2_iload_n (i := 3) d_P_car_38 rfl rfl ?_
            refine V2_ireturn d_P_car_39 rfl ?_
            exact absurd (by rw [c1_4]; decide) hw
          refine V2_tableOut (tgt := 76) d_Car_alter_1 (by have := lv_neT (a := 0) c94_0 rfl; have := lv_neT (a := 1) c94_1 rfl; have := lv_neT (a := 2) c94_2 rfl; have := lv_neT (a := 3) c94_3 rfl; have := lv_neT (a := 4) c94_4 rfl; omega) rfl ?_
          refine V2_return d_Car_alter_76 rfl ?_
          refine V2.to (st' := []) ?_ rfl rfl rfl rfl
          refine V2_iload_n (i := 3) d_P_car_38 rfl rfl ?_
          refine V2_ireturn d_P_car_39 rfl ?_
          exact absurd (by rw [c1_4]; decide) hw
        by_cases c90_2 : w = 2
        · refine V2_tableIn (tgt := 50) (off := 49) d_Car_tells_1 (by rw [c90_2]; decide) (by rw [c90_2]; decide) (by rw [c90_2]; decide) rfl ?_
          refine V2_aload_n (i := 0) d_Car_tells_50 rfl rfl ?_
          refine V2_get (v := F 2 2) d_Car_tells_51 fl_Car_16 (by decide) rfl (by decide) rfl rfl ?_
          refine V2_topi (fun v95 ev95 => ?_)
          refine V2_ireturn d_Car_tells_54 rfl ?_
          refine V2.to (st' := [.int v95]) ?_ rfl rfl rfl rfl
          refine V2_istore_n (i := 3) (l' := [some (.ref 0), some (.int w), some (.int v), some (.int v95)]) d_P_car_25 rfl (xst_i (Nat.le_of_ble_eq_true rfl) rfl rfl) ?_
          refine V2_aload_n (i := 0) d_P_car_26 rfl rfl ?_
          refine V2_getr (a := 1) d_P_car_27 fl_P_10 (by decide) rfl (by decide) rfl ?_
          refine V2_getr (a := 2) d_P_car_30 fl_P_93 (by decide) rfl (by decide) rfl ?_
          refine V2_iload_n (i := 1) d_P_car_33 rfl rfl ?_
          refine V2_iload_n (i := 2) d_P_car_34 rfl rfl ?_
          refine V2_callV [.int w, .int v] d_P_car_35 rfl rfl lk_P_129 mo_Car_alter (by decide) rfl rfl rfl (Nat.le_of_ble_eq_true rfl) (Nat.le_of_ble_eq_true rfl) ?_
          refine V2.to (l' := [some (.ref 2), some (.int w), some (.int v)]) ?_ rfl rfl rfl rfl
          refine V2_iload_n (i := 1) d_Car_alter_0 rfl rfl ?_
          by_cases c96_0 : w = 0
          · refine V2_tableIn (tgt := 36) (off := 35) d_Car_alter_1 (by rw [c96_0]; decide) (by rw [c96_0]; decide) (by rw [c96_0]; decide) rfl ?_
            refine V2_aload_n (i := 0) d_Car_alter_36 rfl rfl ?_
            refine V2_iload_n (i := 2) d_Car_alter_37 rfl rfl ?_
            refine V2_put d_Car_alter_38 fl_Car_7 (by decide) rfl (by decide) rfl ?_
            refine V2_goto (tgt := 76) d_Car_alter_41 rfl ?_
            refine V2_return d_Car_alter_76 rfl ?_
            refine V2.to (st' := []) ?_ rfl rfl rfl rfl
            refine V2_iload_n (i := 3) d_P_car_38 rfl rfl ?_
            refine V2_ireturn d_P_car_39 rfl ?_
            exact absurd (by rw [c1_4]; decide) hw
          by_cases c96_1 : w = 1
          · refine V2_tableIn (tgt := 44) (off := 43) d_Car_alter_1 (by rw [c96_1]; decide) (by rw [c96_1]; decide) (by rw [c96_1]; decide) rfl ?_
            refine V2_aload_n (i := 0) d_Car_alter_44 rfl rfl ?_
            refine V2_iload_n (i := 2) d_Car_alter_45 rfl rfl ?_
            refine V2_put d_Car_alter_46 fl_Car_13 (by decide) rfl (by decide) rfl ?_
            refine V2_goto (tgt := 76) d_Car_alter_49 rfl ?_
            refine V2_return d_Car_alter_76 rfl ?_
            refine V2.to (st' := []) ?_ rfl rfl rfl rfl
            refine V2_iload_n (i := 3) d_P_car_38 rfl rfl ?_
            refine V2_ireturn d_P_car_39 rfl ?_
            exact absurd (by rw [c1_4]; decide) hw
          by_cases c96_2 : w = 2
          · refine V2_tableIn (tgt := 52) (off := 51) d_Car_alter_1 (by rw [c96_2]; decide) (by rw [c96_2]; decide) (by rw [c96_2]; decide) rfl ?_
            refine V2_aload_n (i := 0) d_Car_alter_52 rfl rfl ?_
            refine V2_iload_n (i := 2) d_Car_alter_53 rfl rfl ?_
            refine V2_put d_Car_alter_54 fl_Car_16 (by decide) rfl (by decide) rfl ?_
            refine V2_goto (tgt := 76) d_Car_alter_57 rfl ?_
            refine V2_return d_Car_alter_76 rfl ?_
            refine V2.to (st' := []) ?_ rfl rfl rfl rfl
            refine V2_iload_n (i := 3) d_P_car_38 rfl rfl ?_
            refine V2_ireturn d_P_car_39 rfl ?_
            exact absurd (by rw [c1_4]; decide) hw
          by_cases c96_3 : w = 3
          · refine V2_tableIn (tgt := 60) (off := 59) d_Car_alter_1 (by rw [c96_3]; decide) (by rw [c96_3]; decide) (by rw [c96_3]; decide) rfl ?_
            refine V2_aload_n (i := 0) d_Car_alter_60 rfl rfl ?_
            refine V2_iload_n (i := 2) d_Car_alter_61 rfl rfl ?_
            refine V2_put d_Car_alter_62 fl_Car_19 (by decide) rfl (by decide) rfl ?_
            refine V2_goto (tgt := 76) d_Car_alter_65 rfl ?_
            refine V2_return d_Car_alter_76 rfl ?_
            refine V2.to (st' := []) ?_ rfl rfl rfl rfl
            refine V2_iload_n (i := 3) d_P_car_38 rfl rfl ?_
            refine V2_ireturn d_P_car_39 rfl ?_
            exact absurd (by rw [c1_4]; decide) hw
          by_cases c96_4 : w = 4
          · refine V2_tableIn (tgt := 68) (off := 67) d_Car_alter_1 (by rw [c96_4]; decide) (by rw [c96_4]; decide) (by rw [c96_4]; decide) rfl ?_
            refine V2_aload_n (i := 0) d_Car_alter_68 rfl rfl ?_
            refine V2_iload_n (i := 2) d_Car_alter_69 rfl rfl ?_
            refine V2_put d_Car_alter_70 fl_Car_22 (by decide) rfl (by decide) rfl ?_
            refine V2_goto (tgt := 76) d_Car_alter_73 rfl ?_
            refine V2_return d_Car_alter_76 rfl ?_
            refine V2.to (st' := []) ?_ rfl rfl rfl rfl
            refine V2_iload_n (i := 3) d_P_car_38 rfl rfl ?_
            refine V2_ireturn d_P_car_39 rfl ?_
            exact absurd (by rw [c1_4]; decide) hw
          refine V2_tableOut (tgt := 76) d_Car_alter_1 (by have := lv_neT (a := 0) c96_0 rfl; have := lv_neT (a := 1) c96_1 rfl; have := lv_neT (a := 2) c96_2 rfl; have := lv_neT (a := 3) c96_3 rfl; have := lv_neT (a := 4) c96_4 rfl; omega) rfl ?_
          refine V2_return d_Car_alter_76 rfl ?_
          refine V2.to (st' := []) ?_ rfl rfl rfl rfl
          refine V2_iload_n (i := 3) d_P_car_38 rfl rfl ?_
          refine V2_ireturn d_P_car_39 rfl ?_
          exact absurd (by rw [c1_4]; decide) hw
        by_cases c90_3 : w = 3
        · refine V2_tableIn (tgt := 55) (off := 54) d_Car_tells_1 (by rw [c90_3]; decide) (by rw [c90_3]; decide) (by rw [c90_3]; decide) rfl ?_
          refine V2_aload_n (i := 0) d_Car_tells_55 rfl rfl ?_
          refine V2_get (v := F 2 3) d_Car_tells_56 fl_Car_19 (by decide) rfl (by decide) rfl rfl ?_
          refine V2_topi (fun v97 ev97 => ?_)
          refine V2_ireturn d_Car_tells_59 rfl ?_
          refine V2.to (st' := [.int v97]) ?_ rfl rfl rfl rfl
          refine V2_istore_n (i := 3) (l' := [some (.ref 0), some (.int w), some (.int v), some (.int v97)]) d_P_car_25 rfl (xst_i (Nat.le_of_ble_eq_true rfl) rfl rfl) ?_
          refine V2_aload_n (i := 0) d_P_car_26 rfl rfl ?_
          refine V2_getr (a := 1) d_P_car_27 fl_P_10 (by decide) rfl (by decide) rfl ?_
          refine V2_getr (a := 2) d_P_car_30 fl_P_93 (by decide) rfl (by decide) rfl ?_
          refine V2_iload_n (i := 1) d_P_car_33 rfl rfl ?_
          refine V2_iload_n (i := 2) d_P_car_34 rfl rfl ?_
          refine V2_callV [.int w, .int v] d_P_car_35 rfl rfl lk_P_129 mo_Car_alter (by decide) rfl rfl rfl (Nat.le_of_ble_eq_true rfl) (Nat.le_of_ble_eq_true rfl) ?_
          refine V2.to (l' := [some (.ref 2), some (.int w), some (.int v)]) ?_ rfl rfl rfl rfl
          refine V2_iload_n (i := 1) d_Car_alter_0 rfl rfl ?_
          by_cases c98_0 : w = 0
          · refine V2_tableIn (tgt := 36) (off := 35) d_Car_alter_1 (by rw [c98_0]; decide) (by rw [c98_0]; decide) (by rw [c98_0]; decide) rfl ?_
            refine V2_aload_n (i := 0) d_Car_alter_36 rfl rfl ?_
            refine V2_iload_n (i := 2) d_Car_alter_37 rfl rfl ?_
            refine V2_put d_Car_alter_38 fl_Car_7 (by decide) rfl (by decide) rfl ?_
            refine V2_goto (tgt := 76) d_Car_alter_41 rfl ?_
            refine V2_return d_Car_alter_76 rfl ?_
            refine V2.to (st' := []) ?_ rfl rfl rfl rfl
            refine V2_iload_n (i := 3) d_P_car_38 rfl rfl ?_
            refine V2_ireturn d_P_car_39 rfl ?_
            exact absurd (by rw [c1_4]; decide) hw
          by_cases c98_1 : w = 1
          · refine V2_tableIn (tgt := 44) (off := 43) d_Car_alter_1 (by rw [c98_1]; decide) (by rw [c98_1]; decide) (by rw [c98_1]; decide) rfl ?_
            refine V2_aload_n (i := 0) d_Car_alter_44 rfl rfl ?_
            refine V2_iload_n (i := 2) d_Car_alter_45 rfl rfl ?_
            refine V2_put d_Car_alter_46 fl_Car_13 (by decide) rfl (by decide) rfl ?_
            refine V2_goto (tgt := 76) d_Car_alter_49 rfl ?_
            refine V2_return d_Car_alter_76 rfl ?_
            refine V2.to (st' := []) ?_ rfl rfl rfl rfl
            refine V2_iload_n (i := 3) d_P_car_38 rfl rfl ?_
            refine V2_ireturn d_P_car_39 rfl ?_
            exact absurd (by rw [c1_4]; decide) hw
          by_cases c98_2 : w = 2
          · refine V2_tableIn (tgt := 52) (off := 51) d_Car_alter_1 (by rw [c98_2]; decide) (by rw [c98_2]; decide) (by rw [c98_2]; decide) rfl ?_
            refine V2_aload_n (i := 0) d_Car_alter_52 rfl rfl ?_
            refine V2_iload_n (i := 2) d_Car_alter_53 rfl rfl ?_
            refine V2_put d_Car_alter_54 fl_Car_16 (by decide) rfl (by decide) rfl ?_
            refine V2_goto (tgt := 76) d_Car_alter_57 rfl ?_
            refine V2_return d_Car_alter_76 rfl ?_
            refine V2.to (st' := []) ?_ rfl rfl rfl rfl
            refine V2_iload_n (i := 3) d_P_car_38 rfl rfl ?_
            refine V2_ireturn d_P_car_39 rfl ?_
            exact absurd (by rw [c1_4]; decide) hw
          by_cases c98_3 : w = 3
          · refine V2_tableIn (tgt := 60) (off := 59) d_Car_alter_1 (by rw [c98_3]; decide) (by rw [c98_3]; decide) (by rw [c98_3]; decide) rfl ?_
            refine V2_aload_n (i := 0) d_Car_alter_60 rfl rfl ?_
            refine V2_iload_n (i := 2) d_Car_alter_61 rfl rfl ?_
            refine V2_put d_Car_alter_62 fl_Car_19 (by decide) rfl (by decide) rfl ?_
            refine V2_goto (tgt := 76) d_Car_alter_65 rfl ?_
            refine V2_return d_Car_alter_76 rfl ?_
            refine V2.to (st' := []) ?_ rfl rfl rfl rfl
            refine V2_iload_n (i := 3) d_P_car_38 rfl rfl ?_
            refine V2_ireturn d_P_car_39 rfl ?_
            exact absurd (by rw [c1_4]; decide) hw
          by_cases c98_4 : w = 4
          · refine V2_tableIn (tgt := 68) (off := 67) d_Car_alter_1 (by rw [c98_4]; decide) (by rw [c98_4]; decide) (by rw [c98_4]; decide) rfl ?_
            refine V2_aload_n (i := 0) d_Car_alter_68 rfl rfl ?_
            refine V2_iload_n (i := 2) d_Car_alter_69 rfl rfl ?_
            refine V2_put d_Car_alter_70 fl_Car_22 (by decide) rfl (by decide) rfl ?_
            refine V2_goto (tgt := 76) d_Car_alter_73 rfl ?_
            refine V2_return d_Car_alter_76 rfl ?_
            refine V2.to (st' := []) ?_ rfl rfl rfl rfl
            refine V2_iload_n (i := 3) d_P_car_38 rfl rfl ?_
            refine V2_ireturn d_P_car_39 rfl ?_
            exact absurd (by rw [c1_4]; decide) hw
          refine V2_tableOut (tgt := 76) d_Car_alter_1 (by have := lv_neT (a := 0) c98_0 rfl; have := lv_neT (a := 1) c98_1 rfl; have := lv_neT (a := 2) c98_2 rfl; have := lv_neT (a := 3) c98_3 rfl; have := lv_neT (a := 4) c98_4 rfl; omega) rfl ?_
          refine V2_return d_Car_alter_76 rfl ?_
          refine V2.to (st' := []) ?_ rfl rfl rfl rfl
          refine V2_iload_n (i := 3) d_P_car_38 rfl rfl ?_
          refine V2_ireturn d_P_car_39 rfl ?_
          exact absurd (by rw [c1_4]; decide) hw
        by_cases c90_4 : w = 4
        · refine V2_tableIn (tgt := 60) (off := 59) d_Car_tells_1 (by rw [c90_4]; decide) (by rw [c90_4]; decide) (by rw [c90_4]; decide) rfl ?_
          refine V2_aload_n (i := 0) d_Car_tells_60 rfl rfl ?_
          refine V2_get (v := F 2 4) d_Car_tells_61 fl_Car_22 (by decide) rfl (by decide) rfl rfl ?_
          refine V2_topi (fun v99 ev99 => ?_)
          refine V2_ireturn d_Car_tells_64 rfl ?_
          refine V2.to (st' := [.int v99]) ?_ rfl rfl rfl rfl
          refine V2_istore_n (i := 3) (l' := [some (.ref 0), some (.int w), some (.int v), some (.int v99)]) d_P_car_25 rfl (xst_i (Nat.le_of_ble_eq_true rfl) rfl rfl) ?_
          refine V2_aload_n (i := 0) d_P_car_26 rfl rfl ?_
          refine V2_getr (a := 1) d_P_car_27 fl_P_10 (by decide) rfl (by decide) rfl ?_
          refine V2_getr (a := 2) d_P_car_30 fl_P_93 (by decide) rfl (by decide) rfl ?_
          refine V2_iload_n (i := 1) d_P_car_33 rfl rfl ?_
          refine V2_iload_n (i := 2) d_P_car_34 rfl rfl ?_
          refine V2_callV [.int w, .int v] d_P_car_35 rfl rfl lk_P_129 mo_Car_alter (by decide) rfl rfl rfl (Nat.le_of_ble_eq_true rfl) (Nat.le_of_ble_eq_true rfl) ?_
          refine V2.to (l' := [some (.ref 2), some (.int w), some (.int v)]) ?_ rfl rfl rfl rfl
          refine V2_iload_n (i := 1) d_Car_alter_0 rfl rfl ?_
          by_cases c100_0 : w = 0
          · refine V2_tableIn (tgt := 36) (off := 35) d_Car_alter_1 (by rw [c100_0]; decide) (by rw [c100_0]; decide) (by rw [c100_0]; decide) rfl ?_
            refine V2_aload_n (i := 0) d_Car_alter_36 rfl rfl ?_
            refine V2_iload_n (i := 2) d_Car_alter_37 rfl rfl ?_
            refine V2_put d_Car_alter_38 fl_Car_7 (by decide) rfl (by decide) rfl ?_
            refine V2_goto (tgt := 76) d_Car_alter_41 rfl ?_
            refine V2_return d_Car_alter_76 rfl ?_
            refine V2.to (st' := []) ?_ rfl rfl rfl rfl
            refine V2_iload_n (i := 3) d_P_car_38 rfl rfl ?_
            refine V2_ireturn d_P_car_39 rfl ?_
            exact absurd (by rw [c1_4]; decide) hw
          by_cases c100_1 : w = 1
          · refine V2_tableIn (tgt := 44) (off := 43) d_Car_alter_1 (by rw [c100_1]; decide) (by rw [c100_1]; decide) (by rw [c100_1]; decide) rfl ?_
            refine V2_aload_n (i := 0) d_Car_alter_44 rfl rfl ?_
            refine V2_iload_n (i := 2) d_Car_alter_45 rfl rfl ?_
            refine V2_put d_Car_alter_46 fl_Car_13 (by decide) rfl (by decide) rfl ?_
            refine V2_goto (tgt := 76) d_Car_alter_49 rfl ?_
            refine V2_return d_Car_alter_76 rfl ?_
            refine V2.to (st' := []) ?_ rfl rfl rfl rfl
            refine V2_iload_n (i := 3) d_P_car_38 rfl rfl ?_
            refine V2_ireturn d_P_car_39 rfl ?_
            exact absurd (by rw [c1_4]; decide) hw
          by_cases c100_2 : w = 2
          · refine V2_tableIn (tgt := 52) (off := 51) d_Car_alter_1 (by rw [c100_2]; decide) (by rw [c100_2]; decide) (by rw [c100_2]; decide) rfl ?_
            refine V2_aload_n (i := 0) d_Car_alter_52 rfl rfl ?_
            refine V2_iload_n (i := 2) d_Car_alter_53 rfl rfl ?_
            refine V2_put d_Car_alter_54 fl_Car_16 (by decide) rfl (by decide) rfl ?_
            refine V2_goto (tgt := 76) d_Car_alter_57 rfl ?_
            refine V2_return d_Car_alter_76 rfl ?_
            refine V2.to (st' := []) ?_ rfl rfl rfl rfl
            refine V2_iload_n (i := 3) d_P_car_38 rfl rfl ?_
            refine V2_ireturn d_P_car_39 rfl ?_
            exact absurd (by rw [c1_4]; decide) hw
          by_cases c100_3 : w = 3
          · refine V2_tableIn (tgt := 60) (off := 59) d_Car_alter_1 (by rw [c100_3]; decide) (by rw [c100_3]; decide) (by rw [c100_3]; decide) rfl ?_
            refine V2_aload_n (i := 0) d_Car_alter_60 rfl rfl ?_
            refine V2_iload_n (i := 2) d_Car_alter_61 rfl rfl ?_
            refine V2_put d_Car_alter_62 fl_Car_19 (by decide) rfl (by decide) rfl ?_
            refine V2_goto (tgt := 76) d_Car_alter_65 rfl ?_
            refine V2_return d_Car_alter_76 rfl ?_
            refine V2.to (st' := []) ?_ rfl rfl rfl rfl
            refine V2_iload_n (i := 3) d_P_car_38 rfl rfl ?_
            refine V2_ireturn d_P_car_39 rfl ?_
            exact absurd (by rw [c1_4]; decide) hw
          by_cases c100_4 : w = 4
          · refine V2_tableIn (tgt := 68) (off := 67) d_Car_alter_1 (by rw [c100_4]; decide) (by rw [c100_4]; decide) (by rw [c100_4]; decide) rfl ?_
            refine V2_aload_n (i := 0) d_Car_alter_68 rfl rfl ?_
            refine V2_iload_n (i := 2) d_Car_alter_69 rfl rfl ?_
            refine V2_put d_Car_alter_70 fl_Car_22 (by decide) rfl (by decide) rfl ?_
            refine V2_goto (tgt := 76) d_Car_alter_73 rfl ?_
            refine V2_return d_Car_alter_76 rfl ?_
            refine V2.to (st' := []) ?_ rfl rfl rfl rfl
            refine V2_iload_n (i := 3) d_P_car_38 rfl rfl ?_
            refine V2_ireturn d_P_car_39 rfl ?_
            exact absurd (by rw [c1_4]; decide) hw
          refine V2_tableOut (tgt := 76) d_Car_alter_1 (by have := lv_neT (a := 0) c100_0 rfl; have := lv_neT (a := 1) c100_1 rfl; have := lv_neT (a := 2) c100_2 rfl; have := lv_neT (a := 3) c100_3 rfl; have := lv_neT (a := 4) c100_4 rfl; omega) rfl ?_
          refine V2_return d_Car_alter_76 rfl ?_
          refine V2.to (st' := []) ?_ rfl rfl rfl rfl
          refine V2_iload_n (i := 3) d_P_car_38 rfl rfl ?_
          refine V2_ireturn d_P_car_39 rfl ?_
          exact absurd (by rw [c1_4]; decide) hw
        by_cases c90_5 : w = 5
        · refine V2_tableIn (tgt := 65) (off := 64) d_Car_tells_1 (by rw [c90_5]; decide) (by rw [c90_5]; decide) (by rw [c90_5]; decide) rfl ?_
          refine V2_aload_n (i := 0) d_Car_tells_65 rfl rfl ?_
          refine V2_get (v := F 2 7) d_Car_tells_66 fl_Car_31 (by decide) rfl (by decide) rfl rfl ?_
          refine V2_topi (fun v101 ev101 => ?_)
          refine V2_if_eq (tgt := 76) d_Car_tells_69 rfl (fun c102 => ?_) (fun c102 => ?_)
          · refine V2_iconst (v := 0) d_Car_tells_76 rfl ?_
            refine V2_ireturn d_Car_tells_77 rfl ?_
            refine V2.to (st' := [.int (0 : Int32)]) ?_ rfl rfl rfl rfl
            refine V2_istore_n (i := 3) (l' := [some (.ref 0), some (.int w), some (.int v), some (.int (0 : Int32))]) d_P_car_25 rfl (xst_i (Nat.le_of_ble_eq_true rfl) rfl rfl) ?_
            refine V2_aload_n (i := 0) d_P_car_26 rfl rfl ?_
            refine V2_getr (a := 1) d_P_car_27 fl_P_10 (by decide) rfl (by decide) rfl ?_
            refine V2_getr (a := 2) d_P_car_30 fl_P_93 (by decide) rfl (by decide) rfl ?_
            refine V2_iload_n (i := 1) d_P_car_33 rfl rfl ?_
            refine V2_iload_n (i := 2) d_P_car_34 rfl rfl ?_
            refine V2_callV [.int w, .int v] d_P_car_35 rfl rfl lk_P_129 mo_Car_alter (by decide) rfl rfl rfl (Nat.le_of_ble_eq_true rfl) (Nat.le_of_ble_eq_true rfl) ?_
            refine V2.to (l' := [some (.ref 2), some (.int w), some (.int v)]) ?_ rfl rfl rfl rfl
            refine V2_iload_n (i := 1) d_Car_alter_0 rfl rfl ?_
            by_cases c103_0 : w = 0
            · refine V2_tableIn (tgt := 36) (off := 35) d_Car_alter_1 (by rw [c103_0]; decide) (by rw [c103_0]; decide) (by rw [c103_0]; decide) rfl ?_
              refine V2_aload_n (i := 0) d_Car_alter_36 rfl rfl ?_
              refine V2_iload_n (i := 2) d_Car_alter_37 rfl rfl ?_
              refine V2_put d_Car_alter_38 fl_Car_7 (by decide) rfl (by decide) rfl ?_
              refine V2_goto (tgt := 76) d_Car_alter_41 rfl ?_
              refine V2_return d_Car_alter_76 rfl ?_
              refine V2.to (st' := []) ?_ rfl rfl rfl rfl
              refine V2_iload_n (i := 3) d_P_car_38 rfl rfl ?_
              refine V2_ireturn d_P_car_39 rfl ?_
              exact absurd (by rw [c1_4]; decide) hw
            by_cases c103_1 : w = 1
            · refine V2_tableIn (tgt := 44) (off := 43) d_Car_alter_1 (by rw [c103_1]; decide) (by rw [c103_1]; decide) (by rw [c103_1]; decide) rfl ?_
              refine V2_aload_n (i := 0) d_Car_alter_44 rfl rfl ?_
              refine V2_iload_n (i := 2) d_Car_alter_45 rfl rfl ?_
              refine V2_put d_Car_alter_46 fl_Car_13 (by decide) rfl (by decide) rfl ?_
              refine V2_goto (tgt := 76) d_Car_alter_49 rfl ?_
              refine V2_return d_Car_alter_76 rfl ?_
              refine V2.to (st' := []) ?_ rfl rfl rfl rfl
              refine V2_iload_n (i := 3) d_P_car_38 rfl rfl ?_
              refine V2_ireturn d_P_car_39 rfl ?_
              exact absurd (by rw [c1_4]; decide) hw
            by_cases c103_2 : w = 2
            · refine V2_tableIn (tgt := 52) (off := 51) d_Car_alter_1 (by rw [c103_2]; decide) (by rw [c103_2]; decide) (by rw [c103_2]; decide) rfl ?_
              refine V2_aload_n (i := 0) d_Car_alter_52 rfl rfl ?_
              refine V2_iload_n (i := 2) d_Car_alter_53 rfl rfl ?_
              refine V2_put d_Car_alter_54 fl_Car_16 (by decide) rfl (by decide) rfl ?_
              refine V2_goto (tgt := 76) d_Car_alter_57 rfl ?_
              refine V2_return d_Car_alter_76 rfl ?_
              refine V2.to (st' := []) ?_ rfl rfl rfl rfl
              refine V2_iload_n (i := 3) d_P_car_38 rfl rfl ?_
              refine V2_ireturn d_P_car_39 rfl ?_
              exact absurd (by rw [c1_4]; decide) hw
            by_cases c103_3 : w = 3
            · refine V2_tableIn (tgt := 60) (off := 59) d_Car_alter_1 (by rw [c103_3]; decide) (by rw [c103_3]; decide) (by rw [c103_3]; decide) rfl ?_
              refine V2_aload_n (i := 0) d_Car_alter_60 rfl rfl ?_
              refine V2_iload_n (i := 2) d_Car_alter_61 rfl rfl ?_
              refine V2_put d_Car_alter_62 fl_Car_19 (by decide) rfl (by decide) rfl ?_
              refine V2_goto (tgt := 76) d_Car_alter_65 rfl ?_
              refine V2_return d_Car_alter_76 rfl ?_
              refine V2.to (st' := []) ?_ rfl rfl rfl rfl
              refine V2_iload_n (i := 3) d_P_car_38 rfl rfl ?_
              refine V2_ireturn d_P_car_39 rfl ?_
              exact absurd (by rw [c1_4]; decide) hw
            by_cases c103_4 : w = 4
            · refine V2_tableIn (tgt := 68) (off := 67) d_Car_alter_1 (by rw [c103_4]; decide) (by rw [c103_4]; decide) (by rw [c103_4]; decide) rfl ?_
              refine V2_aload_n (i := 0) d_Car_alter_68 rfl rfl ?_
              refine V2_iload_n (i := 2) d_Car_alter_69 rfl rfl ?_
              refine V2_put d_Car_alter_70 fl_Car_22 (by decide) rfl (by decide) rfl ?_
              refine V2_goto (tgt := 76) d_Car_alter_73 rfl ?_
              refine V2_return d_Car_alter_76 rfl ?_
              refine V2.to (st' := []) ?_ rfl rfl rfl rfl
              refine V2_iload_n (i := 3) d_P_car_38 rfl rfl ?_
              refine V2_ireturn d_P_car_39 rfl ?_
              exact absurd (by rw [c1_4]; decide) hw
            refine V2_tableOut (tgt := 76) d_Car_alter_1 (by have := lv_neT (a := 0) c103_0 rfl; have := lv_neT (a := 1) c103_1 rfl; have := lv_neT (a := 2) c103_2 rfl; have := lv_neT (a := 3) c103_3 rfl; have := lv_neT (a := 4) c103_4 rfl; omega) rfl ?_
            refine V2_return d_Car_alter_76 rfl ?_
            refine V2.to (st' := []) ?_ rfl rfl rfl rfl
            refine V2_iload_n (i := 3) d_P_car_38 rfl rfl ?_
            refine V2_ireturn d_P_car_39 rfl ?_
            exact absurd (by rw [c1_4]; decide) hw
          · refine V2_iconst (v := 1) d_Car_tells_72 rfl ?_
            refine V2_goto (tgt := 77) d_Car_tells_73 rfl ?_
            refine V2_ireturn d_Car_tells_77 rfl ?_
            refine V2.to (st' := [.int (1 : Int32)]) ?_ rfl rfl rfl rfl
            refine V2_istore_n (i := 3) (l' := [some (.ref 0), some (.int w), some (.int v), some (.int (1 : Int32))]) d_P_car_25 rfl (xst_i (Nat.le_of_ble_eq_true rfl) rfl rfl) ?_
            refine V2_aload_n (i := 0) d_P_car_26 rfl rfl ?_
            refine V2_getr (a := 1) d_P_car_27 fl_P_10 (by decide) rfl (by decide) rfl ?_
            refine V2_getr (a := 2) d_P_car_30 fl_P_93 (by decide) rfl (by decide) rfl ?_
            refine V2_iload_n (i := 1) d_P_car_33 rfl rfl ?_
            refine V2_iload_n (i := 2) d_P_car_34 rfl rfl ?_
            refine V2_callV [.int w, .int v] d_P_car_35 rfl rfl lk_P_129 mo_Car_alter (by decide) rfl rfl rfl (Nat.le_of_ble_eq_true rfl) (Nat.le_of_ble_eq_true rfl) ?_
            refine V2.to (l' := [some (.ref 2), some (.int w), some (.int v)]) ?_ rfl rfl rfl rfl
            refine V2_iload_n (i := 1) d_Car_alter_0 rfl rfl ?_
            by_cases c104_0 : w = 0
            · refine V2_tableIn (tgt := 36) (off := 35) d_Car_alter_1 (by rw [c104_0]; decide) (by rw [c104_0]; decide) (by rw [c104_0]; decide) rfl ?_
              refine V2_aload_n (i := 0) d_Car_alter_36 rfl rfl ?_
              refine V2_iload_n (i := 2) d_Car_alter_37 rfl rfl ?_
              refine V2_put d_Car_alter_38 fl_Car_7 (by decide) rfl (by decide) rfl ?_
              refine V2_goto (tgt := 76) d_Car_alter_41 rfl ?_
              refine V2_return d_Car_alter_76 rfl ?_
              refine V2.to (st' := []) ?_ rfl rfl rfl rfl
              refine V2_iload_n (i := 3) d_P_car_38 rfl rfl ?_
              refine V2_ireturn d_P_car_39 rfl ?_
              exact absurd (by rw [c1_4]; decide) hw
            by_cases c104_1 : w = 1
            · refine V2_tableIn (tgt := 44) (off := 43) d_Car_alter_1 (by rw [c104_1]; decide) (by rw [c104_1]; decide) (by rw [c104_1]; decide) rfl ?_
              refine V2_aload_n (i := 0) d_Car_alter_44 rfl rfl ?_
              refine V2_iload_n (i := 2) d_Car_alter_45 rfl rfl ?_
              refine V2_put d_Car_alter_46 fl_Car_13 (by decide) rfl (by decide) rfl ?_
              refine V2_goto (tgt := 76) d_Car_alter_49 rfl ?_
              refine V2_return d_Car_alter_76 rfl ?_
              refine V2.to (st' := []) ?_ rfl rfl rfl rfl
              refine V2_iload_n (i := 3) d_P_car_38 rfl rfl ?_
              refine V2_ireturn d_P_car_39 rfl ?_
              exact absurd (by rw [c1_4]; decide) hw
            by_cases c104_2 : w = 2
            · refine V2_tableIn (tgt := 52) (off := 51) d_Car_alter_1 (by rw [c104_2]; decide) (by rw [c104_2]; decide) (by rw [c104_2]; decide) rfl ?_
              refine V2_aload_n (i := 0) d_Car_alter_52 rfl rfl ?_
              refine V2_iload_n (i := 2) d_Car_alter_53 rfl rfl ?_
              refine V2_put d_Car_alter_54 fl_Car_16 (by decide) rfl (by decide) rfl ?_
              refine V2_goto (tgt := 76) d_Car_alter_57 rfl ?_
              refine V2_return d_Car_alter_76 rfl ?_
              refine V2.to (st' := []) ?_ rfl rfl rfl rfl
              refine V2_iload_n (i := 3) d_P_car_38 rfl rfl ?_
              refine V2_ireturn d_P_car_39 rfl ?_
              exact absurd (by rw [c1_4]; decide) hw
            by_cases c104_3 : w = 3
            · refine V2_tableIn (tgt := 60) (off := 59) d_Car_alter_1 (by rw [c104_3]; decide) (by rw [c104_3]; decide) (by rw [c104_3]; decide) rfl ?_
              refine V2_aload_n (i := 0) d_Car_alter_60 rfl rfl ?_
              refine V2_iload_n (i := 2) d_Car_alter_61 rfl rfl ?_
              refine V2_put d_Car_alter_62 fl_Car_19 (by decide) rfl (by decide) rfl ?_
              refine V2_goto (tgt := 76) d_Car_alter_65 rfl ?_
              refine V2_return d_Car_alter_76 rfl ?_
              refine V2.to (st' := []) ?_ rfl rfl rfl rfl
              refine V2_iload_n (i := 3) d_P_car_38 rfl rfl ?_
              refine V2_ireturn d_P_car_39 rfl ?_
              exact absurd (by rw [c1_4]; decide) hw
            by_cases c104_4 : w = 4
            · refine V2_tableIn (tgt := 68) (off := 67) d_Car_alter_1 (by rw [c104_4]; decide) (by rw [c104_4]; decide) (by rw [c104_4]; decide) rfl ?_
              refine V2_aload_n (i := 0) d_Car_alter_68 rfl rfl ?_
              refine V2_iload_n (i := 2) d_Car_alter_69 rfl rfl ?_
              refine V2_put d_Car_alter_70 fl_Car_22 (by decide) rfl (by decide) rfl ?_
              refine V2_goto (tgt := 76) d_Car_alter_73 rfl ?_
              refine V2_return d_Car_alter_76 rfl ?_
              refine V2.to (st' := []) ?_ rfl rfl rfl rfl
              refine V2_iload_n (i := 3) d_P_car_38 rfl rfl ?_
              refine V2_ireturn d_P_car_39 rfl ?_
              exact absurd (by rw [c1_4]; decide) hw
            refine V2_tableOut (tgt := 76) d_Car_alter_1 (by have := lv_neT (a := 0) c104_0 rfl; have := lv_neT (a := 1) c104_1 rfl; have := lv_neT (a := 2) c104_2 rfl; have := lv_neT (a := 3) c104_3 rfl; have := lv_neT (a := 4) c104_4 rfl; omega) rfl ?_
            refine V2_return d_Car_alter_76 rfl ?_
            refine V2.to (st' := []) ?_ rfl rfl rfl rfl
            refine V2_iload_n (i := 3) d_P_car_38 rfl rfl ?_
            refine V2_ireturn d_P_car_39 rfl ?_
            exact absurd (by rw [c1_4]; decide) hw
        refine V2_tableOut (tgt := 78) d_Car_tells_1 (by have := lv_neT (a := 0) c90_0 rfl; have := lv_neT (a := 1) c90_1 rfl; have := lv_neT (a := 2) c90_2 rfl; have := lv_neT (a := 3) c90_3 rfl; have := lv_neT (a := 4) c90_4 rfl; have := lv_neT (a := 5) c90_5 rfl; omega) rfl ?_
        refine V2_aload_n (i := 0) d_Car_tells_78 rfl rfl ?_
        refine V2_get (v := F 2 6) d_Car_tells_79 fl_Car_28 (by decide) rfl (by decide) rfl rfl ?_
        refine V2_topi (fun v105 ev105 => ?_)
        refine V2_ireturn d_Car_tells_82 rfl ?_
        refine V2.to (st' := [.int v105]) ?_ rfl rfl rfl rfl
        refine V2_istore_n (i := 3) (l' := [some (.ref 0), some (.int w), some (.int v), some (.int v105)]) d_P_car_25 rfl (xst_i (Nat.le_of_ble_eq_true rfl) rfl rfl) ?_
        refine V2_aload_n (i := 0) d_P_car_26 rfl rfl ?_
        refine V2_getr (a := 1) d_P_car_27 fl_P_10 (by decide) rfl (by decide) rfl ?_
        refine V2_getr (a := 2) d_P_car_30 fl_P_93 (by decide) rfl (by decide) rfl ?_
        refine V2_iload_n (i := 1) d_P_car_33 rfl rfl ?_
        refine V2_iload_n (i := 2) d_P_car_34 rfl rfl ?_
        refine V2_callV [.int w, .int v] d_P_car_35 rfl rfl lk_P_129 mo_Car_alter (by decide) rfl rfl rfl (Nat.le_of_ble_eq_true rfl) (Nat.le_of_ble_eq_true rfl) ?_
        refine V2.to (l' := [some (.ref 2), some (.int w), some (.int v)]) ?_ rfl rfl rfl rfl
        refine V2_iload_n (i := 1) d_Car_alter_0 rfl rfl ?_
        by_cases c106_0 : w = 0
        · refine V2_tableIn (tgt := 36) (off := 35) d_Car_alter_1 (by rw [c106_0]; decide) (by rw [c106_0]; decide) (by rw [c106_0]; decide) rfl ?_
          refine V2_aload_n (i := 0) d_Car_alter_36 rfl rfl ?_
          refine V2_iload_n (i := 2) d_Car_alter_37 rfl rfl ?_
          refine V2_put d_Car_alter_38 fl_Car_7 (by decide) rfl (by decide) rfl ?_
          refine V2_goto (tgt := 76) d_Car_alter_41 rfl ?_
          refine V2_return d_Car_alter_76 rfl ?_
          refine V2.to (st' := []) ?_ rfl rfl rfl rfl
          refine V2_iload_n (i := 3) d_P_car_38 rfl rfl ?_
          refine V2_ireturn d_P_car_39 rfl ?_
          exact absurd (by rw [c1_4]; decide) hw
        by_cases c106_1 : w = 1
        · refine V2_tableIn (tgt := 44) (off := 43) d_Car_alter_1 (by rw [c106_1]; decide) (by rw [c106_1]; decide) (by rw [c106_1]; decide) rfl ?_
          refine V2_aload_n (i := 0) d_Car_alter_44 rfl rfl ?_
          refine V2_iload_n (i := 2) d_Car_alter_45 rfl rfl ?_
          refine V2_put d_Car_alter_46 fl_Car_13 (by decide) rfl (by decide) rfl ?_
          refine V2_goto (tgt := 76) d_Car_alter_49 rfl ?_
          refine V2_return d_Car_alter_76 rfl ?_
          refine V2.to (st' := []) ?_ rfl rfl rfl rfl
          refine V2_iload_n (i := 3) d_P_car_38 rfl rfl ?_
          refine V2_ireturn d_P_car_39 rfl ?_
          exact absurd (by rw [c1_4]; decide) hw
        by_cases c106_2 : w = 2
        · refine V2_tableIn (tgt := 52) (off := 51) d_Car_alter_1 (by rw [c106_2]; decide) (by rw [c106_2]; decide) (by rw [c106_2]; decide) rfl ?_
          refine V2_aload_n (i := 0) d_Car_alter_52 rfl rfl ?_
          refine V2_iload_n (i := 2) d_Car_alter_53 rfl rfl ?_
          refine V2_put d_Car_alter_54 fl_Car_16 (by decide) rfl (by decide) rfl ?_
          refine V2_goto (tgt := 76) d_Car_alter_57 rfl ?_
          refine V2_return d_Car_alter_76 rfl ?_
          refine V2.to (st' := []) ?_ rfl rfl rfl rfl
          refine V2_iload_n (i := 3) d_P_car_38 rfl rfl ?_
          refine V2_ireturn d_P_car_39 rfl ?_
          exact absurd (by rw [c1_4]; decide) hw
        by_cases c106_3 : w = 3
        · refine V2_tableIn (tgt := 60) (off := 59) d_Car_alter_1 (by rw [c106_3]; decide) (by rw [c106_3]; decide) (by rw [c106_3]; decide) rfl ?_
          refine V2_aload_n (i := 0) d_Car_alter_60 rfl rfl ?_
          refine V2_iload_n (i := 2) d_Car_alter_61 rfl rfl ?_
          refine V2_put d_Car_alter_62 fl_Car_19 (by decide) rfl (by decide) rfl ?_
          refine V2_goto (tgt := 76) d_Car_alter_65 rfl ?_
          refine V2_return d_Car_alter_76 rfl ?_
          refine V2.to (st' := []) ?_ rfl rfl rfl rfl
          refine V2_iload_n (i := 3) d_P_car_38 rfl rfl ?_
          refine V2_ireturn d_P_car_39 rfl ?_
          exact absurd (by rw [c1_4]; decide) hw
        by_cases c106_4 : w = 4
        · refine V2_tableIn (tgt := 68) (off := 67) d_Car_alter_1 (by rw [c106_4]; decide) (by rw [c106_4]; decide) (by rw [c106_4]; decide) rfl ?_
          refine V2_aload_n (i := 0) d_Car_alter_68 rfl rfl ?_
          refine V2_iload_n (i := 2) d_Car_alter_69 rfl rfl ?_
          refine V2_put d_Car_alter_70 fl_Car_22 (by decide) rfl (by decide) rfl ?_
          refine V2_goto (tgt := 76) d_Car_alter_73 rfl ?_
          refine V2_return d_Car_alter_76 rfl ?_
          refine V2.to (st' := []) ?_ rfl rfl rfl rfl
          refine V2_iload_n (i := 3) d_P_car_38 rfl rfl ?_
          refine V2_ireturn d_P_car_39 rfl ?_
          exact absurd (by rw [c1_4]; decide) hw
        refine V2_tableOut (tgt := 76) d_Car_alter_1 (by have := lv_neT (a := 0) c106_0 rfl; have := lv_neT (a := 1) c106_1 rfl; have := lv_neT (a := 2) c106_2 rfl; have := lv_neT (a := 3) c106_3 rfl; have := lv_neT (a := 4) c106_4 rfl; omega) rfl ?_
        refine V2_return d_Car_alter_76 rfl ?_
        refine V2.to (st' := []) ?_ rfl rfl rfl rfl
        refine V2_iload_n (i := 3) d_P_car_38 rfl rfl ?_
        refine V2_ireturn d_P_car_39 rfl ?_
        exact absurd (by rw [c1_4]; decide) hw
  refine V2_tableOut (tgt := 59) d_Car_canBecome_1 (by have := lv_neT (a := 0) c1_0 rfl; have := lv_neT (a := 1) c1_1 rfl; have := lv_neT (a := 2) c1_2 rfl; have := lv_neT (a := 3) c1_3 rfl; have := lv_neT (a := 4) c1_4 rfl; omega) rfl ?_
  refine V2_iconst (v := 0) d_Car_canBecome_59 rfl ?_
  refine V2_zreturn d_Car_canBecome_60 rfl (by decide) ?_
  refine V2.to (st' := [.int (0 : Int32)]) ?_ rfl rfl rfl rfl
  refine V2_if_ne (tgt := 14) d_P_car_5 rfl (fun c => (by first | exact absurd c (by decide) | exact absurd (by decide) c)) (fun _ => ?_)
  refine V2_aload_n (i := 0) d_P_car_8 rfl rfl ?_
  refine V2_iconst (v := 1) d_P_car_9 rfl ?_
  refine V2_callV [.int (1 : Int32)] d_P_car_10 rfl rfl lk_P_66 mo_P_fails (by decide) rfl rfl rfl (Nat.le_of_ble_eq_true rfl) (Nat.le_of_ble_eq_true rfl) ?_
  refine c_P_fails1 ?_
  refine V2_topi (fun v107 ev107 => ?_)
  refine V2_ireturn d_P_car_13 rfl ?_
  have e : k_car F w v = (-1000000000 - 1, errF F 1) := by unfold k_car; rw [if_neg (fun h => hw (by rw [h.1]; decide)), if_neg (fun h => hw (by rw [h.1]; decide)), if_neg (fun h => hw (by rw [h.1]; decide)), if_neg (fun h => hw (by rw [h.1]; decide)), if_neg (fun h => hw (by rw [h.1]; decide))]
  rw [e] at hQ
  subst ev107
  exact xQi (hQ _ (mid_err hR (by decide))) rfl rfl
theorem c_mod_car5 {L : Nat} {xs : Nat → Int32} {d : Nat} {Q : Option Value → xF → Prop} {F : xF} {w v : Int32} {F0 : xF} (hR : Rel F0) (hM : Mid F0 F (k_car F0 w v).2) (hw : ¬ (0 ≤ w ∧ w ≤ 4)) (hQ : ∀ F2, Rel F2 → Q (some (.int (k_car F0 w v).1)) F2) : V2 L xs (d + 2) m_R_car 0 (xEntry [.ref 65, .int w, .int v] 3) [] F Q := by
  have q0 : (0 : Int32).toInt = 0 := by decide
  have q1 : (1 : Int32).toInt = 1 := by decide
  have q2 : (2 : Int32).toInt = 2 := by decide
  have q3 : (3 : Int32).toInt = 3 := by decide
  have q4 : (4 : Int32).toInt = 4 := by decide
  have q5 : (5 : Int32).toInt = 5 := by decide
  have q6 : (6 : Int32).toInt = 6 := by decide
  have q7 : (7 : Int32).toInt = 7 := by decide
  have q9 : (9 : Int32).toInt = 9 := by decide
  have q20 : (20 : Int32).toInt = 20 := by decide
  have q30 : (30 : Int32).toInt = 30 := by decide
  have q60 : (60 : Int32).toInt = 60 := by decide
  have q99 : (99 : Int32).toInt = 99 := by decide
  refine V2.to (l' := [some (.ref 65), some (.int w), some (.int v)]) ?_ rfl rfl rfl rfl
  refine V2_iload_n (i := 1) d_R_car_0 rfl rfl ?_
  refine V2_iconst (v := 0) d_R_car_1 rfl ?_
  refine V2_iconst (v := 4) d_R_car_2 rfl ?_
  refine V2_callS [.int w, .int (0 : Int32), .int (4 : Int32)] d_R_car_3 rfl rfl lk_R_51 mo_R_in (Nat.le_of_ble_eq_true rfl) (Nat.le_of_ble_eq_true rfl) ?_
  refine c_R_in ?_
  refine V2_topi (fun v1 ev1 => ?_)
  refine V2_if_eq (tgt := 26) d_R_car_6 rfl (fun c2 => ?_) (fun c2 => ?_)
  · refine V2_aload_n (i := 0) d_R_car_26 rfl rfl ?_
    refine V2_iconst (v := 1) d_R_car_27 rfl ?_
    refine V2_callV [.int (1 : Int32)] d_R_car_28 rfl rfl lk_R_55 mo_R_error (by decide) rfl rfl rfl (Nat.le_of_ble_eq_true rfl) (Nat.le_of_ble_eq_true rfl) ?_
    refine c_R_error1 ?_
    refine V2_topi (fun v3 ev3 => ?_)
    refine V2_ireturn d_R_car_31 rfl ?_
    have e : k_car F0 w v = (-1000000000 - 1, errF F0 1) := by unfold k_car; rw [if_neg (fun h => hw (by rw [h.1]; decide)), if_neg (fun h => hw (by rw [h.1]; decide)), if_neg (fun h => hw (by rw [h.1]; decide)), if_neg (fun h => hw (by rw [h.1]; decide)), if_neg (fun h => hw (by rw [h.1]; decide))]
    rw [e] at hQ hM
    subst ev3 ev1
    exact xQi (hQ _ (rel_err hR hM)) rfl rfl
  · refine V2_iload_n (i := 1) d_R_car_9 rfl rfl ?_
    refine V2_iload_n (i := 2) d_R_car_10 rfl rfl ?_
    refine V2_callS [.int w, .int v] d_R_car_11 rfl rfl lk_R_177 mo_R_isOfCar (Nat.le_of_ble_eq_true rfl) (Nat.le_of_ble_eq_true rfl) ?_
    refine V2.to (l' := [some (.int w), some (.int v)]) ?_ rfl rfl rfl rfl
    refine V2_iload_n (i := 1) d_R_isOfCar_0 rfl rfl ?_
    refine V2_iload_n (i := 0) d_R_isOfCar_1 rfl rfl ?_
    refine V2_if_ne (tgt := 9) d_R_isOfCar_2 rfl (fun c4 => ?_) (fun c4 => ?_)
    · refine V2_iconst (v := 0) d_R_isOfCar_9 rfl ?_
      refine V2_iload_n (i := 0) d_R_isOfCar_10 rfl rfl ?_
      refine V2_if_ne (tgt := 19) d_R_isOfCar_11 rfl (fun c5 => ?_) (fun c5 => ?_)
      · refine V2_iload_n (i := 0) d_R_isOfCar_19 rfl rfl ?_
        refine V2_iconst (v := 3) d_R_isOfCar_20 rfl ?_
        refine V2_icmp_ne (tgt := 28) d_R_isOfCar_21 rfl (fun c6 => ?_) (fun c6 => ?_)
        · refine V2_bipush (v := 99) d_R_isOfCar_28 rfl ?_
          refine V2_callS [.int v, .int (0 : Int32), .int (99 : Int32)] d_R_isOfCar_30 rfl rfl lk_R_51 mo_R_in (Nat.le_of_ble_eq_true rfl) (Nat.le_of_ble_eq_true rfl) ?_
          refine c_R_in ?_
          refine V2_topi (fun v7 ev7 => ?_)
          refine V2_zreturn d_R_isOfCar_33 rfl (by rw [ev7]; exact xb_01) ?_
          refine V2.to (st' := [.int v7]) ?_ rfl rfl rfl rfl
          refine V2_if_eq (tgt := 26) d_R_car_14 rfl (fun c8 => ?_) (fun c8 => ?_)
          · refine V2_aload_n (i := 0) d_R_car_26 rfl rfl ?_
            refine V2_iconst (v := 1) d_R_car_27 rfl ?_
            refine V2_callV [.int (1 : Int32)] d_R_car_28 rfl rfl lk_R_55 mo_R_error (by decide) rfl rfl rfl (Nat.le_of_ble_eq_true rfl) (Nat.le_of_ble_eq_true rfl) ?_
            refine c_R_error1 ?_
            refine V2_topi (fun v9 ev9 => ?_)
            refine V2_ireturn d_R_car_31 rfl ?_
            have e : k_car F0 w v = (-1000000000 - 1, errF F0 1) := by unfold k_car; rw [if_neg (fun h => hw (by rw [h.1]; decide)), if_neg (fun h => hw (by rw [h.1]; decide)), if_neg (fun h => hw (by rw [h.1]; decide)), if_neg (fun h => hw (by rw [h.1]; decide)), if_neg (fun h => hw (by rw [h.1]; decide))]
            rw [e] at hQ hM
            subst ev9 ev7 ev1
            exact xQi (hQ _ (rel_err hR hM)) rfl rfl
          · refine V2_aload_n (i := 0) d_R_car_17 rfl rfl ?_
            refine V2_iload_n (i := 1) d_R_car_18 rfl rfl ?_
            refine V2_iload_n (i := 2) d_R_car_19 rfl rfl ?_
            refine V2_callV [.int w, .int v] d_R_car_20 rfl rfl lk_R_171 mo_R_change1 (by decide) rfl rfl rfl (Nat.le_of_ble_eq_true rfl) (Nat.le_of_ble_eq_true rfl) ?_
            refine V2.to (l' := [some (.ref 65), some (.int w), some (.int v), none]) ?_ rfl rfl rfl rfl
            refine V2_aload_n (i := 0) d_R_change1_0 rfl rfl ?_
            refine V2_getr (a := 66) d_R_change1_1 fl_R_7 (by decide) rfl (by decide) rfl ?_
            refine V2_iload_n (i := 1) d_R_change1_4 rfl rfl ?_
            refine V2_ialoadJ w.toNatClampNeg d_R_change1_5 (by decide) rfl (vin_of (by clear hQ; (try (subst ev7 ev1)); (try simp only [xb_eq, xb_ne, Int32.lt_iff_toInt_lt, Int32.le_iff_toInt_le] at *); omega) (by clear hQ; (try (subst ev7 ev1)); (try simp only [xb_eq, xb_ne, Int32.lt_iff_toInt_lt, Int32.le_iff_toInt_le] at *); omega)) rfl rfl ?_
            refine V2_topi (fun v10 ev10 => ?_)
            refine V2_istore_n (i := 3) (l' := [some (.ref 65), some (.int w), some (.int v), some (.int v10)]) d_R_change1_6 rfl (xst_i (Nat.le_of_ble_eq_true rfl) rfl rfl) ?_
            refine V2_aload_n (i := 0) d_R_change1_7 rfl rfl ?_
            refine V2_getr (a := 66) d_R_change1_8 fl_R_7 (by decide) rfl (by decide) rfl ?_
            refine V2_iload_n (i := 1) d_R_change1_11 rfl rfl ?_
            refine V2_iload_n (i := 2) d_R_change1_12 rfl rfl ?_
            refine V2_iastore (j := w.toNatClampNeg) d_R_change1_13 (by decide) rfl (vin_of (by clear hQ; (try (subst ev10 ev7 ev1)); (try simp only [xb_eq, xb_ne, Int32.lt_iff_toInt_lt, Int32.le_iff_toInt_le] at *); omega) (by clear hQ; (try (subst ev10 ev7 ev1)); (try simp only [xb_eq, xb_ne, Int32.lt_iff_toInt_lt, Int32.le_iff_toInt_le] at *); omega)) rfl ?_
            refine V2_iload_n (i := 3) d_R_change1_14 rfl rfl ?_
            refine V2_ireturn d_R_change1_15 rfl ?_
            refine V2.to (st' := [.int v10]) ?_ rfl rfl rfl rfl
            refine V2_goto (tgt := 31) d_R_car_23 rfl ?_
            refine V2_ireturn d_R_car_31 rfl ?_
            exfalso
            exact (by clear hQ; (try (subst ev10 ev7 ev1)); (try simp only [xb_eq, xb_ne, Int32.lt_iff_toInt_lt, Int32.le_iff_toInt_le] at *); (try simp only [← Int32.toInt_inj] at *); omega)
        · refine V2_iconst (v := 1) d_R_isOfCar_24 rfl ?_
          refine V2_goto (tgt := 30) d_R_isOfCar_25 rfl ?_
          refine V2_callS [.int v, .int (0 : Int32), .int (1 : Int32)] d_R_isOfCar_30 rfl rfl lk_R_51 mo_R_in (Nat.le_of_ble_eq_true rfl) (Nat.le_of_ble_eq_true rfl) ?_
          refine c_R_in ?_
          refine V2_topi (fun v11 ev11 => ?_)
          refine V2_zreturn d_R_isOfCar_33 rfl (by rw [ev11]; exact xb_01) ?_
          refine V2.to (st' := [.int v11]) ?_ rfl rfl rfl rfl
          refine V2_if_eq (tgt := 26) d_R_car_14 rfl (fun c12 => ?_) (fun c12 => ?_)
          · refine V2_aload_n (i := 0) d_R_car_26 rfl rfl ?_
            refine V2_iconst (v := 1) d_R_car_27 rfl ?_
            refine V2_callV [.int (1 : Int32)] d_R_car_28 rfl rfl lk_R_55 mo_R_error (by decide) rfl rfl rfl (Nat.le_of_ble_eq_true rfl) (Nat.le_of_ble_eq_true rfl) ?_
            refine c_R_error1 ?_
            refine V2_topi (fun v13 ev13 => ?_)
            refine V2_ireturn d_R_car_31 rfl ?_
            have e : k_car F0 w v = (-1000000000 - 1, errF F0 1) := by unfold k_car; rw [if_neg (fun h => hw (by rw [h.1]; decide)), if_neg (fun h => hw (by rw [h.1]; decide)), if_neg (fun h => hw (by rw [h.1]; decide)), if_neg (fun h => hw (by rw [h.1]; decide)), if_neg (fun h => hw (by rw [h.1]; decide))]
            rw [e] at hQ hM
            subst ev13 ev11 ev1
            exact xQi (hQ _ (rel_err hR hM)) rfl rfl
          · refine V2_aload_n (i := 0) d_R_car_17 rfl rfl ?_
            refine V2_iload_n (i := 1) d_R_car_18 rfl rfl ?_
            refine V2_iload_n (i := 2) d_R_car_19 rfl rfl ?_
            refine V2_callV [.int w, .int v] d_R_car_20 rfl rfl lk_R_171 mo_R_change1 (by decide) rfl rfl rfl (Nat.le_of_ble_eq_true rfl) (Nat.le_of_ble_eq_true rfl) ?_
            refine V2.to (l' := [some (.ref 65), some (.int w), some (.int v), none]) ?_ rfl rfl rfl rfl
            refine V2_aload_n (i := 0) d_R_change1_0 rfl rfl ?_
            refine V2_getr (a := 66) d_R_change1_1 fl_R_7 (by decide) rfl (by decide) rfl ?_
            refine V2_iload_n (i := 1) d_R_change1_4 rfl rfl ?_
            refine V2_ialoadJ w.toNatClampNeg d_R_change1_5 (by decide) rfl (vin_of (by clear hQ; (try (subst ev11 ev1)); (try simp only [xb_eq, xb_ne, Int32.lt_iff_toInt_lt, Int32.le_iff_toInt_le] at *); omega) (by clear hQ; (try (subst ev11 ev1)); (try simp only [xb_eq, xb_ne, Int32.lt_iff_toInt_lt, Int32.le_iff_toInt_le] at *); omega)) rfl rfl ?_
            refine V2_topi (fun v14 ev14 => ?_)
            refine V2_istore_n (i := 3) (l' := [some (.ref 65), some (.int w), some (.int v), some (.int v14)]) d_R_change1_6 rfl (xst_i (Nat.le_of_ble_eq_true rfl) rfl rfl) ?_
            refine V2_aload_n (i := 0) d_R_change1_7 rfl rfl ?_
            refine V2_getr (a := 66) d_R_change1_8 fl_R_7 (by decide) rfl (by decide) rfl ?_
            refine V2_iload_n (i := 1) d_R_change1_11 rfl rfl ?_
            refine V2_iload_n (i := 2) d_R_change1_12 rfl rfl ?_
            refine V2_iastore (j := w.toNatClampNeg) d_R_change1_13 (by decide) rfl (vin_of (by clear hQ; (try (subst ev14 ev11 ev1)); (try simp only [xb_eq, xb_ne, Int32.lt_iff_toInt_lt, Int32.le_iff_toInt_le] at *); omega) (by clear hQ; (try (subst ev14 ev11 ev1)); (try simp only [xb_eq, xb_ne, Int32.lt_iff_toInt_lt, Int32.le_iff_toInt_le] at *); omega)) rfl ?_
            refine V2_iload_n (i := 3) d_R_change1_14 rfl rfl ?_
            refine V2_ireturn d_R_change1_15 rfl ?_
            refine V2.to (st' := [.int v14]) ?_ rfl rfl rfl rfl
            refine V2_goto (tgt := 31) d_R_car_23 rfl ?_
            refine V2_ireturn d_R_car_31 rfl ?_
            exfalso
            exact (by clear hQ; (try (subst ev14 ev11 ev1)); (try simp only [xb_eq, xb_ne, Int32.lt_iff_toInt_lt, Int32.le_iff_toInt_le] at *); (try simp only [← Int32.toInt_inj] at *); omega)
      · refine V2_bipush (v := 60) d_R_isOfCar_14 rfl ?_
        refine V2_goto (tgt := 30) d_R_isOfCar_16 rfl ?_
        refine V2_callS [.int v, .int (0 : Int32), .int (60 : Int32)] d_R_isOfCar_30 rfl rfl lk_R_51 mo_R_in (Nat.le_of_ble_eq_true rfl) (Nat.le_of_ble_eq_true rfl) ?_
        refine c_R_in ?_
        refine V2_topi (fun v15 ev15 => ?_)
        refine V2_zreturn d_R_isOfCar_33 rfl (by rw [ev15]; exact xb_01) ?_
        refine V2.to (st' := [.int v15]) ?_ rfl rfl rfl rfl
        refine V2_if_eq (tgt := 26) d_R_car_14 rfl (fun c16 => ?_) (fun c16 => ?_)
        · refine V2_aload_n (i := 0) d_R_car_26 rfl rfl ?_
          refine V2_iconst (v := 1) d_R_car_27 rfl ?_
          refine V2_callV [.int (1 : Int32)] d_R_car_28 rfl rfl lk_R_55 mo_R_error (by decide) rfl rfl rfl (Nat.le_of_ble_eq_true rfl) (Nat.le_of_ble_eq_true rfl) ?_
          refine c_R_error1 ?_
          refine V2_topi (fun v17 ev17 => ?_)
          refine V2_ireturn d_R_car_31 rfl ?_
          have e : k_car F0 w v = (-1000000000 - 1, errF F0 1) := by unfold k_car; rw [if_neg (fun h => hw (by rw [h.1]; decide)), if_neg (fun h => hw (by rw [h.1]; decide)), if_neg (fun h => hw (by rw [h.1]; decide)), if_neg (fun h => hw (by rw [h.1]; decide)), if_neg (fun h => hw (by rw [h.1]; decide))]
          rw [e] at hQ hM
          subst ev17 ev15 ev1
          exact xQi (hQ _ (rel_err hR hM)) rfl rfl
        · refine V2_aload_n (i := 0) d_R_car_17 rfl rfl ?_
          refine V2_iload_n (i := 1) d_R_car_18 rfl rfl ?_
          refine V2_iload_n (i := 2) d_R_car_19 rfl rfl ?_
          refine V2_callV [.int w, .int v] d_R_car_20 rfl rfl lk_R_171 mo_R_change1 (by decide) rfl rfl rfl (Nat.le_of_ble_eq_true rfl) (Nat.le_of_ble_eq_true rfl) ?_
          refine V2.to (l' := [some (.ref 65), some (.int w), some (.int v), none]) ?_ rfl rfl rfl rfl
          refine V2_aload_n (i := 0) d_R_change1_0 rfl rfl ?_
          refine V2_getr (a := 66) d_R_change1_1 fl_R_7 (by decide) rfl (by decide) rfl ?_
          refine V2_iload_n (i := 1) d_R_change1_4 rfl rfl ?_
          refine V2_ialoadJ w.toNatClampNeg d_R_change1_5 (by decide) rfl (vin_of (by clear hQ; (try (subst ev15 ev1)); (try simp only [xb_eq, xb_ne, Int32.lt_iff_toInt_lt, Int32.le_iff_toInt_le] at *); omega) (by clear hQ; (try (subst ev15 ev1)); (try simp only [xb_eq, xb_ne, Int32.lt_iff_toInt_lt, Int32.le_iff_toInt_le] at *); omega)) rfl rfl ?_
          refine V2_topi (fun v18 ev18 => ?_)
          refine V2_istore_n (i := 3) (l' := [some (.ref 65), some (.int w), some (.int v), some (.int v18)]) d_R_change1_6 rfl (xst_i (Nat.le_of_ble_eq_true rfl) rfl rfl) ?_
          refine V2_aload_n (i := 0) d_R_change1_7 rfl rfl ?_
          refine V2_getr (a := 66) d_R_change1_8 fl_R_7 (by decide) rfl (by decide) rfl ?_
          refine V2_iload_n (i := 1) d_R_change1_11 rfl rfl ?_
          refine V2_iload_n (i := 2) d_R_change1_12 rfl rfl ?_
          refine V2_iastore (j := w.toNatClampNeg) d_R_change1_13 (by decide) rfl (vin_of (by clear hQ; (try (subst ev18 ev15 ev1)); (try simp only [xb_eq, xb_ne, Int32.lt_iff_toInt_lt, Int32.le_iff_toInt_le] at *); omega) (by clear hQ; (try (subst ev18 ev15 ev1)); (try simp only [xb_eq, xb_ne, Int32.lt_iff_toInt_lt, Int32.le_iff_toInt_le] at *); omega)) rfl ?_
          refine V2_iload_n (i := 3) d_R_change1_14 rfl rfl ?_
          refine V2_ireturn d_R_change1_15 rfl ?_
          refine V2.to (st' := [.int v18]) ?_ rfl rfl rfl rfl
          refine V2_goto (tgt := 31) d_R_car_23 rfl ?_
          refine V2_ireturn d_R_car_31 rfl ?_
          exfalso
          exact (by clear hQ; (try (subst ev18 ev15 ev1)); (try simp only [xb_eq, xb_ne, Int32.lt_iff_toInt_lt, Int32.le_iff_toInt_le] at *); (try simp only [← Int32.toInt_inj] at *); omega)
    · refine V2_iconst (v := 1) d_R_isOfCar_5 rfl ?_
      refine V2_goto (tgt := 10) d_R_isOfCar_6 rfl ?_
      refine V2_iload_n (i := 0) d_R_isOfCar_10 rfl rfl ?_
      refine V2_if_ne (tgt := 19) d_R_isOfCar_11 rfl (fun c19 => ?_) (fun c19 => ?_)
      · refine V2_iload_n (i := 0) d_R_isOfCar_19 rfl rfl ?_
        refine V2_iconst (v := 3) d_R_isOfCar_20 rfl ?_
        refine V2_icmp_ne (tgt := 28) d_R_isOfCar_21 rfl (fun c20 => ?_) (fun c20 => ?_)
        · refine V2_bipush (v := 99) d_R_isOfCar_28 rfl ?_
          refine V2_callS [.int v, .int (1 : Int32), .int (99 : Int32)] d_R_isOfCar_30 rfl rfl lk_R_51 mo_R_in (Nat.le_of_ble_eq_true rfl) (Nat.le_of_ble_eq_true rfl) ?_
          refine c_R_in ?_
          refine V2_topi (fun v21 ev21 => ?_)
          refine V2_zreturn d_R_isOfCar_33 rfl (by rw [ev21]; exact xb_01) ?_
          refine V2.to (st' := [.int v21]) ?_ rfl rfl rfl rfl
          refine V2_if_eq (tgt := 26) d_R_car_14 rfl (fun c22 => ?_) (fun c22 => ?_)
          · refine V2_aload_n (i := 0) d_R_car_26 rfl rfl ?_
            refine V2_iconst (v := 1) d_R_car_27 rfl ?_
            refine V2_callV [.int (1 : Int32)] d_R_car_28 rfl rfl lk_R_55 mo_R_error (by decide) rfl rfl rfl (Nat.le_of_ble_eq_true rfl) (Nat.le_of_ble_eq_true rfl) ?_
            refine c_R_error1 ?_
            refine V2_topi (fun v23 ev23 => ?_)
            refine V2_ireturn d_R_car_31 rfl ?_
            have e : k_car F0 w v = (-1000000000 - 1, errF F0 1) := by unfold k_car; rw [if_neg (fun h => hw (by rw [h.1]; decide)), if_neg (fun h => hw (by rw [h.1]; decide)), if_neg (fun h => hw (by rw [h.1]; decide)), if_neg (fun h => hw (by rw [h.1]; decide)), if_neg (fun h => hw (by rw [h.1]; decide))]
            rw [e] at hQ hM
            subst ev23 ev21 ev1
            exact xQi (hQ _ (rel_err hR hM)) rfl rfl
          · refine V2_aload_n (i := 0) d_R_car_17 rfl rfl ?_
            refine V2_iload_n (i := 1) d_R_car_18 rfl rfl ?_
            refine V2_iload_n (i := 2) d_R_car_19 rfl rfl ?_
            refine V2_callV [.int w, .int v] d_R_car_20 rfl rfl lk_R_171 mo_R_change1 (by decide) rfl rfl rfl (Nat.le_of_ble_eq_true rfl) (Nat.le_of_ble_eq_true rfl) ?_
            refine V2.to (l' := [some (.ref 65), some (.int w), some (.int v), none]) ?_ rfl rfl rfl rfl
            refine V2_aload_n (i := 0) d_R_change1_0 rfl rfl ?_
            refine V2_getr (a := 66) d_R_change1_1 fl_R_7 (by decide) rfl (by decide) rfl ?_
            refine V2_iload_n (i := 1) d_R_change1_4 rfl rfl ?_
            refine V2_ialoadJ w.toNatClampNeg d_R_change1_5 (by decide) rfl (vin_of (by clear hQ; (try (subst ev21 ev1)); (try simp only [xb_eq, xb_ne, Int32.lt_iff_toInt_lt, Int32.le_iff_toInt_le] at *); omega) (by clear hQ; (try (subst ev21 ev1)); (try simp only [xb_eq, xb_ne, Int32.lt_iff_toInt_lt, Int32.le_iff_toInt_le] at *); omega)) rfl rfl ?_
            refine V2_topi (fun v24 ev24 => ?_)
            refine V2_istore_n (i := 3) (l' := [some (.ref 65), some (.int w), some (.int v), some (.int v24)]) d_R_change1_6 rfl (xst_i (Nat.le_of_ble_eq_true rfl) rfl rfl) ?_
            refine V2_aload_n (i := 0) d_R_change1_7 rfl rfl ?_
            refine V2_getr (a := 66) d_R_change1_8 fl_R_7 (by decide) rfl (by decide) rfl ?_
            refine V2_iload_n (i := 1) d_R_change1_11 rfl rfl ?_
            refine V2_iload_n (i := 2) d_R_change1_12 rfl rfl ?_
            refine V2_iastore (j := w.toNatClampNeg) d_R_change1_13 (by decide) rfl (vin_of (by clear hQ; (try (subst ev24 ev21 ev1)); (try simp only [xb_eq, xb_ne, Int32.lt_iff_toInt_lt, Int32.le_iff_toInt_le] at *); omega) (by clear hQ; (try (subst ev24 ev21 ev1)); (try simp only [xb_eq, xb_ne, Int32.lt_iff_toInt_lt, Int32.le_iff_toInt_le] at *); omega)) rfl ?_
            refine V2_iload_n (i := 3) d_R_change1_14 rfl rfl ?_
            refine V2_ireturn d_R_change1_15 rfl ?_
            refine V2.to (st' := [.int v24]) ?_ rfl rfl rfl rfl
            refine V2_goto (tgt := 31) d_R_car_23 rfl ?_
            refine V2_ireturn d_R_car_31 rfl ?_
            exfalso
            exact (by clear hQ; (try (subst ev24 ev21 ev1)); (try simp only [xb_eq, xb_ne, Int32.lt_iff_toInt_lt, Int32.le_iff_toInt_le] at *); (try simp only [← Int32.toInt_inj] at *); omega)
        · refine V2_iconst (v := 1) d_R_isOfCar_24 rfl ?_
          refine V2_goto (tgt := 30) d_R_isOfCar_25 rfl ?_
          refine V2_callS [.int v, .int (1 : Int32), .int (1 : Int32)] d_R_isOfCar_30 rfl rfl lk_R_51 mo_R_in (Nat.le_of_ble_eq_true rfl) (Nat.le_of_ble_eq_true rfl) ?_
          refine c_R_in ?_
          refine V2_topi (fun v25 ev25 => ?_)
          refine V2_zreturn d_R_isOfCar_33 rfl (by rw [ev25]; exact xb_01) ?_
          refine V2.to (st' := [.int v25]) ?_ rfl rfl rfl rfl
          refine V2_if_eq (tgt := 26) d_R_car_14 rfl (fun c26 => ?_) (fun c26 => ?_)
          · refine V2_aload_n (i := 0) d_R_car_26 rfl rfl ?_
            refine V2_iconst (v := 1) d_R_car_27 rfl ?_
            refine V2_callV [.int (1 : Int32)] d_R_car_28 rfl rfl lk_R_55 mo_R_error (by decide) rfl rfl rfl (Nat.le_of_ble_eq_true rfl) (Nat.le_of_ble_eq_true rfl) ?_
            refine c_R_error1 ?_
            refine V2_topi (fun v27 ev27 => ?_)
            refine V2_ireturn d_R_car_31 rfl ?_
            have e : k_car F0 w v = (-1000000000 - 1, errF F0 1) := by unfold k_car; rw [if_neg (fun h => hw (by rw [h.1]; decide)), if_neg (fun h => hw (by rw [h.1]; decide)), if_neg (fun h => hw (by rw [h.1]; decide)), if_neg (fun h => hw (by rw [h.1]; decide)), if_neg (fun h => hw (by rw [h.1]; decide))]
            rw [e] at hQ hM
            subst ev27 ev25 ev1
            exact xQi (hQ _ (rel_err hR hM)) rfl rfl
          · refine V2_aload_n (i := 0) d_R_car_17 rfl rfl ?_
            refine V2_iload_n (i := 1) d_R_car_18 rfl rfl ?_
            refine V2_iload_n (i := 2) d_R_car_19 rfl rfl ?_
            refine V2_callV [.int w, .int v] d_R_car_20 rfl rfl lk_R_171 mo_R_change1 (by decide) rfl rfl rfl (Nat.le_of_ble_eq_true rfl) (Nat.le_of_ble_eq_true rfl) ?_
            refine V2.to (l' := [some (.ref 65), some (.int w), some (.int v), none]) ?_ rfl rfl rfl rfl
            refine V2_aload_n (i := 0) d_R_change1_0 rfl rfl ?_
            refine V2_getr (a := 66) d_R_change1_1 fl_R_7 (by decide) rfl (by decide) rfl ?_
            refine V2_iload_n (i := 1) d_R_change1_4 rfl rfl ?_
            refine V2_ialoadJ w.toNatClampNeg d_R_change1_5 (by decide) rfl (vin_of (by clear hQ; (try (subst ev25 ev1)); (try simp only [xb_eq, xb_ne, Int32.lt_iff_toInt_lt, Int32.le_iff_toInt_le] at *); omega) (by clear hQ; (try (subst ev25 ev1)); (try simp only [xb_eq, xb_ne, Int32.lt_iff_toInt_lt, Int32.le_iff_toInt_le] at *); omega)) rfl rfl ?_
            refine V2_topi (fun v28 ev28 => ?_)
            refine V2_istore_n (i := 3) (l' := [some (.ref 65), some (.int w), some (.int v), some (.int v28)]) d_R_change1_6 rfl (xst_i (Nat.le_of_ble_eq_true rfl) rfl rfl) ?_
            refine V2_aload_n (i := 0) d_R_change1_7 rfl rfl ?_
            refine V2_getr (a := 66) d_R_change1_8 fl_R_7 (by decide) rfl (by decide) rfl ?_
            refine V2_iload_n (i := 1) d_R_change1_11 rfl rfl ?_
            refine V2_iload_n (i := 2) d_R_change1_12 rfl rfl ?_
            refine V2_iastore (j := w.toNatClampNeg) d_R_change1_13 (by decide) rfl (vin_of (by clear hQ; (try (subst ev28 ev25 ev1)); (try simp only [xb_eq, xb_ne, Int32.lt_iff_toInt_lt, Int32.le_iff_toInt_le] at *); omega) (by clear hQ; (try (subst ev28 ev25 ev1)); (try simp only [xb_eq, xb_ne, Int32.lt_iff_toInt_lt, Int32.le_iff_toInt_le] at *); omega)) rfl ?_
            refine V2_iload_n (i := 3) d_R_change1_14 rfl rfl ?_
            refine V2_ireturn d_R_change1_15 rfl ?_
            refine V2.to (st' := [.int v28]) ?_ rfl rfl rfl rfl
            refine V2_goto (tgt := 31) d_R_car_23 rfl ?_
            refine V2_ireturn d_R_car_31 rfl ?_
            exfalso
            exact (by clear hQ; (try (subst ev28 ev25 ev1)); (try simp only [xb_eq, xb_ne, Int32.lt_iff_toInt_lt, Int32.le_iff_toInt_le] at *); (try simp only [← Int32.toInt_inj] at *); omega)
      · refine V2_bipush (v := 60) d_R_isOfCar_14 rfl ?_
        refine V2_goto (tgt := 30) d_R_isOfCar_16 rfl ?_
        refine V2_callS [.int v, .int (1 : Int32), .int (60 : Int32)] d_R_isOfCar_30 rfl rfl lk_R_51 mo_R_in (Nat.le_of_ble_eq_true rfl) (Nat.le_of_ble_eq_true rfl) ?_
        refine c_R_in ?_
        refine V2_topi (fun v29 ev29 => ?_)
        refine V2_zreturn d_R_isOfCar_33 rfl (by rw [ev29]; exact xb_01) ?_
        refine V2.to (st' := [.int v29]) ?_ rfl rfl rfl rfl
        refine V2_if_eq (tgt := 26) d_R_car_14 rfl (fun c30 => ?_) (fun c30 => ?_)
        · refine V2_aload_n (i := 0) d_R_car_26 rfl rfl ?_
          refine V2_iconst (v := 1) d_R_car_27 rfl ?_
          refine V2_callV [.int (1 : Int32)] d_R_car_28 rfl rfl lk_R_55 mo_R_error (by decide) rfl rfl rfl (Nat.le_of_ble_eq_true rfl) (Nat.le_of_ble_eq_true rfl) ?_
          refine c_R_error1 ?_
          refine V2_topi (fun v31 ev31 => ?_)
          refine V2_ireturn d_R_car_31 rfl ?_
          have e : k_car F0 w v = (-1000000000 - 1, errF F0 1) := by unfold k_car; rw [if_neg (fun h => hw (by rw [h.1]; decide)), if_neg (fun h => hw (by rw [h.1]; decide)), if_neg (fun h => hw (by rw [h.1]; decide)), if_neg (fun h => hw (by rw [h.1]; decide)), if_neg (fun h => hw (by rw [h.1]; decide))]
          rw [e] at hQ hM
          subst ev31 ev29 ev1
          exact xQi (hQ _ (rel_err hR hM)) rfl rfl
        · refine V2_aload_n (i := 0) d_R_car_17 rfl rfl ?_
          refine V2_iload_n (i := 1) d_R_car_18 rfl rfl ?_
          refine V2_iload_n (i := 2) d_R_car_19 rfl rfl ?_
          refine V2_callV [.int w, .int v] d_R_car_20 rfl rfl lk_R_171 mo_R_change1 (by decide) rfl rfl rfl (Nat.le_of_ble_eq_true rfl) (Nat.le_of_ble_eq_true rfl) ?_
          refine V2.to (l' := [some (.ref 65), some (.int w), some (.int v), none]) ?_ rfl rfl rfl rfl
          refine V2_aload_n (i := 0) d_R_change1_0 rfl rfl ?_
          refine V2_getr (a := 66) d_R_change1_1 fl_R_7 (by decide) rfl (by decide) rfl ?_
          refine V2_iload_n (i := 1) d_R_change1_4 rfl rfl ?_
          refine V2_ialoadJ w.toNatClampNeg d_R_change1_5 (by decide) rfl (vin_of (by clear hQ; (try (subst ev29 ev1)); (try simp only [xb_eq, xb_ne, Int32.lt_iff_toInt_lt, Int32.le_iff_toInt_le] at *); omega) (by clear hQ; (try (subst ev29 ev1)); (try simp only [xb_eq, xb_ne, Int32.lt_iff_toInt_lt, Int32.le_iff_toInt_le] at *); omega)) rfl rfl ?_
          refine V2_topi (fun v32 ev32 => ?_)
          refine V2_istore_n (i := 3) (l' := [some (.ref 65), some (.int w), some (.int v), some (.int v32)]) d_R_change1_6 rfl (xst_i (Nat.le_of_ble_eq_true rfl) rfl rfl) ?_
          refine V2_aload_n (i := 0) d_R_change1_7 rfl rfl ?_
          refine V2_getr (a := 66) d_R_change1_8 fl_R_7 (by decide) rfl (by decide) rfl ?_
          refine V2_iload_n (i := 1) d_R_change1_11 rfl rfl ?_
          refine V2_iload_n (i := 2) d_R_change1_12 rfl rfl ?_
          refine V2_iastore (j := w.toNatClampNeg) d_R_change1_13 (by decide) rfl (vin_of (by clear hQ; (try (subst ev32 ev29 ev1)); (try simp only [xb_eq, xb_ne, Int32.lt_iff_toInt_lt, Int32.le_iff_toInt_le] at *); omega) (by clear hQ; (try (subst ev32 ev29 ev1)); (try simp only [xb_eq, xb_ne, Int32.lt_iff_toInt_lt, Int32.le_iff_toInt_le] at *); omega)) rfl ?_
          refine V2_iload_n (i := 3) d_R_change1_14 rfl rfl ?_
          refine V2_ireturn d_R_change1_15 rfl ?_
          refine V2.to (st' := [.int v32]) ?_ rfl rfl rfl rfl
          refine V2_goto (tgt := 31) d_R_car_23 rfl ?_
          refine V2_ireturn d_R_car_31 rfl ?_
          exfalso
          exact (by clear hQ; (try (subst ev32 ev29 ev1)); (try simp only [xb_eq, xb_ne, Int32.lt_iff_toInt_lt, Int32.le_iff_toInt_le] at *); (try simp only [← Int32.toInt_inj] at *); omega)
