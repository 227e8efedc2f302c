/-! park, now, law -/
/-- rows that say nothing may change -/
theorem relC_scr {F F' G : xF} (h : relC F G) (he : ∀ a, a < 65 → ¬ a = 10 → ¬ a = 13 → (a < 35 ∨ 52 < a) → F' a = F a) : relC F' G := by
  have e : ∀ {a : Nat}, a < 65 → ¬ a = 10 → ¬ a = 13 → (a < 35 ∨ 52 < a) → F' a = F a := fun h1 h2 h3 h4 => he _ h1 h2 h3 h4
  unfold relC relW relPw relTape relWait relL relSheet at *
  obtain ⟨h1, h2, h3, h4, h5, h6, h7⟩ := h
  refine ⟨?_, ?_, ?_, ?_, ?_, ?_, ?_⟩
  · rw [e (a := 1 + 1) (by decide) (by decide) (by decide) (by decide), e (a := 1 + 2) (by decide) (by decide) (by decide) (by decide), e (a := 1 + 4) (by decide) (by decide) (by decide) (by decide), e (a := 1 + 6) (by decide) (by decide) (by decide) (by decide), e (a := 1 + 7) (by decide) (by decide) (by decide) (by decide), e (a := 1 + 7 + 1) (by decide) (by decide) (by decide) (by decide), e (a := 1 + 10) (by decide) (by decide) (by decide) (by decide), e (a := 1 + 10 + 1) (by decide) (by decide) (by decide) (by decide), e (a := 1 + 13) (by decide) (by decide) (by decide) (by decide), e (a := 1 + 14) (by decide) (by decide) (by decide) (by decide), e (a := 1 + 15) (by decide) (by decide) (by decide) (by decide), e (a := 1 + 16) (by decide) (by decide) (by decide) (by decide), e (a := 1) (by decide) (by decide) (by decide) (by decide)]
    exact h1
  · rw [e (a := 18 + 1) (by decide) (by decide) (by decide) (by decide), e (a := 18 + 2) (by decide) (by decide) (by decide) (by decide), e (a := 18 + 4) (by decide) (by decide) (by decide) (by decide), e (a := 18 + 6) (by decide) (by decide) (by decide) (by decide), e (a := 18 + 7) (by decide) (by decide) (by decide) (by decide), e (a := 18 + 7 + 1) (by decide) (by decide) (by decide) (by decide), e (a := 18 + 10) (by decide) (by decide) (by decide) (by decide), e (a := 18 + 10 + 1) (by decide) (by decide) (by decide) (by decide), e (a := 18 + 13) (by decide) (by decide) (by decide) (by decide), e (a := 18 + 14) (by decide) (by decide) (by decide) (by decide), e (a := 18 + 15) (by decide) (by decide) (by decide) (by decide), e (a := 18 + 16) (by decide) (by decide) (by decide) (by decide), e (a := 18) (by decide) (by decide) (by decide) (by decide)]
    exact h2
  · intro k hk
    rw [e (by decide) (by decide) (by decide) (by decide)]
    exact h3 k hk
  · rw [e (by decide) (by decide) (by decide) (by decide)]
    exact h4
  · rw [e (by decide) (by decide) (by decide) (by decide)]
    exact h5
  · intro i hi
    rw [e (by decide) (by decide) (by decide) (by decide)]
    exact h6 i hi
  · intro t ht
    rw [e (a := 57 + 2 * t) (by omega) (by omega) (by omega) (by omega), e (a := 58 + 2 * t) (by omega) (by omega) (by omega) (by omega)]
    exact h7 t ht
theorem mid_10 {F F1 G : xF} {q : Nat → Int32} (h : Mid F F1 G) : Mid F (xrw F1 10 q) G := ⟨fun a ha => (xrw_ne (by omega)).trans (h.1 a ha), relC_scr h.2 (fun a h1 h2 h3 h4 => xrw_ne h2)⟩
theorem mid_13 {F F1 G : xF} {q : Nat → Int32} (h : Mid F F1 G) : Mid F (xrw F1 13 q) G := ⟨fun a ha => (xrw_ne (by omega)).trans (h.1 a ha), relC_scr h.2 (fun a h1 h2 h3 h4 => xrw_ne h3)⟩
/-- a row of the model that says nothing may change -/
theorem rel_xrw {F : xF} {k : Nat} {q : Nat → Int32} (h : Rel F) (hk : k = 68 ∨ k = 70 ∨ k = 71 ∨ k = 72 ∨ k = 77) : Rel (xrw F k q) :=
  ⟨relC_mo (relC_cl h.1 (fun a ha => xrw_ne (by omega))) (fun a ha => xrw_ne (by omega)), invM_mo h.2 (fun a ha => xrw_ne (by omega))⟩
def parkS (S : Nat → Int32) (v : Int32) : Nat → Int32 := upd (upd (upd (upd (upd S 0 v) 1 0) 2 0) 3 0) 5 0
def k_park (F : xF) (v : Int32) : Int32 × xF := if 1 ≤ v ∧ v ≤ 60 then (F 66 6, xrw F 66 (parkS (F 66) v)) else (-1000000000 - 1, errF F 1)
theorem relCr_park {r S : Nat → Int32} {v : Int32} (h : relCr r S) : relCr (upd (upd (upd (upd (upd r 0 v) 1 0) 2 0) 3 0) 7 0) (parkS S v) := by
  obtain ⟨h0, h1, h2, h3, h4, h5, h6, h7⟩ := h
  refine ⟨?_, ?_, ?_, ?_, ?_, ?_, ?_, ?_⟩ <;> simp [upd, parkS, *]
theorem invC_park {S : Nat → Int32} {v : Int32} (h : invC S) (hv : 1 ≤ v ∧ v ≤ 60) : invC (parkS S v) := by
  obtain ⟨i0, i1, i2, i3, i4, i5, i6⟩ := h
  have q0 : (1 : Int32).toInt = 1 := by decide
  have q1 : (60 : Int32).toInt = 60 := by decide
  have hw := hv
  rw [Int32.le_iff_toInt_le, Int32.le_iff_toInt_le, q0, q1] at hw
  have z : 0 ≤ (0 : Int32).toInt ∧ (0 : Int32).toInt ≤ 99 := by decide
  exact ⟨hw, z, z, Or.inl rfl, i4, Or.inl rfl, i6⟩
theorem parkS_hi {S : Nat → Int32} {v : Int32} {j : Nat} (h : 6 ≤ j) : parkS S v j = S j := by
  unfold parkS upd
  rw [if_neg (by omega), if_neg (by omega), if_neg (by omega), if_neg (by omega), if_neg (by omega)]
theorem c_cls_park {L : Nat} {xs : Nat → Int32} {d : Nat} {Q : Option Value → xF → Prop} {F : xF} {v : Int32} (hR : Rel F) (hQ : ∀ F1, Mid F F1 (k_park F v).2 → Q (some (.int (k_park F v).1)) F1) : V2 L xs (d + 1) m_P_park 0 (xEntry [.ref 0, .int v] 2) [] F Q := by
  have q0 : (0 : Int32).toInt = 0 := by decide
  have q1 : (1 : Int32).toInt = 1 := by decide
  have q2 : (2 : Int32).toInt = 2 := by decide
  have q3 : (3 : Int32).toInt = 3 := by decide
  have q4 : (4 : Int32).toInt = 4 := by decide
  have q5 : (5 : Int32).toInt = 5 := by decide
  have q6 : (6 : Int32).toInt = 6 := by decide
  have q7 : (7 : Int32).toInt = 7 := by decide
  have q9 : (9 : Int32).toInt = 9 := by decide
  have q20 : (20 : Int32).toInt = 20 := by decide
  have q30 : (30 : Int32).toInt = 30 := by decide
  have q60 : (60 : Int32).toInt = 60 := by decide
  have q99 : (99 : Int32).toInt = 99 := by decide
  refine V2.to (l' := [some (.ref 0), some (.int v)]) ?_ rfl rfl rfl rfl
  refine V2_iload_n (i := 1) d_P_park_0 rfl rfl ?_
  refine V2_iconst (v := 1) d_P_park_1 rfl ?_
  refine V2_bipush (v := 60) d_P_park_2 rfl ?_
  refine V2_callS [.int v, .int (1 : Int32), .int (60 : Int32)] d_P_park_4 rfl rfl lk_P_133 mo_P_within (Nat.le_of_ble_eq_true rfl) (Nat.le_of_ble_eq_true rfl) ?_
  refine V2.to (l' := [some (.int v), some (.int (1 : Int32)), some (.int (60 : Int32))]) ?_ rfl rfl rfl rfl
  refine V2_iload_n (i := 0) d_P_within_0 rfl rfl ?_
  refine V2_iload_n (i := 1) d_P_within_1 rfl rfl ?_
  refine V2_icmp_lt (tgt := 14) d_P_within_2 rfl (fun c1 => ?_) (fun c1 => ?_)
  · refine V2_iconst (v := 0) d_P_within_14 rfl ?_
    refine V2_zreturn d_P_within_15 rfl (by decide) ?_
    refine V2.to (st' := [.int (0 : Int32)]) ?_ rfl rfl rfl rfl
    refine V2_if_ne (tgt := 16) d_P_park_7 rfl (fun c => (by first | exact absurd c (by decide) | exact absurd (by decide) c)) (fun _ => ?_)
    refine V2_aload_n (i := 0) d_P_park_10 rfl rfl ?_
    refine V2_iconst (v := 1) d_P_park_11 rfl ?_
    refine V2_callV [.int (1 : Int32)] d_P_park_12 rfl rfl lk_P_66 mo_P_fails (by decide) rfl rfl rfl (Nat.le_of_ble_eq_true rfl) (Nat.le_of_ble_eq_true rfl) ?_
    refine c_P_fails1 ?_
    refine V2_topi (fun v2 ev2 => ?_)
    refine V2_ireturn d_P_park_15 rfl ?_
    have hb : ¬ (1 ≤ v ∧ v ≤ 60) := (by clear hQ; (try (subst ev2)); (try simp only [xb_eq, xb_ne, Int32.lt_iff_toInt_lt, Int32.le_iff_toInt_le] at *); omega)
    have e : k_park F v = (-1000000000 - 1, errF F 1) := if_neg hb
    rw [e] at hQ
    subst ev2
    exact xQi (hQ _ (mid_err hR (by decide))) rfl rfl
  · refine V2_iload_n (i := 0) d_P_within_5 rfl rfl ?_
    refine V2_iload_n (i := 2) d_P_within_6 rfl rfl ?_
    refine V2_icmp_gt (tgt := 14) d_P_within_7 rfl (fun c3 => ?_) (fun c3 => ?_)
    · refine V2_iconst (v := 0) d_P_within_14 rfl ?_
      refine V2_zreturn d_P_within_15 rfl (by decide) ?_
      refine V2.to (st' := [.int (0 : Int32)]) ?_ rfl rfl rfl rfl
      refine V2_if_ne (tgt := 16) d_P_park_7 rfl (fun c => (by first | exact absurd c (by decide) | exact absurd (by decide) c)) (fun _ => ?_)
      refine V2_aload_n (i := 0) d_P_park_10 rfl rfl ?_
      refine V2_iconst (v := 1) d_P_park_11 rfl ?_
      refine V2_callV [.int (1 : Int32)] d_P_park_12 rfl rfl lk_P_66 mo_P_fails (by decide) rfl rfl rfl (Nat.le_of_ble_eq_true rfl) (Nat.le_of_ble_eq_true rfl) ?_
      refine c_P_fails1 ?_
      refine V2_topi (fun v4 ev4 => ?_)
      refine V2_ireturn d_P_park_15 rfl ?_
      have hb : ¬ (1 ≤ v ∧ v ≤ 60) := (by clear hQ; (try (subst ev4)); (try simp only [xb_eq, xb_ne, Int32.lt_iff_toInt_lt, Int32.le_iff_toInt_le] at *); omega)
      have e : k_park F v = (-1000000000 - 1, errF F 1) := if_neg hb
      rw [e] at hQ
      subst ev4
      exact xQi (hQ _ (mid_err hR (by decide))) rfl rfl
    · refine V2_iconst (v := 1) d_P_within_10 rfl ?_
      refine V2_goto (tgt := 15) d_P_within_11 rfl ?_
      refine V2_zreturn d_P_within_15 rfl (by decide) ?_
      refine V2.to (st' := [.int (1 : Int32)]) ?_ rfl rfl rfl rfl
      refine V2_if_ne (tgt := 16) d_P_park_7 rfl (fun _ => ?_) (fun c => (by first | exact absurd c (by decide) | exact absurd (by decide) c))
      refine V2_aload_n (i := 0) d_P_park_16 rfl rfl ?_
      refine V2_getr (a := 1) d_P_park_17 fl_P_10 (by decide) rfl (by decide) rfl ?_
      refine V2_getr (a := 2) d_P_park_20 fl_P_93 (by decide) rfl (by decide) rfl ?_
      refine V2_iload_n (i := 1) d_P_park_23 rfl rfl ?_
      refine V2_callV [.int v] d_P_park_24 rfl rfl lk_P_137 mo_Car_standIn (by decide) rfl rfl rfl (Nat.le_of_ble_eq_true rfl) (Nat.le_of_ble_eq_true rfl) ?_
      refine V2.to (l' := [some (.ref 2), some (.int v)]) ?_ rfl rfl rfl rfl
      refine V2_aload_n (i := 0) d_Car_standIn_0 rfl rfl ?_
      refine V2_iload_n (i := 1) d_Car_standIn_1 rfl rfl ?_
      refine V2_put d_Car_standIn_2 fl_Car_7 (by decide) rfl (by decide) rfl ?_
      refine V2_aload_n (i := 0) d_Car_standIn_5 rfl rfl ?_
      refine V2_iconst (v := 0) d_Car_standIn_6 rfl ?_
      refine V2_put d_Car_standIn_7 fl_Car_13 (by decide) rfl (by decide) rfl ?_
      refine V2_aload_n (i := 0) d_Car_standIn_10 rfl rfl ?_
      refine V2_iconst (v := 0) d_Car_standIn_11 rfl ?_
      refine V2_put d_Car_standIn_12 fl_Car_16 (by decide) rfl (by decide) rfl ?_
      refine V2_aload_n (i := 0) d_Car_standIn_15 rfl rfl ?_
      refine V2_iconst (v := 0) d_Car_standIn_16 rfl ?_
      refine V2_put d_Car_standIn_17 fl_Car_19 (by decide) rfl (by decide) rfl ?_
      refine V2_aload_n (i := 0) d_Car_standIn_20 rfl rfl ?_
      refine V2_iconst (v := 0) d_Car_standIn_21 rfl ?_
      refine V2_putz d_Car_standIn_22 fl_Car_31 (by decide) rfl (by decide) rfl (by decide) ?_
      refine V2_return d_Car_standIn_25 rfl ?_
      refine V2.to (st' := []) ?_ rfl rfl rfl rfl
      refine V2_aload_n (i := 0) d_P_park_27 rfl rfl ?_
      refine V2_getr (a := 1) d_P_park_28 fl_P_10 (by decide) rfl (by decide) rfl ?_
      refine V2_getr (a := 2) d_P_park_31 fl_P_93 (by decide) rfl (by decide) rfl ?_
      refine V2_get (v := F 2 6) d_P_park_34 fl_P_141 (by decide) rfl (by decide) rfl rfl ?_
      refine V2_topi (fun v5 ev5 => ?_)
      refine V2_ireturn d_P_park_37 rfl ?_
      have hb : 1 ≤ v ∧ v ≤ 60 := (by clear hQ; (try (subst ev5)); (try simp only [xb_eq, xb_ne, Int32.lt_iff_toInt_lt, Int32.le_iff_toInt_le] at *); omega)
      have e : k_park F v = (F 66 6, xrw F 66 (parkS (F 66) v)) := if_pos hb
      rw [e] at hQ
      subst ev5
      exact xQi (hQ (xrw F 2 _) (mid_low hR (relCr_park hR.1.1.1) (parkS_hi (by decide)) (fun j hj => parkS_hi (by omega)))) (hR.1.1.1.2.2.2.2.2.2.1) (by rw [xp_row F, xp_xrw, xp_xrw, xp_xrw, xp_xrw])
theorem c_mod_park {L : Nat} {xs : Nat → Int32} {d : Nat} {Q : Option Value → xF → Prop} {F : xF} {v : Int32} {F0 : xF} (hR : Rel F0) (hM : Mid F0 F (k_park F0 v).2) (hQ : ∀ F2, Rel F2 → Q (some (.int (k_park F0 v).1)) F2) : V2 L xs (d + 2) m_R_park 0 (xEntry [.ref 65, .int v] 2) [] F Q := by
  have q0 : (0 : Int32).toInt = 0 := by decide
  have q1 : (1 : Int32).toInt = 1 := by decide
  have q2 : (2 : Int32).toInt = 2 := by decide
  have q3 : (3 : Int32).toInt = 3 := by decide
  have q4 : (4 : Int32).toInt = 4 := by decide
  have q5 : (5 : Int32).toInt = 5 := by decide
  have q6 : (6 : Int32).toInt = 6 := by decide
  have q7 : (7 : Int32).toInt = 7 := by decide
  have q9 : (9 : Int32).toInt = 9 := by decide
  have q20 : (20 : Int32).toInt = 20 := by decide
  have q30 : (30 : Int32).toInt = 30 := by decide
  have q60 : (60 : Int32).toInt = 60 := by decide
  have q99 : (99 : Int32).toInt = 99 := by decide
  refine V2.to (l' := [some (.ref 65), some (.int v)]) ?_ rfl rfl rfl rfl
  refine V2_iconst (v := 0) d_R_park_0 rfl ?_
  refine V2_iload_n (i := 1) d_R_park_1 rfl rfl ?_
  refine V2_callS [.int (0 : Int32), .int v] d_R_park_2 rfl rfl lk_R_177 mo_R_isOfCar (Nat.le_of_ble_eq_true rfl) (Nat.le_of_ble_eq_true rfl) ?_
  refine V2.to (l' := [some (.int (0 : Int32)), some (.int v)]) ?_ rfl rfl rfl rfl
  refine V2_iload_n (i := 1) d_R_isOfCar_0 rfl rfl ?_
  refine V2_iload_n (i := 0) d_R_isOfCar_1 rfl rfl ?_
  refine V2_if_ne (tgt := 9) d_R_isOfCar_2 rfl (fun c => (by first | exact absurd c (by decide) | exact absurd (by decide) c)) (fun _ => ?_)
  refine V2_iconst (v := 1) d_R_isOfCar_5 rfl ?_
  refine V2_goto (tgt := 10) d_R_isOfCar_6 rfl ?_
  refine V2_iload_n (i := 0) d_R_isOfCar_10 rfl rfl ?_
  refine V2_if_ne (tgt := 19) d_R_isOfCar_11 rfl (fun c => (by first | exact absurd c (by decide) | exact absurd (by decide) c)) (fun _ => ?_)
  refine V2_bipush (v := 60) d_R_isOfCar_14 rfl ?_
  refine V2_goto (tgt := 30) d_R_isOfCar_16 rfl ?_
  refine V2_callS [.int v, .int (1 : Int32), .int (60 : Int32)] d_R_isOfCar_30 rfl rfl lk_R_51 mo_R_in (Nat.le_of_ble_eq_true rfl) (Nat.le_of_ble_eq_true rfl) ?_
  refine c_R_in ?_
  refine V2_topi (fun v1 ev1 => ?_)
  refine V2_zreturn d_R_isOfCar_33 rfl (by rw [ev1]; exact xb_01) ?_
  refine V2.to (st' := [.int v1]) ?_ rfl rfl rfl rfl
  refine V2_if_ne (tgt := 14) d_R_park_5 rfl (fun c2 => ?_) (fun c2 => ?_)
  · refine V2_aload_n (i := 0) d_R_park_14 rfl rfl ?_
    refine V2_getr (a := 66) d_R_park_15 fl_R_7 (by decide) rfl (by decide) rfl ?_
    refine V2_iconst (v := 0) d_R_park_18 rfl ?_
    refine V2_iload_n (i := 1) d_R_park_19 rfl rfl ?_
    refine V2_iastore (j := 0) d_R_park_20 (by decide) rfl (xixA (n := 0) rfl (by decide) (by decide)) rfl ?_
    refine V2_aload_n (i := 0) d_R_park_21 rfl rfl ?_
    refine V2_getr (a := 66) d_R_park_22 fl_R_7 (by decide) rfl (by decide) rfl ?_
    refine V2_iconst (v := 1) d_R_park_25 rfl ?_
    refine V2_iconst (v := 0) d_R_park_26 rfl ?_
    refine V2_iastore (j := 1) d_R_park_27 (by decide) rfl (xixA (n := 1) rfl (by decide) (by decide)) rfl ?_
    refine V2_aload_n (i := 0) d_R_park_28 rfl rfl ?_
    refine V2_getr (a := 66) d_R_park_29 fl_R_7 (by decide) rfl (by decide) rfl ?_
    refine V2_iconst (v := 2) d_R_park_32 rfl ?_
    refine V2_iconst (v := 0) d_R_park_33 rfl ?_
    refine V2_iastore (j := 2) d_R_park_34 (by decide) rfl (xixA (n := 2) rfl (by decide) (by decide)) rfl ?_
    refine V2_aload_n (i := 0) d_R_park_35 rfl rfl ?_
    refine V2_getr (a := 66) d_R_park_36 fl_R_7 (by decide) rfl (by decide) rfl ?_
    refine V2_iconst (v := 3) d_R_park_39 rfl ?_
    refine V2_iconst (v := 0) d_R_park_40 rfl ?_
    refine V2_iastore (j := 3) d_R_park_41 (by decide) rfl (xixA (n := 3) rfl (by decide) (by decide)) rfl ?_
    refine V2_aload_n (i := 0) d_R_park_42 rfl rfl ?_
    refine V2_getr (a := 66) d_R_park_43 fl_R_7 (by decide) rfl (by decide) rfl ?_
    refine V2_iconst (v := 5) d_R_park_46 rfl ?_
    refine V2_iconst (v := 0) d_R_park_47 rfl ?_
    refine V2_iastore (j := 5) d_R_park_48 (by decide) rfl (xixA (n := 5) rfl (by decide) (by decide)) rfl ?_
    refine V2_aload_n (i := 0) d_R_park_49 rfl rfl ?_
    refine V2_getr (a := 66) d_R_park_50 fl_R_7 (by decide) rfl (by decide) rfl ?_
    refine V2_bipush (v := 6) d_R_park_53 rfl ?_
    refine V2_iaload (v := F 66 6) d_R_park_55 (by decide) rfl (xixA (n := 6) rfl (by decide) (by decide)) rfl ?_
    refine V2_topi (fun v3 ev3 => ?_)
    refine V2_ireturn d_R_park_56 rfl ?_
    have hb : 1 ≤ v ∧ v ≤ 60 := (by clear hQ; (try (subst ev3 ev1)); (try simp only [xb_eq, xb_ne, Int32.lt_iff_toInt_lt, Int32.le_iff_toInt_le] at *); omega)
    have e : k_park F0 v = (F0 66 6, xrw F0 66 (parkS (F0 66) v)) := if_pos hb
    rw [e] at hQ hM
    subst ev3 ev1
    exact xQi (hQ (xrw F 66 (parkS (F0 66) v)) (rel_low hR hM (invC_park hR.2.1.1 hb) hR.2.1.2.1 (fun j hj => parkS_hi (by omega)))) (congrFun (hM.1 66 (by decide)) 6) (by unfold parkS; rw [xp_row F, xp_xrw, xp_xrw, xp_xrw, xp_xrw, hM.1 66 (by decide)])
  · refine V2_aload_n (i := 0) d_R_park_8 rfl rfl ?_
    refine V2_iconst (v := 1) d_R_park_9 rfl ?_
    refine V2_callV [.int (1 : Int32)] d_R_park_10 rfl rfl lk_R_55 mo_R_error (by decide) rfl rfl rfl (Nat.le_of_ble_eq_true rfl) (Nat.le_of_ble_eq_true rfl) ?_
    refine c_R_error1 ?_
    refine V2_topi (fun v4 ev4 => ?_)
    refine V2_ireturn d_R_park_13 rfl ?_
    have hb : ¬ (1 ≤ v ∧ v ≤ 60) := (by clear hQ; (try (subst ev4 ev1)); (try simp only [xb_eq, xb_ne, Int32.lt_iff_toInt_lt, Int32.le_iff_toInt_le] at *); omega)
    have e : k_park F0 v = (-1000000000 - 1, errF F0 1) := if_neg hb
    rw [e] at hQ hM
    subst ev4 ev1
    exact xQi (hQ _ (rel_err hR hM)) rfl rfl
def k_law (F : xF) (u a b c : Int32) : Int32 × xF := if u = 0 then (gripS (F 66) a b c, F) else if u = 1 then (rubS (F 66) a b c, F) else (-1000000000 - 1, errF F 1)
theorem c_cls_law0 {L : Nat} {xs : Nat → Int32} {d : Nat} {Q : Option Value → xF → Prop} {F : xF} {a b c : Int32} (hR : Rel F) (hQ : ∀ F1, Mid F F1 (k_law F 0 a b c).2 → Q (some (.int (k_law F 0 a b c).1)) F1) : V2 L xs (d + 4) m_P_law 0 (xEntry [.ref 0, .int (0 : Int32), .int a, .int b, .int c] 5) [] F Q := by
  have q0 : (0 : Int32).toInt = 0 := by decide
  have q1 : (1 : Int32).toInt = 1 := by decide
  have q2 : (2 : Int32).toInt = 2 := by decide
  have q3 : (3 : Int32).toInt = 3 := by decide
  have q4 : (4 : Int32).toInt = 4 := by decide
  have q5 : (5 : Int32).toInt = 5 := by decide
  have q6 : (6 : Int32).toInt = 6 := by decide
  have q7 : (7 : Int32).toInt = 7 := by decide
  have q9 : (9 : Int32).toInt = 9 := by decide
  have q20 : (20 : Int32).toInt = 20 := by decide
  have q30 : (30 : Int32).toInt = 30 := by decide
  have q60 : (60 : Int32).toInt = 60 := by decide
  have q99 : (99 : Int32).toInt = 99 := by decide
  refine V2.to (l' := [some (.ref 0), some (.int (0 : Int32)), some (.int a), some (.int b), some (.int c)]) ?_ rfl rfl rfl rfl
  refine V2_iload_n (i := 1) d_P_law_0 rfl rfl ?_
  refine V2_iconst (v := 0) d_P_law_1 rfl ?_
  refine V2_iconst (v := 1) d_P_law_2 rfl ?_
  refine V2_callS [.int (0 : Int32), .int (0 : Int32), .int (1 : Int32)] d_P_law_3 rfl rfl lk_P_133 mo_P_within (Nat.le_of_ble_eq_true rfl) (Nat.le_of_ble_eq_true rfl) ?_
  refine V2.to (l' := [some (.int (0 : Int32)), some (.int (0 : Int32)), some (.int (1 : Int32))]) ?_ rfl rfl rfl rfl
  refine V2_iload_n (i := 0) d_P_within_0 rfl rfl ?_
  refine V2_iload_n (i := 1) d_P_within_1 rfl rfl ?_
  refine V2_icmp_lt (tgt := 14) d_P_within_2 rfl (fun c => (by first | exact absurd c (by decide) | exact absurd (by decide) c)) (fun _ => ?_)
  refine V2_iload_n (i := 0) d_P_within_5 rfl rfl ?_
  refine V2_iload_n (i := 2) d_P_within_6 rfl rfl ?_
  refine V2_icmp_gt (tgt := 14) d_P_within_7 rfl (fun c => (by first | exact absurd c (by decide) | exact absurd (by decide) c)) (fun _ => ?_)
  refine V2_iconst (v := 1) d_P_within_10 rfl ?_
  refine V2_goto (tgt := 15) d_P_within_11 rfl ?_
  refine V2_zreturn d_P_within_15 rfl (by decide) ?_
  refine V2.to (st' := [.int (1 : Int32)]) ?_ rfl rfl rfl rfl
  refine V2_if_ne (tgt := 15) d_P_law_6 rfl (fun _ => ?_) (fun c => (by first | exact absurd c (by decide) | exact absurd (by decide) c))
  refine V2_aload_n (i := 0) d_P_law_15 rfl rfl ?_
  refine V2_getr (a := 1) d_P_law_16 fl_P_10 (by decide) rfl (by decide) rfl ?_
  refine V2_iload_n (i := 1) d_P_law_19 rfl rfl ?_
  refine V2_callV [.int (0 : Int32)] d_P_law_20 rfl rfl lk_P_168 mo_World_lawOf (by decide) rfl rfl rfl (Nat.le_of_ble_eq_true rfl) (Nat.le_of_ble_eq_true rfl) ?_
  refine V2.to (l' := [some (.ref 1), some (.int (0 : Int32))]) ?_ rfl rfl rfl rfl
  refine V2_iload_n (i := 1) d_World_lawOf_0 rfl rfl ?_
  refine V2_if_ne (tgt := 11) d_World_lawOf_1 rfl (fun c => (by first | exact absurd c (by decide) | exact absurd (by decide) c)) (fun _ => ?_)
  refine V2_aload_n (i := 0) d_World_lawOf_4 rfl rfl ?_
  refine V2_getr (a := 8) d_World_lawOf_5 fl_World_28 (by decide) rfl (by decide) rfl ?_
  refine V2_goto (tgt := 15) d_World_lawOf_8 rfl ?_
  refine V2_areturn d_World_lawOf_15 rfl (Or.inl ⟨_, rfl⟩) ?_
  refine V2.to (st' := [.ref 8]) ?_ rfl rfl rfl rfl
  refine V2_iload_n (i := 2) d_P_law_23 rfl rfl ?_
  refine V2_iload_n (i := 3) d_P_law_24 rfl rfl ?_
  refine V2_iload (i := 4) d_P_law_25 rfl ?_
  refine V2_callV [.int a, .int b, .int c] d_P_law_27 rfl rfl lk_P_185 mo_Law_gives (by decide) rfl rfl rfl (Nat.le_of_ble_eq_true rfl) (Nat.le_of_ble_eq_true rfl) ?_
  refine c_Law_gives8 hR.1.1.2.2.1 hR.2.1.2.2.2.1 (fun q10 => ?_)
  refine V2_topi (fun v1 ev1 => ?_)
  refine V2_ireturn d_P_law_30 rfl ?_
  have e : k_law F 0 a b c = (gripS (F 66) a b c, F) := by unfold k_law; rw [if_pos rfl]
  rw [e] at hQ
  subst ev1
  exact xQi (hQ _ (mid_10 (mid_same hR))) rfl rfl
theorem c_mod_law0 {L : Nat} {xs : Nat → Int32} {d : Nat} {Q : Option Value → xF → Prop} {F : xF} {a b c : Int32} {F0 : xF} (hR : Rel F0) (hM : Mid F0 F (k_law F0 0 a b c).2) (hQ : ∀ F2, Rel F2 → Q (some (.int (k_law F0 0 a b c).1)) F2) : V2 L xs (d + 3) m_R_law 0 (xEntry [.ref 65, .int (0 : Int32), .int a, .int b, .int c] 5) [] F Q := by
  have q0 : (0 : Int32).toInt = 0 := by decide
  have q1 : (1 : Int32).toInt = 1 := by decide
  have q2 : (2 : Int32).toInt = 2 := by decide
  have q3 : (3 : Int32).toInt = 3 := by decide
  have q4 : (4 : Int32).toInt = 4 := by decide
  have q5 : (5 : Int32).toInt = 5 := by decide
  have q6 : (6 : Int32).toInt = 6 := by decide
  have q7 : (7 : Int32).toInt = 7 := by decide
  have q9 : (9 : Int32).toInt = 9 := by decide
  have q20 : (20 : Int32).toInt = 20 := by decide
  have q30 : (30 : Int32).toInt = 30 := by decide
  have q60 : (60 : Int32).toInt = 60 := by decide
  have q99 : (99 : Int32).toInt = 99 := by decide
  refine V2.to (l' := [some (.ref 65), some (.int (0 : Int32)), some (.int a), some (.int b), some (.int c)]) ?_ rfl rfl rfl rfl
  refine V2_iload_n (i := 1) d_R_law_0 rfl rfl ?_
  refine V2_iconst (v := 0) d_R_law_1 rfl ?_
  refine V2_iconst (v := 1) d_R_law_2 rfl ?_
  refine V2_callS [.int (0 : Int32), .int (0 : Int32), .int (1 : Int32)] d_R_law_3 rfl rfl lk_R_51 mo_R_in (Nat.le_of_ble_eq_true rfl) (Nat.le_of_ble_eq_true rfl) ?_
  refine c_R_in ?_
  refine V2_topi (fun v1 ev1 => ?_)
  refine V2_if_ne (tgt := 15) d_R_law_6 rfl (fun c2 => ?_) (fun c2 => ?_)
  · refine V2_iload_n (i := 1) d_R_law_15 rfl rfl ?_
    refine V2_if_ne (tgt := 30) d_R_law_16 rfl (fun c => (by first | exact absurd c (by decide) | exact absurd (by decide) c)) (fun _ => ?_)
    refine V2_aload_n (i := 0) d_R_law_19 rfl rfl ?_
    refine V2_iload_n (i := 2) d_R_law_20 rfl rfl ?_
    refine V2_iload_n (i := 3) d_R_law_21 rfl rfl ?_
    refine V2_iload (i := 4) d_R_law_22 rfl ?_
    refine V2_callV [.int a, .int b, .int c] d_R_law_24 rfl rfl lk_R_133 mo_R_gripTold (by decide) rfl rfl rfl (Nat.le_of_ble_eq_true rfl) (Nat.le_of_ble_eq_true rfl) ?_
    refine c_R_gripTold (by rw [hM.1 66 (by decide)]; exact hR.2.1.2.2.2.1) (fun q71 q72 => ?_)
    refine V2_topi (fun v3 ev3 => ?_)
    refine V2_goto (tgt := 38) d_R_law_27 rfl ?_
    refine V2_ireturn d_R_law_38 rfl ?_
    have e : k_law F0 0 a b c = (gripS (F0 66) a b c, F0) := by unfold k_law; rw [if_pos rfl]
    rw [e] at hQ hM
    subst ev3 ev1
    refine xQi (hQ _ (rel_xrw (rel_xrw (rel_same hR hM) (k := 71) (q := q71) (by omega)) (k := 72) (q := q72) (by omega))) ?_ rfl
    show gripS (F 66) a b c = gripS (F0 66) a b c
    rw [hM.1 66 (by decide)]
  · refine V2_aload_n (i := 0) d_R_law_9 rfl rfl ?_
    refine V2_iconst (v := 1) d_R_law_10 rfl ?_
    refine V2_callV [.int (1 : Int32)] d_R_law_11 rfl rfl lk_R_55 mo_R_error (by decide) rfl rfl rfl (Nat.le_of_ble_eq_true rfl) (Nat.le_of_ble_eq_true rfl) ?_
    refine c_R_error1 ?_
    refine V2_topi (fun v4 ev4 => ?_)
    refine V2_ireturn d_R_law_14 rfl ?_
    exfalso
    exact (by clear hQ; (try (subst ev4 ev1)); (try simp only [xb_eq, xb_ne, Int32.lt_iff_toInt_lt, Int32.le_iff_toInt_le] at *); (try simp only [← Int32.toInt_inj] at *); omega)
theorem c_cls_law1 {L : Nat} {xs : Nat → Int32} {d : Nat} {Q : Option Value → xF → Prop} {F : xF} {a b c : Int32} (hR : Rel F) (hQ : ∀ F1, Mid F F1 (k_law F 1 a b c).2 → Q (some (.int (k_law F 1 a b c).1)) F1) : V2 L xs (d + 4) m_P_law 0 (xEntry [.ref 0, .int (1 : Int32), .int a, .int b, .int c] 5) [] F Q := by
  have q0 : (0 : Int32).toInt = 0 := by decide
  have q1 : (1 : Int32).toInt = 1 := by decide
  have q2 : (2 : Int32).toInt = 2 := by decide
  have q3 : (3 : Int32).toInt = 3 := by decide
  have q4 : (4 : Int32).toInt = 4 := by decide
  have q5 : (5 : Int32).toInt = 5 := by decide
  have q6 : (6 : Int32).toInt = 6 := by decide
  have q7 : (7 : Int32).toInt = 7 := by decide
  have q9 : (9 : Int32).toInt = 9 := by decide
  have q20 : (20 : Int32).toInt = 20 := by decide
  have q30 : (30 : Int32).toInt = 30 := by decide
  have q60 : (60 : Int32).toInt = 60 := by decide
  have q99 : (99 : Int32).toInt = 99 := by decide
  refine V2.to (l' := [some (.ref 0), some (.int (1 : Int32)), some (.int a), some (.int b), some (.int c)]) ?_ rfl rfl rfl rfl
  refine V2_iload_n (i := 1) d_P_law_0 rfl rfl ?_
  refine V2_iconst (v := 0) d_P_law_1 rfl ?_
  refine V2_iconst (v := 1) d_P_law_2 rfl ?_
  refine V2_callS [.int (1 : Int32), .int (0 : Int32), .int (1 : Int32)] d_P_law_3 rfl rfl lk_P_133 mo_P_within (Nat.le_of_ble_eq_true rfl) (Nat.le_of_ble_eq_true rfl) ?_
  refine V2.to (l' := [some (.int (1 : Int32)), some (.int (0 : Int32)), some (.int (1 : Int32))]) ?_ rfl rfl rfl rfl
  refine V2_iload_n (i := 0) d_P_within_0 rfl rfl ?_
  refine V2_iload_n (i := 1) d_P_within_1 rfl rfl ?_
  refine V2_icmp_lt (tgt := 14) d_P_within_2 rfl (fun c => (by first | exact absurd c (by decide) | exact absurd (by decide) c)) (fun _ => ?_)
  refine V2_iload_n (i := 0) d_P_within_5 rfl rfl ?_
  refine V2_iload_n (i := 2) d_P_within_6 rfl rfl ?_
  refine V2_icmp_gt (tgt := 14) d_P_within_7 rfl (fun c => (by first | exact absurd c (by decide) | exact absurd (by decide) c)) (fun _ => ?_)
  refine V2_iconst (v := 1) d_P_within_10 rfl ?_
  refine V2_goto (tgt := 15) d_P_within_11 rfl ?_
  refine V2_zreturn d_P_within_15 rfl (by decide) ?_
  refine V2.to (st' := [.int (1 : Int32)]) ?_ rfl rfl rfl rfl
  refine V2_if_ne (tgt := 15) d_P_law_6 rfl (fun _ => ?_) (fun c => (by first | exact absurd c (by decide) | exact absurd (by decide) c))
  refine V2_aload_n (i := 0) d_P_law_15 rfl rfl ?_
  refine V2_getr (a := 1) d_P_law_16 fl_P_10 (by decide) rfl (by decide) rfl ?_
  refine V2_iload_n (i := 1) d_P_law_19 rfl rfl ?_
  refine V2_callV [.int (1 : Int32)] d_P_law_20 rfl rfl lk_P_168 mo_World_lawOf (by decide) rfl rfl rfl (Nat.le_of_ble_eq_true rfl) (Nat.le_of_ble_eq_true rfl) ?_
  refine V2.to (l' := [some (.ref 1), some (.int (1 : Int32))]) ?_ rfl rfl rfl rfl
  refine V2_iload_n (i := 1) d_World_lawOf_0 rfl rfl ?_
  refine V2_if_ne (tgt := 11) d_World_lawOf_1 rfl (fun _ => ?_) (fun c => (by first | exact absurd c (by decide) | exact absurd (by decide) c))
  refine V2_aload_n (i := 0) d_World_lawOf_11 rfl rfl ?_
  refine V2_getr (a := 11) d_World_lawOf_12 fl_World_32 (by decide) rfl (by decide) rfl ?_
  refine V2_areturn d_World_lawOf_15 rfl (Or.inl ⟨_, rfl⟩) ?_
  refine V2.to (st' := [.ref 11]) ?_ rfl rfl rfl rfl
  refine V2_iload_n (i := 2) d_P_law_23 rfl rfl ?_
  refine V2_iload_n (i := 3) d_P_law_24 rfl rfl ?_
  refine V2_iload (i := 4) d_P_law_25 rfl ?_
  refine V2_callV [.int a, .int b, .int c] d_P_law_27 rfl rfl lk_P_185 mo_Law_gives (by decide) rfl rfl rfl (Nat.le_of_ble_eq_true rfl) (Nat.le_of_ble_eq_true rfl) ?_
  refine c_Law_gives11 hR.1.1.2.2.2.1 hR.2.1.2.2.2.2.1 (fun q13 => ?_)
  refine V2_topi (fun v1 ev1 => ?_)
  refine V2_ireturn d_P_law_30 rfl ?_
  have e : k_law F 1 a b c = (rubS (F 66) a b c, F) := by unfold k_law; rw [if_neg (by decide), if_pos rfl]
  rw [e] at hQ
  subst ev1
  exact xQi (hQ _ (mid_13 (mid_same hR))) rfl rfl
theorem c_mod_law1 {L : Nat} {xs : Nat → Int32} {d : Nat} {Q : Option Value → xF → Prop} {F : xF} {a b c : Int32} {F0 : xF} (hR : Rel F0) (hM : Mid F0 F (k_law F0 1 a b c).2) (hQ : ∀ F2, Rel F2 → Q (some (.int (k_law F0 1 a b c).1)) F2) : V2 L xs (d + 3) m_R_law 0 (xEntry [.ref 65, .int (1 : Int32), .int a, .int b, .int c] 5) [] F Q := by
  have q0 : (0 : Int32).toInt = 0 := by decide
  have q1 : (1 : Int32).toInt = 1 := by decide
  have q2 : (2 : Int32).toInt = 2 := by decide
  have q3 : (3 : Int32).toInt = 3 := by decide
  have q4 : (4 : Int32).toInt = 4 := by decide
  have q5 : (5 : Int32).toInt = 5 := by decide
  have q6 : (6 : Int32).toInt = 6 := by decide
  have q7 : (7 : Int32).toInt = 7 := by decide
  have q9 : (9 : Int32).toInt = 9 := by decide
  have q20 : (20 : Int32).toInt = 20 := by decide
  have q30 : (30 : Int32).toInt = 30 := by decide
  have q60 : (60 : Int32).toInt = 60 := by decide
  have q99 : (99 : Int32).toInt = 99 := by decide
  refine V2.to (l' := [some (.ref 65), some (.int (1 : Int32)), some (.int a), some (.int b), some (.int c)]) ?_ rfl rfl rfl rfl
  refine V2_iload_n (i := 1) d_R_law_0 rfl rfl ?_
  refine V2_iconst (v := 0) d_R_law_1 rfl ?_
  refine V2_iconst (v := 1) d_R_law_2 rfl ?_
  refine V2_callS [.int (1 : Int32), .int (0 : Int32), .int (1 : Int32)] d_R_law_3 rfl rfl lk_R_51 mo_R_in (Nat.le_of_ble_eq_true rfl) (Nat.le_of_ble_eq_true rfl) ?_
  refine c_R_in ?_
  refine V2_topi (fun v1 ev1 => ?_)
  refine V2_if_ne (tgt := 15) d_R_law_6 rfl (fun c2 => ?_) (fun c2 => ?_)
  · refine V2_iload_n (i := 1) d_R_law_15 rfl rfl ?_
    refine V2_if_ne (tgt := 30) d_R_law_16 rfl (fun _ => ?_) (fun c => (by first | exact absurd c (by decide) | exact absurd (by decide) c))
    refine V2_aload_n (i := 0) d_R_law_30 rfl rfl ?_
    refine V2_iload_n (i := 2) d_R_law_31 rfl rfl ?_
    refine V2_iload_n (i := 3) d_R_law_32 rfl rfl ?_
    refine V2_iload (i := 4) d_R_law_33 rfl ?_
    refine V2_callV [.int a, .int b, .int c] d_R_law_35 rfl rfl lk_R_136 mo_R_rubTold (by decide) rfl rfl rfl (Nat.le_of_ble_eq_true rfl) (Nat.le_of_ble_eq_true rfl) ?_
    refine c_R_rubTold (by rw [hM.1 66 (by decide)]; exact hR.2.1.2.2.2.2.1) (fun q71 q72 => ?_)
    refine V2_topi (fun v3 ev3 => ?_)
    refine V2_ireturn d_R_law_38 rfl ?_
    have e : k_law F0 1 a b c = (rubS (F0 66) a b c, F0) := by unfold k_law; rw [if_neg (by decide), if_pos rfl]
    rw [e] at hQ hM
    subst ev3 ev1
    refine xQi (hQ _ (rel_xrw (rel_xrw (rel_same hR hM) (k := 71) (q := q71) (by omega)) (k := 72) (q := q72) (by omega))) ?_ rfl
    show rubS (F 66) a b c = rubS (F0 66) a b c
    rw [hM.1 66 (by decide)]
  · refine V2_aload_n (i := 0) d_R_law_9 rfl rfl ?_
    refine V2_iconst (v := 1) d_R_law_10 rfl ?_
    refine V2_callV [.int (1 : Int32)] d_R_law_11 rfl rfl lk_R_55 mo_R_error (by decide) rfl rfl rfl (Nat.le_of_ble_eq_true rfl) (Nat.le_of_ble_eq_true rfl) ?_
    refine c_R_error1 ?_
    refine V2_topi (fun v4 ev4 => ?_)
    refine V2_ireturn d_R_law_14 rfl ?_
    exfalso
    exact (by clear hQ; (try (subst ev4 ev1)); (try simp only [xb_eq, xb_ne, Int32.lt_iff_toInt_lt, Int32.le_iff_toInt_le] at *); (try simp only [← Int32.toInt_inj] at *); omega)
theorem c_cls_law2 {L : Nat} {xs : Nat → Int32} {d : Nat} {Q : Option Value → xF → Prop} {F : xF} {u a b c : Int32} (hR : Rel F) (hu : ¬ (0 ≤ u ∧ u ≤ 1)) (hQ : ∀ F1, Mid F F1 (k_law F u a b c).2 → Q (some (.int (k_law F u a b c).1)) F1) : V2 L xs (d + 4) m_P_law 0 (xEntry [.ref 0, .int u, .int a, .int b, .int c] 5) [] F Q := by
  have q0 : (0 : Int32).toInt = 0 := by decide
  have q1 : (1 : Int32).toInt = 1 := by decide
  have q2 : (2 : Int32).toInt = 2 := by decide
  have q3 : (3 : Int32).toInt = 3 := by decide
  have q4 : (4 : Int32).toInt = 4 := by decide
  have q5 : (5 : Int32).toInt = 5 := by decide
  have q6 : (6 : Int32).toInt = 6 := by decide
  have q7 : (7 : Int32).toInt = 7 := by decide
  have q9 : (9 : Int32).toInt = 9 := by decide
  have q20 : (20 : Int32).toInt = 20 := by decide
  have q30 : (30 : Int32).toInt = 30 := by decide
  have q60 : (60 : Int32).toInt = 60 := by decide
  have q99 : (99 : Int32).toInt = 99 := by decide
  refine V2.to (l' := [some (.ref 0), some (.int u), some (.int a), some (.int b), some (.int c)]) ?_ rfl rfl rfl rfl
  refine V2_iload_n (i := 1) d_P_law_0 rfl rfl ?_
  refine V2_iconst (v := 0) d_P_law_1 rfl ?_
  refine V2_iconst (v := 1) d_P_law_2 rfl ?_
  refine V2_callS [.int u, .int (0 : Int32), .int (1 : Int32)] d_P_law_3 rfl rfl lk_P_133 mo_P_within (Nat.le_of_ble_eq_true rfl) (Nat.le_of_ble_eq_true rfl) ?_
  refine V2.to (l' := [some (.int u), some (.int (0 : Int32)), some (.int (1 : Int32))]) ?_ rfl rfl rfl rfl
  refine V2_iload_n (i := 0) d_P_within_0 rfl rfl ?_
  refine V2_iload_n (i := 1) d_P_within_1 rfl rfl ?_
  refine V2_icmp_lt (tgt := 14) d_P_within_2 rfl (fun c1 => ?_) (fun c1 => ?_)
  · refine V2_iconst (v := 0) d_P_within_14 rfl ?_
    refine V2_zreturn d_P_within_15 rfl (by decide) ?_
    refine V2.to (st' := [.int (0 : Int32)]) ?_ rfl rfl rfl rfl
    refine V2_if_ne (tgt := 15) d_P_law_6 rfl (fun c => (by first | exact absurd c (by decide) | exact absurd (by decide) c)) (fun _ => ?_)
    refine V2_aload_n (i := 0) d_P_law_9 rfl rfl ?_
    refine V2_iconst (v := 1) d_P_law_10 rfl ?_
    refine V2_callV [.int (1 : Int32)] d_P_law_11 rfl rfl lk_P_66 mo_P_fails (by decide) rfl rfl rfl (Nat.le_of_ble_eq_true rfl) (Nat.le_of_ble_eq_true rfl) ?_
    refine c_P_fails1 ?_
    refine V2_topi (fun v2 ev2 => ?_)
    refine V2_ireturn d_P_law_14 rfl ?_
    have e : k_law F u a b c = (-1000000000 - 1, errF F 1) := by unfold k_law; rw [if_neg (fun h => hu (by rw [h]; decide)), if_neg (fun h => hu (by rw [h]; decide))]
    rw [e] at hQ
    subst ev2
    exact xQi (hQ _ (mid_err hR (by decide))) rfl rfl
  · refine V2_iload_n (i := 0) d_P_within_5 rfl rfl ?_
    refine V2_iload_n (i := 2) d_P_within_6 rfl rfl ?_
    refine V2_icmp_gt (tgt := 14) d_P_within_7 rfl (fun c3 => ?_) (fun c3 => ?_)
    · refine V2_iconst (v := 0) d_P_within_14 rfl ?_
      refine V2_zreturn d_P_within_15 rfl (by decide) ?_
      refine V2.to (st' := [.int (0 : Int32)]) ?_ rfl rfl rfl rfl
      refine V2_if_ne (tgt := 15) d_P_law_6 rfl (fun c => (by first | exact absurd c (by decide) | exact absurd (by decide) c)) (fun _ => ?_)
      refine V2_aload_n (i := 0) d_P_law_9 rfl rfl ?_
      refine V2_iconst (v := 1) d_P_law_10 rfl ?_
      refine V2_callV [.int (1 : Int32)] d_P_law_11 rfl rfl lk_P_66 mo_P_fails (by decide) rfl rfl rfl (Nat.le_of_ble_eq_true rfl) (Nat.le_of_ble_eq_true rfl) ?_
      refine c_P_fails1 ?_
      refine V2_topi (fun v4 ev4 => ?_)
      refine V2_ireturn d_P_law_14 rfl ?_
      have e : k_law F u a b c = (-1000000000 - 1, errF F 1) := by unfold k_law; rw [if_neg (fun h => hu (by rw [h]; decide)), if_neg (fun h => hu (by rw [h]; decide))]
      rw [e] at hQ
      subst ev4
      exact xQi (hQ _ (mid_err hR (by decide))) rfl rfl
    · refine V2_iconst (v := 1) d_P_within_10 rfl ?_
      refine V2_goto (tgt := 15) d_P_within_11 rfl ?_
      refine V2_zreturn d_P_within_15 rfl (by decide) ?_
      refine V2.to (st' := [.int (1 : Int32)]) ?_ rfl rfl rfl rfl
      refine V2_if_ne (tgt := 15) d_P_law_6 rfl (fun _ => ?_) (fun c => (by first | exact absurd c (by decide) | exact absurd (by decide) c))
      refine V2_aload_n (i := 0) d_P_law_15 rfl rfl ?_
      refine V2_getr (a := 1) d_P_law_16 fl_P_10 (by decide) rfl (by decide) rfl ?_
      refine V2_iload_n (i := 1) d_P_law_19 rfl rfl ?_
      refine V2_callV [.int u] d_P_law_20 rfl rfl lk_P_168 mo_World_lawOf (by decide) rfl rfl rfl (Nat.le_of_ble_eq_true rfl) (Nat.le_of_ble_eq_true rfl) ?_
      refine V2.to (l' := [some (.ref 1), some (.int u)]) ?_ rfl rfl rfl rfl
      refine V2_iload_n (i := 1) d_World_lawOf_0 rfl rfl ?_
      refine V2_if_ne (tgt := 11) d_World_lawOf_1 rfl (fun c5 => ?_) (fun c5 => ?_)
      · refine V2_aload_n (i := 0) d_World_lawOf_11 rfl rfl ?_
        refine V2_getr (a := 11) d_World_lawOf_12 fl_World_32 (by decide) rfl (by decide) rfl ?_
        refine V2_areturn d_World_lawOf_15 rfl (Or.inl ⟨_, rfl⟩) ?_
        refine V2.to (st' := [.ref 11]) ?_ rfl rfl rfl rfl
        refine V2_iload_n (i := 2) d_P_law_23 rfl rfl ?_
        refine V2_iload_n (i := 3) d_P_law_24 rfl rfl ?_
        refine V2_iload (i := 4) d_P_law_25 rfl ?_
        refine V2_callV [.int a, .int b, .int c] d_P_law_27 rfl rfl lk_P_185 mo_Law_gives (by decide) rfl rfl rfl (Nat.le_of_ble_eq_true rfl) (Nat.le_of_ble_eq_true rfl) ?_
        refine c_Law_gives11 hR.1.1.2.2.2.1 hR.2.1.2.2.2.2.1 (fun q13 => ?_)
        refine V2_topi (fun v6 ev6 => ?_)
        refine V2_ireturn d_P_law_30 rfl ?_
        exfalso
        exact (by clear hQ; (try (subst ev6)); (try simp only [xb_eq, xb_ne, Int32.lt_iff_toInt_lt, Int32.le_iff_toInt_le] at *); (try simp only [← Int32.toInt_inj] at *); omega)
      · refine V2_aload_n (i := 0) d_World_lawOf_4 rfl rfl ?_
        refine V2_getr (a := 8) d_World_lawOf_5 fl_World_28 (by decide) rfl (by decide) rfl ?_
        refine V2_goto (tgt := 15) d_World_lawOf_8 rfl ?_
        refine V2_areturn d_World_lawOf_15 rfl (Or.inl ⟨_, rfl⟩) ?_
        refine V2.to (st' := [.ref 8]) ?_ rfl rfl rfl rfl
        refine V2_iload_n (i := 2) d_P_law_23 rfl rfl ?_
        refine V2_iload_n (i := 3) d_P_law_24 rfl rfl ?_
        refine V2_iload (i := 4) d_P_law_25 rfl ?_
        refine V2_callV [.int a, .int b, .int c] d_P_law_27 rfl rfl lk_P_185 mo_Law_gives (by decide) rfl rfl rfl (Nat.le_of_ble_eq_true rfl) (Nat.le_of_ble_eq_true rfl) ?_
        refine c_Law_gives8 hR.1.1.2.2.1 hR.2.1.2.2.2.1 (fun q10 => ?_)
        refine V2_topi (fun v7 ev7 => ?_)
        refine V2_ireturn d_P_law_30 rfl ?_
        exfalso
        exact (by clear hQ; (try (subst ev7)); (try simp only [xb_eq, xb_ne, Int32.lt_iff_toInt_lt, Int32.le_iff_toInt_le] at *); (try simp only [← Int32.toInt_inj] at *); omega)
theorem c_mod_law2 {L : Nat} {xs : Nat → Int32} {d : Nat} {Q : Option Value → xF → Prop} {F : xF} {u a b c : Int32} {F0 : xF} (hR : Rel F0) (hM : Mid F0 F (k_law F0 u a b c).2) (hu : ¬ (0 ≤ u ∧ u ≤ 1)) (hQ : ∀ F2, Rel F2 → Q (some (.int (k_law F0 u a b c).1)) F2) : V2 L xs (d + 3) m_R_law 0 (xEntry [.ref 65, .int u, .int a, .int b, .int c] 5) [] F Q := by
  have q0 : (0 : Int32).toInt = 0 := by decide
  have q1 : (1 : Int32).toInt = 1 := by decide
  have q2 : (2 : Int32).toInt = 2 := by decide
  have q3 : (3 : Int32).toInt = 3 := by decide
  have q4 : (4 : Int32).toInt = 4 := by decide
  have q5 : (5 : Int32).toInt = 5 := by decide
  have q6 : (6 : Int32).toInt = 6 := by decide
  have q7 : (7 : Int32).toInt = 7 := by decide
  have q9 : (9 : Int32).toInt = 9 := by decide
  have q20 : (20 : Int32).toInt = 20 := by decide
  have q30 : (30 : Int32).toInt = 30 := by decide
  have q60 : (60 : Int32).toInt = 60 := by decide
  have q99 : (99 : Int32).toInt = 99 := by decide
  refine V2.to (l' := [some (.ref 65), some (.int u), some (.int a), some (.int b), some (.int c)]) ?_ rfl rfl rfl rfl
  refine V2_iload_n (i := 1) d_R_law_0 rfl rfl ?_
  refine V2_iconst (v := 0) d_R_law_1 rfl ?_
  refine V2_iconst (v := 1) d_R_law_2 rfl ?_
  refine V2_callS [.int u, .int (0 : Int32), .int (1 : Int32)] d_R_law_3 rfl rfl lk_R_51 mo_R_in (Nat.le_of_ble_eq_true rfl) (Nat.le_of_ble_eq_true rfl) ?_
  refine c_R_in ?_
  refine V2_topi (fun v1 ev1 => ?_)
  refine V2_if_ne (tgt := 15) d_R_law_6 rfl (fun c2 => ?_) (fun c2 => ?_)
  · refine V2_iload_n (i := 1) d_R_law_15 rfl rfl ?_
    refine V2_if_ne (tgt := 30) d_R_law_16 rfl (fun c3 => ?_) (fun c3 => ?_)
    · refine V2_aload_n (i := 0) d_R_law_30 rfl rfl ?_
      refine V2_iload_n (i := 2) d_R_law_31 rfl rfl ?_
      refine V2_iload_n (i := 3) d_R_law_32 rfl rfl ?_
      refine V2_iload (i := 4) d_R_law_33 rfl ?_
      refine V2_callV [.int a, .int b, .int c] d_R_law_35 rfl rfl lk_R_136 mo_R_rubTold (by decide) rfl rfl rfl (Nat.le_of_ble_eq_true rfl) (Nat.le_of_ble_eq_true rfl) ?_
      refine c_R_rubTold (by rw [hM.1 66 (by decide)]; exact hR.2.1.2.2.2.2.1) (fun q71 q72 => ?_)
      refine V2_topi (fun v4 ev4 => ?_)
      refine V2_ireturn d_R_law_38 rfl ?_
      exfalso
      exact (by clear hQ; (try (subst ev4 ev1)); (try simp only [xb_eq, xb_ne, Int32.lt_iff_toInt_lt, Int32.le_iff_toInt_le] at *); (try simp only [← Int32.toInt_inj] at *); omega)
    · refine V2_aload_n (i := 0) d_R_law_19 rfl rfl ?_
      refine V2_iload_n (i := 2) d_R_law_20 rfl rfl ?_
      refine V2_iload_n (i := 3) d_R_law_21 rfl rfl ?_
      refine V2_iload (i := 4) d_R_law_22 rfl ?_
      refine V2_callV [.int a, .int b, .int c] d_R_law_24 rfl rfl lk_R_133 mo_R_gripTold (by decide) rfl rfl rfl (Nat.le_of_ble_eq_true rfl) (Nat.le_of_ble_eq_true rfl) ?_
      refine c_R_gripTold (by rw [hM.1 66 (by decide)]; exact hR.2.1.2.2.2.1) (fun q71 q72 => ?_)
      refine V2_topi (fun v5 ev5 => ?_)
      refine V2_goto (tgt := 38) d_R_law_27 rfl ?_
      refine V2_ireturn d_R_law_38 rfl ?_
      exfalso
      exact (by clear hQ; (try (subst ev5 ev1)); (try simp only [xb_eq, xb_ne, Int32.lt_iff_toInt_lt, Int32.le_iff_toInt_le] at *); (try simp only [← Int32.toInt_inj] at *); omega)
  · refine V2_aload_n (i := 0) d_R_law_9 rfl rfl ?_
    refine V2_iconst (v := 1) d_R_law_10 rfl ?_
    refine V2_callV [.int (1 : Int32)] d_R_law_11 rfl rfl lk_R_55 mo_R_error (by decide) rfl rfl rfl (Nat.le_of_ble_eq_true rfl) (Nat.le_of_ble_eq_true rfl) ?_
    refine c_R_error1 ?_
    refine V2_topi (fun v6 ev6 => ?_)
    refine V2_ireturn d_R_law_14 rfl ?_
    have e : k_law F0 u a b c = (-1000000000 - 1, errF F0 1) := by unfold k_law; rw [if_neg (fun h => hu (by rw [h]; decide)), if_neg (fun h => hu (by rw [h]; decide))]
    rw [e] at hQ hM
    subst ev6 ev1
    exact xQi (hQ _ (rel_err hR hM)) rfl rfl
