/-! the class: people, and what they push and weigh -/
theorem xmx0 {t : Int32} : (if (0 : Int32) < t then t else 0) = (if t < 0 then 0 else t) := by
  have e0 : (0 : Int32).toInt = 0 := by decide
  by_cases h : t < 0
  · rw [if_pos h, if_neg (fun h2 => by rw [Int32.lt_iff_toInt_lt] at h h2; omega)]
  · by_cases h2 : (0 : Int32) < t
    · rw [if_pos h2, if_neg h]
    · rw [if_neg h2, if_neg h]
      refine Int32.toInt_inj.mp ?_
      rw [Int32.lt_iff_toInt_lt] at h h2
      omega
theorem xin_t {set : Int32} {p : Nat} (h : ¬ (@ite _ (inSet set p) (Classical.propDecidable _) (1 : Int32) 0) = 0) : inSet set p := by
  by_cases hp : inSet set p
  · exact hp
  · rw [if_neg hp] at h
    exact absurd rfl h
theorem xin_f {set : Int32} {p : Nat} (h : (@ite _ (inSet set p) (Classical.propDecidable _) (1 : Int32) 0) = 0) : ¬ inSet set p := fun hp => by
  rw [if_pos hp] at h
  cases h
theorem c_Push_size {L : Nat} {xs : Nat → Int32} {d : Nat} {Q : Option Value → xF → Prop} {F : xF} {P : Nat} (hP : F 3 2 = nI P) (hQ : Q (some (.int (nI P))) F) : V2 L xs (d + 1) m_Push_size 0 (xEntry [.ref 3] 1) [] F Q := by
  refine V2.to (l' := [some (.ref 3)]) ?_ rfl rfl rfl rfl
  refine V2_aload_n (i := 0) d_Push_size_0 rfl rfl ?_
  refine V2_get (v := F 3 2) d_Push_size_1 fl_Push_16 (by decide) rfl (by decide) rfl rfl ?_
  refine V2_topi (fun v1 ev1 => ?_)
  refine V2_ireturn d_Push_size_4 rfl ?_
  subst ev1
  rw [hP]
  exact hQ
theorem c_Push_has {L : Nat} {xs : Nat → Int32} {d : Nat} {Q : Option Value → xF → Prop} {F : xF} {i : Int32} {P : Nat} (hP : F 3 2 = nI P) (hl : P ≤ 6) (hQ : Q (some (.int (xb (0 ≤ i ∧ i < F 3 2)))) F) : V2 L xs d m_Push_has 0 (xEntry [.ref 3, .int i] 2) [] F Q := by
  have q6 : (6 : Int32).toInt = 6 := by decide
  have n9 : (nI P).toInt = (P : Int) := nI_toInt (by omega)
  refine V2.to (l' := [some (.ref 3), some (.int i)]) ?_ rfl rfl rfl rfl
  refine V2_iload_n (i := 1) d_Push_has_0 rfl rfl ?_
  refine V2_if_lt (tgt := 34) d_Push_has_1 rfl (fun c1 => ?_) (fun c1 => ?_)
  · refine V2_iconst (v := 0) d_Push_has_34 rfl ?_
    refine V2_zreturn d_Push_has_35 rfl (by decide) ?_
    exact xQi hQ (by clear hQ; (try skip); (try simp only [xb_eq, xb_ne, Int32.lt_iff_toInt_lt, Int32.le_iff_toInt_le] at *); (try simp only [xb]); (repeat' split); all_goals first | rfl | omega | (exfalso; simp only [← Int32.toInt_inj] at *; omega)) rfl
  · refine V2_iload_n (i := 1) d_Push_has_4 rfl rfl ?_
    refine V2_aload_n (i := 0) d_Push_has_5 rfl rfl ?_
    refine V2_get (v := F 3 2) d_Push_has_6 fl_Push_16 (by decide) rfl (by decide) rfl rfl ?_
    refine V2_topi (fun v2 ev2 => ?_)
    refine V2_icmp_ge (tgt := 34) d_Push_has_9 rfl (fun c3 => ?_) (fun c3 => ?_)
    · refine V2_iconst (v := 0) d_Push_has_34 rfl ?_
      refine V2_zreturn d_Push_has_35 rfl (by decide) ?_
      exact xQi hQ (by clear hQ; (try subst ev2); (try simp only [xb_eq, xb_ne, Int32.lt_iff_toInt_lt, Int32.le_iff_toInt_le] at *); (try simp only [xb]); (repeat' split); all_goals first | rfl | omega | (exfalso; simp only [← Int32.toInt_inj] at *; omega)) rfl
    · refine V2_iload_n (i := 1) d_Push_has_12 rfl rfl ?_
      refine V2_aload_n (i := 0) d_Push_has_13 rfl rfl ?_
      refine V2_getr (a := 5) d_Push_has_14 fl_Push_9 (by decide) rfl (by decide) rfl ?_
      refine V2_alen (t := 0) (v := 6) d_Push_has_17 (by decide) rfl (by decide) rfl ?_
      refine V2_icmp_ge (tgt := 34) d_Push_has_18 rfl (fun c4 => (by first | exact absurd c4 (show ¬ (6 : Int32) ≤ i from fun hh => by have h9 := c3; subst ev2; rw [hP, Int32.le_iff_toInt_le, n9] at h9; rw [Int32.le_iff_toInt_le, q6] at hh; omega) | exact absurd (show ¬ (6 : Int32) ≤ i from fun hh => by have h9 := c3; subst ev2; rw [hP, Int32.le_iff_toInt_le, n9] at h9; rw [Int32.le_iff_toInt_le, q6] at hh; omega) c4)) (fun c4 => ?_)
      refine V2_iload_n (i := 1) d_Push_has_21 rfl rfl ?_
      refine V2_aload_n (i := 0) d_Push_has_22 rfl rfl ?_
      refine V2_getr (a := 7) d_Push_has_23 fl_Push_13 (by decide) rfl (by decide) rfl ?_
      refine V2_alen (t := 0) (v := 6) d_Push_has_26 (by decide) rfl (by decide) rfl ?_
      refine V2_icmp_ge (tgt := 34) d_Push_has_27 rfl (fun c5 => (by first | exact absurd c5 (show ¬ (6 : Int32) ≤ i from fun hh => by have h9 := c3; subst ev2; rw [hP, Int32.le_iff_toInt_le, n9] at h9; rw [Int32.le_iff_toInt_le, q6] at hh; omega) | exact absurd (show ¬ (6 : Int32) ≤ i from fun hh => by have h9 := c3; subst ev2; rw [hP, Int32.le_iff_toInt_le, n9] at h9; rw [Int32.le_iff_toInt_le, q6] at hh; omega) c5)) (fun c5 => ?_)
      refine V2_iconst (v := 1) d_Push_has_30 rfl ?_
      refine V2_goto (tgt := 35) d_Push_has_31 rfl ?_
      refine V2_zreturn d_Push_has_35 rfl (by decide) ?_
      exact xQi hQ (by clear hQ; (try subst ev2); (try simp only [xb_eq, xb_ne, Int32.lt_iff_toInt_lt, Int32.le_iff_toInt_le] at *); (try simp only [xb]); (repeat' split); all_goals first | rfl | omega | (exfalso; simp only [← Int32.toInt_inj] at *; omega)) rfl
theorem c_Push_kindOf {L : Nat} {xs : Nat → Int32} {d : Nat} {Q : Option Value → xF → Prop} {F : xF} {p P : Nat} (hP : F 3 2 = nI P) (hP2 : F 3 2 = nI P) (hl : P ≤ 6) (hp : p < P) (hQ : Q (some (.int (F 5 p))) F) : V2 L xs (d + 2) m_Push_kindOf 0 (xEntry [.ref 3, .int (nI p)] 2) [] F Q := by
  refine V2.to (l' := [some (.ref 3), some (.int (nI p))]) ?_ rfl rfl rfl rfl
  refine V2_aload_n (i := 0) d_Push_kindOf_0 rfl rfl ?_
  refine V2_iload_n (i := 1) d_Push_kindOf_1 rfl rfl ?_
  refine V2_callV [.int (nI p)] d_Push_kindOf_2 rfl rfl lk_Push_28 mo_Push_has (by decide) rfl rfl rfl (Nat.le_of_ble_eq_true rfl) (Nat.le_of_ble_eq_true rfl) ?_
  refine c_Push_has hP hl ?_
  refine V2_topi (fun v1 ev1 => ?_)
  refine V2_if_eq (tgt := 17) d_Push_kindOf_5 rfl (fun c2 => (by first | exact absurd c2 (show ¬ v1 = 0 from by subst ev1; rw [xb_1 ⟨nI_pos' (by omega), by rw [hP]; exact nI_lt hp (by omega)⟩]; decide) | exact absurd (show ¬ v1 = 0 from by subst ev1; rw [xb_1 ⟨nI_pos' (by omega), by rw [hP]; exact nI_lt hp (by omega)⟩]; decide) c2)) (fun c2 => ?_)
  refine V2_aload_n (i := 0) d_Push_kindOf_8 rfl rfl ?_
  refine V2_getr (a := 5) d_Push_kindOf_9 fl_Push_9 (by decide) rfl (by decide) rfl ?_
  refine V2_iload_n (i := 1) d_Push_kindOf_12 rfl rfl ?_
  refine V2_ialoadJ (p) d_Push_kindOf_13 (by decide) rfl (xixA (n := p) rfl (by omega) (by decide)) (xixB (n := p) rfl (by omega)) rfl ?_
  refine V2_topi (fun v3 ev3 => ?_)
  refine V2_goto (tgt := 18) d_Push_kindOf_14 rfl ?_
  refine V2_ireturn d_Push_kindOf_18 rfl ?_
  exact xQi hQ (by clear hQ; (try subst ev3 ev1); (try simp only [xb_eq, xb_ne, Int32.lt_iff_toInt_lt, Int32.le_iff_toInt_le] at *); (try simp only [xb]); (repeat' split); all_goals first | rfl | omega | (exfalso; simp only [← Int32.toInt_inj] at *; omega)) rfl
theorem c_Push_levelOf {L : Nat} {xs : Nat → Int32} {d : Nat} {Q : Option Value → xF → Prop} {F : xF} {p P : Nat} (hP : F 3 2 = nI P) (hP2 : F 3 2 = nI P) (hl : P ≤ 6) (hp : p < P) (hQ : Q (some (.int (F 7 p))) F) : V2 L xs (d + 2) m_Push_levelOf 0 (xEntry [.ref 3, .int (nI p)] 2) [] F Q := by
  refine V2.to (l' := [some (.ref 3), some (.int (nI p))]) ?_ rfl rfl rfl rfl
  refine V2_aload_n (i := 0) d_Push_levelOf_0 rfl rfl ?_
  refine V2_iload_n (i := 1) d_Push_levelOf_1 rfl rfl ?_
  refine V2_callV [.int (nI p)] d_Push_levelOf_2 rfl rfl lk_Push_28 mo_Push_has (by decide) rfl rfl rfl (Nat.le_of_ble_eq_true rfl) (Nat.le_of_ble_eq_true rfl) ?_
  refine c_Push_has hP hl ?_
  refine V2_topi (fun v1 ev1 => ?_)
  refine V2_if_eq (tgt := 17) d_Push_levelOf_5 rfl (fun c2 => (by first | exact absurd c2 (show ¬ v1 = 0 from by subst ev1; rw [xb_1 ⟨nI_pos' (by omega), by rw [hP]; exact nI_lt hp (by omega)⟩]; decide) | exact absurd (show ¬ v1 = 0 from by subst ev1; rw [xb_1 ⟨nI_pos' (by omega), by rw [hP]; exact nI_lt hp (by omega)⟩]; decide) c2)) (fun c2 => ?_)
  refine V2_aload_n (i := 0) d_Push_levelOf_8 rfl rfl ?_
  refine V2_getr (a := 7) d_Push_levelOf_9 fl_Push_13 (by decide) rfl (by decide) rfl ?_
  refine V2_iload_n (i := 1) d_Push_levelOf_12 rfl rfl ?_
  refine V2_ialoadJ (p) d_Push_levelOf_13 (by decide) rfl (xixA (n := p) rfl (by omega) (by decide)) (xixB (n := p) rfl (by omega)) rfl ?_
  refine V2_topi (fun v3 ev3 => ?_)
  refine V2_goto (tgt := 18) d_Push_levelOf_14 rfl ?_
  refine V2_ireturn d_Push_levelOf_18 rfl ?_
  exact xQi hQ (by clear hQ; (try subst ev3 ev1); (try simp only [xb_eq, xb_ne, Int32.lt_iff_toInt_lt, Int32.le_iff_toInt_le] at *); (try simp only [xb]); (repeat' split); all_goals first | rfl | omega | (exfalso; simp only [← Int32.toInt_inj] at *; omega)) rfl
theorem c_Push_weightOf {L : Nat} {xs : Nat → Int32} {d : Nat} {Q : Option Value → xF → Prop} {F : xF} {p P : Nat} (hP : F 3 2 = nI P) (hP2 : F 3 2 = nI P) (hl : P ≤ 6) (hp : p < P) (hQ : Q (some (.int (if F 5 p = 6 then F 7 p else 0))) F) : V2 L xs (d + 3) m_Push_weightOf 0 (xEntry [.ref 3, .int (nI p)] 2) [] F Q := by
  refine V2.to (l' := [some (.ref 3), some (.int (nI p))]) ?_ rfl rfl rfl rfl
  refine V2_aload_n (i := 0) d_Push_weightOf_0 rfl rfl ?_
  refine V2_iload_n (i := 1) d_Push_weightOf_1 rfl rfl ?_
  refine V2_callV [.int (nI p)] d_Push_weightOf_2 rfl rfl lk_Push_28 mo_Push_has (by decide) rfl rfl rfl (Nat.le_of_ble_eq_true rfl) (Nat.le_of_ble_eq_true rfl) ?_
  refine c_Push_has hP hl ?_
  refine V2_topi (fun v1 ev1 => ?_)
  refine V2_if_eq (tgt := 28) d_Push_weightOf_5 rfl (fun c2 => (by first | exact absurd c2 (show ¬ v1 = 0 from by subst ev1; rw [xb_1 ⟨nI_pos' (by omega), by rw [hP]; exact nI_lt hp (by omega)⟩]; decide) | exact absurd (show ¬ v1 = 0 from by subst ev1; rw [xb_1 ⟨nI_pos' (by omega), by rw [hP]; exact nI_lt hp (by omega)⟩]; decide) c2)) (fun c2 => ?_)
  refine V2_aload_n (i := 0) d_Push_weightOf_8 rfl rfl ?_
  refine V2_getr (a := 5) d_Push_weightOf_9 fl_Push_9 (by decide) rfl (by decide) rfl ?_
  refine V2_iload_n (i := 1) d_Push_weightOf_12 rfl rfl ?_
  refine V2_ialoadJ (p) d_Push_weightOf_13 (by decide) rfl (xixA (n := p) rfl (by omega) (by decide)) (xixB (n := p) rfl (by omega)) rfl ?_
  refine V2_topi (fun v3 ev3 => ?_)
  refine V2_bipush (v := 6) d_Push_weightOf_14 rfl ?_
  refine V2_icmp_ne (tgt := 28) d_Push_weightOf_16 rfl (fun c4 => ?_) (fun c4 => ?_)
  · refine V2_iconst (v := 0) d_Push_weightOf_28 rfl ?_
    refine V2_ireturn d_Push_weightOf_29 rfl ?_
    exact xQi hQ (by subst ev3 ev1; simp_all) rfl
  · refine V2_aload_n (i := 0) d_Push_weightOf_19 rfl rfl ?_
    refine V2_getr (a := 7) d_Push_weightOf_20 fl_Push_13 (by decide) rfl (by decide) rfl ?_
    refine V2_iload_n (i := 1) d_Push_weightOf_23 rfl rfl ?_
    refine V2_ialoadJ (p) d_Push_weightOf_24 (by decide) rfl (xixA (n := p) rfl (by omega) (by decide)) (xixB (n := p) rfl (by omega)) rfl ?_
    refine V2_topi (fun v5 ev5 => ?_)
    refine V2_goto (tgt := 29) d_Push_weightOf_25 rfl ?_
    refine V2_ireturn d_Push_weightOf_29 rfl ?_
    exact xQi hQ (by subst ev5 ev3 ev1; simp_all) rfl
theorem c_Push_turn {L : Nat} {xs : Nat → Int32} {d : Nat} {Q : Option Value → xF → Prop} {F : xF} {p P : Nat} {a b : Int32} (hP : F 3 2 = nI P) (hP2 : F 3 2 = nI P) (hl : P ≤ 6) (hp : p < P) (hQ : Q none (xp (xp F 5 p a) 7 p b)) : V2 L xs (d + 1) m_Push_turn 0 (xEntry [.ref 3, .int (nI p), .int a, .int b] 4) [] F Q := by
  refine V2.to (l' := [some (.ref 3), some (.int (nI p)), some (.int a), some (.int b)]) ?_ rfl rfl rfl rfl
  refine V2_aload_n (i := 0) d_Push_turn_0 rfl rfl ?_
  refine V2_iload_n (i := 1) d_Push_turn_1 rfl rfl ?_
  refine V2_callV [.int (nI p)] d_Push_turn_2 rfl rfl lk_Push_28 mo_Push_has (by decide) rfl rfl rfl (Nat.le_of_ble_eq_true rfl) (Nat.le_of_ble_eq_true rfl) ?_
  refine c_Push_has hP hl ?_
  refine V2_topi (fun v1 ev1 => ?_)
  refine V2_if_eq (tgt := 22) d_Push_turn_5 rfl (fun c2 => (by first | exact absurd c2 (show ¬ v1 = 0 from by subst ev1; rw [xb_1 ⟨nI_pos' (by omega), by rw [hP]; exact nI_lt hp (by omega)⟩]; decide) | exact absurd (show ¬ v1 = 0 from by subst ev1; rw [xb_1 ⟨nI_pos' (by omega), by rw [hP]; exact nI_lt hp (by omega)⟩]; decide) c2)) (fun c2 => ?_)
  refine V2_aload_n (i := 0) d_Push_turn_8 rfl rfl ?_
  refine V2_getr (a := 5) d_Push_turn_9 fl_Push_9 (by decide) rfl (by decide) rfl ?_
  refine V2_iload_n (i := 1) d_Push_turn_12 rfl rfl ?_
  refine V2_iload_n (i := 2) d_Push_turn_13 rfl rfl ?_
  refine V2_iastore (j := (p)) d_Push_turn_14 (by decide) rfl (xixA (n := p) rfl (by omega) (by decide)) (xixB (n := p) rfl (by omega)) ?_
  refine V2_aload_n (i := 0) d_Push_turn_15 rfl rfl ?_
  refine V2_getr (a := 7) d_Push_turn_16 fl_Push_13 (by decide) rfl (by decide) rfl ?_
  refine V2_iload_n (i := 1) d_Push_turn_19 rfl rfl ?_
  refine V2_iload_n (i := 3) d_Push_turn_20 rfl rfl ?_
  refine V2_iastore (j := (p)) d_Push_turn_21 (by decide) rfl (xixA (n := p) rfl (by omega) (by decide)) (xixB (n := p) rfl (by omega)) ?_
  refine V2_return d_Push_turn_22 rfl ?_
  exact xQv hQ rfl
theorem c_Push_comes {L : Nat} {xs : Nat → Int32} {d : Nat} {Q : Option Value → xF → Prop} {F : xF} {P : Nat} {a b : Int32} (hP : F 3 2 = nI P) (hlt : P < 6) (hQ : Q (some (.int (nI P))) (xp (xp (xp F 3 2 (nI (P + 1))) 5 P a) 7 P b)) : V2 L xs (d + 2) m_Push_comes 0 (xEntry [.ref 3, .int a, .int b] 3) [] F Q := by
  refine V2.to (l' := [some (.ref 3), some (.int a), some (.int b)]) ?_ rfl rfl rfl rfl
  refine V2_aload_n (i := 0) d_Push_comes_0 rfl rfl ?_
  refine V2_callV [] d_Push_comes_1 rfl rfl lk_Push_20 mo_Push_hasRoom (by decide) rfl rfl rfl (Nat.le_of_ble_eq_true rfl) (Nat.le_of_ble_eq_true rfl) ?_
  refine V2.to (l' := [some (.ref 3)]) ?_ rfl rfl rfl rfl
  refine V2_aload_n (i := 0) d_Push_hasRoom_0 rfl rfl ?_
  refine V2_get (v := F 3 2) d_Push_hasRoom_1 fl_Push_16 (by decide) rfl (by decide) rfl rfl ?_
  refine V2_topi (fun v1 ev1 => ?_)
  refine V2_bipush (v := 6) d_Push_hasRoom_4 rfl ?_
  refine V2_icmp_ge (tgt := 13) d_Push_hasRoom_6 rfl (fun c2 => (by first | exact absurd c2 (show ¬ (6 : Int32) ≤ v1 from by subst ev1; rw [hP]; exact nI_ge (b := 6) hlt (by decide)) | exact absurd (show ¬ (6 : Int32) ≤ v1 from by subst ev1; rw [hP]; exact nI_ge (b := 6) hlt (by decide)) c2)) (fun c2 => ?_)
  refine V2_iconst (v := 1) d_Push_hasRoom_9 rfl ?_
  refine V2_goto (tgt := 14) d_Push_hasRoom_10 rfl ?_
  refine V2_zreturn d_Push_hasRoom_14 rfl (by decide) ?_
  refine V2.to (st' := [.int (1 : Int32)]) ?_ rfl rfl rfl rfl
  refine V2_if_eq (tgt := 29) d_Push_comes_4 rfl (fun c => (by first | exact absurd c (by decide) | exact absurd (by decide) c)) (fun _ => ?_)
  refine V2_aload_n (i := 0) d_Push_comes_7 rfl rfl ?_
  refine V2_dup d_Push_comes_8 rfl ?_
  refine V2_get (v := F 3 2) d_Push_comes_9 fl_Push_16 (by decide) rfl (by decide) rfl rfl ?_
  refine V2_topi (fun v3 ev3 => ?_)
  refine V2_iconst (v := 1) d_Push_comes_12 rfl ?_
  refine V2_iadd d_Push_comes_13 ?_
  refine V2_topi (fun v4 ev4 => ?_)
  refine V2_put d_Push_comes_14 fl_Push_16 (by decide) rfl (by decide) rfl ?_
  refine V2_aload_n (i := 0) d_Push_comes_17 rfl rfl ?_
  refine V2_aload_n (i := 0) d_Push_comes_18 rfl rfl ?_
  refine V2_get (v := v4) d_Push_comes_19 fl_Push_16 (by decide) rfl (by decide) rfl rfl ?_
  refine V2_iconst (v := 1) d_Push_comes_22 rfl ?_
  refine V2_isub d_Push_comes_23 ?_
  refine V2_topi (fun v5 ev5 => ?_)
  refine V2_iload_n (i := 1) d_Push_comes_24 rfl rfl ?_
  refine V2_iload_n (i := 2) d_Push_comes_25 rfl rfl ?_
  refine V2_callV [.int v5, .int a, .int b] d_Push_comes_26 rfl rfl lk_Push_24 mo_Push_turn (by decide) rfl rfl rfl (Nat.le_of_ble_eq_true rfl) (Nat.le_of_ble_eq_true rfl) ?_
  have e8 : v4 = nI (P + 1) := by
    subst ev5 ev4 ev3 ev1
    rw [hP, nI_1]
  have e7 : v5 = nI P := by
    subst ev5 ev4 ev3 ev1
    rw [hP, nI_1, nI_pred]
  rw [e8, e7]
  refine c_Push_turn (P := P + 1) (p := P) (xp_same _ _ _ _) (xp_same _ _ _ _) hlt (by omega) ?_
  refine V2_aload_n (i := 0) d_Push_comes_29 rfl rfl ?_
  refine V2_get (v := (nI (P + 1))) d_Push_comes_30 fl_Push_16 (by decide) rfl (by decide) rfl rfl ?_
  refine V2_topi (fun v6 ev6 => ?_)
  refine V2_iconst (v := 1) d_Push_comes_33 rfl ?_
  refine V2_isub d_Push_comes_34 ?_
  refine V2_topi (fun v7 ev7 => ?_)
  refine V2_ireturn d_Push_comes_35 rfl ?_
  exact xQi hQ (by rw [ev7, ev6]; exact nI_pred _) rfl
theorem c_Push_dropLast {L : Nat} {xs : Nat → Int32} {d : Nat} {Q : Option Value → xF → Prop} {F : xF} {P : Nat} (hP : F 3 2 = nI (P + 1)) (hl : P ≤ 6) (hQ : Q none (xp F 3 2 (nI P))) : V2 L xs (d + 1) m_Push_dropLast 0 (xEntry [.ref 3] 1) [] F Q := by
  refine V2.to (l' := [some (.ref 3)]) ?_ rfl rfl rfl rfl
  refine V2_aload_n (i := 0) d_Push_dropLast_0 rfl rfl ?_
  refine V2_aload_n (i := 0) d_Push_dropLast_1 rfl rfl ?_
  refine V2_get (v := F 3 2) d_Push_dropLast_2 fl_Push_16 (by decide) rfl (by decide) rfl rfl ?_
  refine V2_topi (fun v1 ev1 => ?_)
  refine V2_iconst (v := 1) d_Push_dropLast_5 rfl ?_
  refine V2_isub d_Push_dropLast_6 ?_
  refine V2_topi (fun v2 ev2 => ?_)
  refine V2_iconst (v := 0) d_Push_dropLast_7 rfl ?_
  refine V2_mmax d_Push_dropLast_8 lz_Push_32 (Nat.le_of_ble_eq_true rfl) ?_
  refine V2_topi (fun v3 ev3 => ?_)
  refine V2_put d_Push_dropLast_11 fl_Push_16 (by decide) rfl (by decide) rfl ?_
  refine V2_return d_Push_dropLast_14 rfl ?_
  subst ev3 ev2 ev1
  rw [hP, nI_pred, if_neg (nI_pos (by omega))]
  exact hQ
theorem c_Push_isIn {L : Nat} {xs : Nat → Int32} {d : Nat} {Q : Option Value → xF → Prop} {F : xF} {set : Int32} {p : Nat}  (hQ : Q (some (.int (@ite _ (inSet set p) (Classical.propDecidable _) 1 0))) F) : V2 L xs d m_Push_isIn 0 (xEntry [.int set, .int (nI p)] 2) [] F Q := by
  refine V2.to (l' := [some (.int set), some (.int (nI p))]) ?_ rfl rfl rfl rfl
  refine V2_iload_n (i := 0) d_Push_isIn_0 rfl rfl ?_
  refine V2_iload_n (i := 1) d_Push_isIn_1 rfl rfl ?_
  refine V2_ishr d_Push_isIn_2 ?_
  refine V2_topi (fun v1 ev1 => ?_)
  refine V2_iconst (v := 1) d_Push_isIn_3 rfl ?_
  refine V2_iand d_Push_isIn_4 ?_
  refine V2_topi (fun v2 ev2 => ?_)
  refine V2_iconst (v := 1) d_Push_isIn_5 rfl ?_
  refine V2_icmp_ne (tgt := 13) d_Push_isIn_6 rfl (fun c3 => ?_) (fun c3 => ?_)
  · refine V2_iconst (v := 0) d_Push_isIn_13 rfl ?_
    refine V2_zreturn d_Push_isIn_14 rfl (by decide) ?_
    exact xQi hQ (by unfold inSet; subst ev2 ev1; simp_all) rfl
  · refine V2_iconst (v := 1) d_Push_isIn_9 rfl ?_
    refine V2_goto (tgt := 14) d_Push_isIn_10 rfl ?_
    refine V2_zreturn d_Push_isIn_14 rfl (by decide) ?_
    exact xQi hQ (by unfold inSet; subst ev2 ev1; simp_all) rfl
theorem c_Push_pushOf_2 {L : Nat} {xs : Nat → Int32} {d : Nat} {Q : Option Value → xF → Prop} {F : xF} {p P : Nat} (hP : F 3 2 = nI P) (hP2 : F 3 2 = nI P) (hl : P ≤ 6) (hp : p < P) (hQ : Q (some (.int (pushK (F 5 p) (F 7 p) (F 2 3) (F 2 2) (F 2 5)))) F) : V2 L xs (d + 3) m_Push_pushOf 0 (xEntry [.ref 3, .int (nI p), .ref 2] 7) [] F Q := by
  refine V2.to (l' := [some (.ref 3), some (.int (nI p)), some (.ref 2), none, none, none, none]) ?_ rfl rfl rfl rfl
  refine V2_aload_n (i := 0) d_Push_pushOf_0 rfl rfl ?_
  refine V2_iload_n (i := 1) d_Push_pushOf_1 rfl rfl ?_
  refine V2_callV [.int (nI p)] d_Push_pushOf_2 rfl rfl lk_Push_28 mo_Push_has (by decide) rfl rfl rfl (Nat.le_of_ble_eq_true rfl) (Nat.le_of_ble_eq_true rfl) ?_
  refine c_Push_has hP hl ?_
  refine V2_topi (fun v1 ev1 => ?_)
  refine V2_if_ne (tgt := 10) d_Push_pushOf_5 rfl (fun c2 => ?_) (fun c2 => (by first | exact absurd (show ¬ v1 = 0 from by subst ev1; rw [xb_1 ⟨nI_pos' (by omega), by rw [hP]; exact nI_lt hp (by omega)⟩]; decide) c2 | exact absurd c2 (show ¬ v1 = 0 from by subst ev1; rw [xb_1 ⟨nI_pos' (by omega), by rw [hP]; exact nI_lt hp (by omega)⟩]; decide)))
  refine V2_aload_n (i := 2) d_Push_pushOf_10 rfl rfl ?_
  refine V2_get (v := F 2 3) d_Push_pushOf_11 fl_Push_40 (by decide) rfl (by decide) rfl rfl ?_
  refine V2_topi (fun v3 ev3 => ?_)
  refine V2_if_ne (tgt := 21) d_Push_pushOf_14 rfl (fun c4 => ?_) (fun c4 => ?_)
  · refine V2_iconst (v := 0) d_Push_pushOf_21 rfl ?_
    refine V2_istore_n (i := 3) (l' := [some (.ref 3), some (.int (nI p)), some (.ref 2), some (.int (0 : Int32)), none, none, none]) d_Push_pushOf_22 rfl (xst_r (Nat.le_of_ble_eq_true rfl) rfl rfl) ?_
    refine V2_iload_n (i := 3) d_Push_pushOf_23 rfl rfl ?_
    refine V2_if_eq (tgt := 36) d_Push_pushOf_24 rfl (fun _ => ?_) (fun c => (by first | exact absurd c (by decide) | exact absurd (by decide) c))
    refine V2_iconst (v := 0) d_Push_pushOf_36 rfl ?_
    refine V2_istore (i := 4) (l' := [some (.ref 3), some (.int (nI p)), some (.ref 2), some (.int (0 : Int32)), some (.int (0 : Int32)), none, none]) d_Push_pushOf_37 (xst_i (Nat.le_of_ble_eq_true rfl) rfl rfl) ?_
    refine V2_iload_n (i := 3) d_Push_pushOf_39 rfl rfl ?_
    refine V2_if_eq (tgt := 54) d_Push_pushOf_40 rfl (fun _ => ?_) (fun c => (by first | exact absurd c (by decide) | exact absurd (by decide) c))
    refine V2_iconst (v := 0) d_Push_pushOf_54 rfl ?_
    refine V2_istore (i := 5) (l' := [some (.ref 3), some (.int (nI p)), some (.ref 2), some (.int (0 : Int32)), some (.int (0 : Int32)), some (.int (0 : Int32)), none]) d_Push_pushOf_55 (xst_i (Nat.le_of_ble_eq_true rfl) rfl rfl) ?_
    refine V2_aload_n (i := 2) d_Push_pushOf_57 rfl rfl ?_
    refine V2_get (v := F 2 5) d_Push_pushOf_58 fl_Push_45 (by decide) rfl (by decide) rfl rfl ?_
    refine V2_topi (fun v5 ev5 => ?_)
    refine V2_iconst (v := 2) d_Push_pushOf_61 rfl ?_
    refine V2_iremM d_Push_pushOf_62 (by decide) ?_
    refine V2_topi (fun v6 ev6 => ?_)
    refine V2_if_ne (tgt := 71) d_Push_pushOf_63 rfl (fun c7 => ?_) (fun c7 => ?_)
    · refine V2_iconst (v := 0) d_Push_pushOf_71 rfl ?_
      refine V2_istore (i := 6) (l' := [some (.ref 3), some (.int (nI p)), some (.ref 2), some (.int (0 : Int32)), some (.int (0 : Int32)), some (.int (0 : Int32)), some (.int (0 : Int32))]) d_Push_pushOf_72 (xst_i (Nat.le_of_ble_eq_true rfl) rfl rfl) ?_
      refine V2_aload_n (i := 0) d_Push_pushOf_74 rfl rfl ?_
      refine V2_getr (a := 5) d_Push_pushOf_75 fl_Push_9 (by decide) rfl (by decide) rfl ?_
      refine V2_iload_n (i := 1) d_Push_pushOf_78 rfl rfl ?_
      refine V2_ialoadJ (p) d_Push_pushOf_79 (by decide) rfl (xixA (n := p) rfl (by omega) (by decide)) (xixB (n := p) rfl (by omega)) rfl ?_
      refine V2_topi (fun v8 ev8 => ?_)
      by_cases c9_1 : v8 = 1
      · refine V2_tableIn (tgt := 120) (off := 40) d_Push_pushOf_80 (by rw [c9_1]; decide) (by rw [c9_1]; decide) (by rw [c9_1]; decide) rfl ?_
        refine V2_iload (i := 5) d_Push_pushOf_120 rfl ?_
        refine V2_ireturn d_Push_pushOf_122 rfl ?_
        exact xQi hQ (by subst ev8 ev6 ev5 ev3 ev1; first | (simp_all [pushK]; done) | (rw [xmx0]; simp_all [pushK]; done)) rfl
      by_cases c9_2 : v8 = 2
      · refine V2_tableIn (tgt := 123) (off := 43) d_Push_pushOf_80 (by rw [c9_2]; decide) (by rw [c9_2]; decide) (by rw [c9_2]; decide) rfl ?_
        refine V2_iload (i := 6) d_Push_pushOf_123 rfl ?_
        refine V2_ireturn d_Push_pushOf_125 rfl ?_
        exact xQi hQ (by subst ev8 ev6 ev5 ev3 ev1; first | (simp_all [pushK]; done) | (rw [xmx0]; simp_all [pushK]; done)) rfl
      by_cases c9_3 : v8 = 3
      · refine V2_tableIn (tgt := 126) (off := 46) d_Push_pushOf_80 (by rw [c9_3]; decide) (by rw [c9_3]; decide) (by rw [c9_3]; decide) rfl ?_
        refine V2_iload_n (i := 3) d_Push_pushOf_126 rfl rfl ?_
        refine V2_if_eq (tgt := 134) d_Push_pushOf_127 rfl (fun _ => ?_) (fun c => (by first | exact absurd c (by decide) | exact absurd (by decide) c))
        refine V2_aload_n (i := 0) d_Push_pushOf_134 rfl rfl ?_
        refine V2_getr (a := 7) d_Push_pushOf_135 fl_Push_13 (by decide) rfl (by decide) rfl ?_
        refine V2_iload_n (i := 1) d_Push_pushOf_138 rfl rfl ?_
        refine V2_ialoadJ (p) d_Push_pushOf_139 (by decide) rfl (xixA (n := p) rfl (by omega) (by decide)) (xixB (n := p) rfl (by omega)) rfl ?_
        refine V2_topi (fun v10 ev10 => ?_)
        refine V2_ireturn d_Push_pushOf_140 rfl ?_
        exact xQi hQ (by subst ev10 ev8 ev6 ev5 ev3 ev1; first | (simp_all [pushK]; done) | (rw [xmx0]; simp_all [pushK]; done)) rfl
      by_cases c9_4 : v8 = 4
      · refine V2_tableIn (tgt := 141) (off := 61) d_Push_pushOf_80 (by rw [c9_4]; decide) (by rw [c9_4]; decide) (by rw [c9_4]; decide) rfl ?_
        refine V2_iload (i := 5) d_Push_pushOf_141 rfl ?_
        refine V2_aload_n (i := 2) d_Push_pushOf_143 rfl rfl ?_
        refine V2_get (v := F 2 2) d_Push_pushOf_144 fl_Push_48 (by decide) rfl (by decide) rfl rfl ?_
        refine V2_topi (fun v11 ev11 => ?_)
        refine V2_bipush (v := 8) d_Push_pushOf_147 rfl ?_
        refine V2_idiv d_Push_pushOf_149 (by decide) ?_
        refine V2_topi (fun v12 ev12 => ?_)
        refine V2_iadd d_Push_pushOf_150 ?_
        refine V2_topi (fun v13 ev13 => ?_)
        refine V2_ireturn d_Push_pushOf_151 rfl ?_
        exact xQi hQ (by subst ev13 ev12 ev11 ev8 ev6 ev5 ev3 ev1; first | (simp_all [pushK]; done) | (rw [xmx0]; simp_all [pushK]; done)) rfl
      by_cases c9_5 : v8 = 5
      · refine V2_tableIn (tgt := 152) (off := 72) d_Push_pushOf_80 (by rw [c9_5]; decide) (by rw [c9_5]; decide) (by rw [c9_5]; decide) rfl ?_
        refine V2_iconst (v := 0) d_Push_pushOf_152 rfl ?_
        refine V2_iload (i := 6) d_Push_pushOf_153 rfl ?_
        refine V2_aload_n (i := 2) d_Push_pushOf_155 rfl rfl ?_
        refine V2_get (v := F 2 5) d_Push_pushOf_156 fl_Push_45 (by decide) rfl (by decide) rfl rfl ?_
        refine V2_topi (fun v14 ev14 => ?_)
        refine V2_bipush (v := 8) d_Push_pushOf_159 rfl ?_
        refine V2_idiv d_Push_pushOf_161 (by decide) ?_
        refine V2_topi (fun v15 ev15 => ?_)
        refine V2_isub d_Push_pushOf_162 ?_
        refine V2_topi (fun v16 ev16 => ?_)
        refine V2_mmax d_Push_pushOf_163 lz_Push_32 (Nat.le_of_ble_eq_true rfl) ?_
        refine V2_topi (fun v17 ev17 => ?_)
        refine V2_ireturn d_Push_pushOf_166 rfl ?_
        exact xQi hQ (by subst ev17 ev16 ev15 ev14 ev8 ev6 ev5 ev3 ev1; first | (simp_all [pushK]; done) | (rw [xmx0]; simp_all [pushK]; done)) rfl
      by_cases c9_6 : v8 = 6
      · refine V2_tableIn (tgt := 167) (off := 87) d_Push_pushOf_80 (by rw [c9_6]; decide) (by rw [c9_6]; decide) (by rw [c9_6]; decide) rfl ?_
        refine V2_iconst (v := 0) d_Push_pushOf_167 rfl ?_
        refine V2_ireturn d_Push_pushOf_168 rfl ?_
        exact xQi hQ (by subst ev8 ev6 ev5 ev3 ev1; first | (simp_all [pushK]; done) | (rw [xmx0]; simp_all [pushK]; done)) rfl
      refine V2_tableOut (tgt := 169) d_Push_pushOf_80 (by have := lv_neT (a := 1) c9_1 rfl; have := lv_neT (a := 2) c9_2 rfl; have := lv_neT (a := 3) c9_3 rfl; have := lv_neT (a := 4) c9_4 rfl; have := lv_neT (a := 5) c9_5 rfl; have := lv_neT (a := 6) c9_6 rfl; omega) rfl ?_
      refine V2_iload (i := 4) d_Push_pushOf_169 rfl ?_
      refine V2_ireturn d_Push_pushOf_171 rfl ?_
      exact xQi hQ (by subst ev8 ev6 ev5 ev3 ev1; first | (simp_all [pushK]; done) | (rw [xmx0]; simp_all [pushK]; done)) rfl
    · refine V2_iload (i := 4) d_Push_pushOf_66 rfl ?_
      refine V2_goto (tgt := 72) d_Push_pushOf_68 rfl ?_
      refine V2_istore (i := 6) (l' := [some (.ref 3), some (.int (nI p)), some (.ref 2), some (.int (0 : Int32)), some (.int (0 : Int32)), some (.int (0 : Int32)), some (.int (0 : Int32))]) d_Push_pushOf_72 (xst_i (Nat.le_of_ble_eq_true rfl) rfl rfl) ?_
      refine V2_aload_n (i := 0) d_Push_pushOf_74 rfl rfl ?_
      refine V2_getr (a := 5) d_Push_pushOf_75 fl_Push_9 (by decide) rfl (by decide) rfl ?_
      refine V2_iload_n (i := 1) d_Push_pushOf_78 rfl rfl ?_
      refine V2_ialoadJ (p) d_Push_pushOf_79 (by decide) rfl (xixA (n := p) rfl (by omega) (by decide)) (xixB (n := p) rfl (by omega)) rfl ?_
      refine V2_topi (fun v18 ev18 => ?_)
      by_cases c19_1 : v18 = 1
      · refine V2_tableIn (tgt := 120) (off := 40) d_Push_pushOf_80 (by rw [c19_1]; decide) (by rw [c19_1]; decide) (by rw [c19_1]; decide) rfl ?_
        refine V2_iload (i := 5) d_Push_pushOf_120 rfl ?_
        refine V2_ireturn d_Push_pushOf_122 rfl ?_
        exact xQi hQ (by subst ev18 ev6 ev5 ev3 ev1; first | (simp_all [pushK]; done) | (rw [xmx0]; simp_all [pushK]; done)) rfl
      by_cases c19_2 : v18 = 2
      · refine V2_tableIn (tgt := 123) (off := 43) d_Push_pushOf_80 (by rw [c19_2]; decide) (by rw [c19_2]; decide) (by rw [c19_2]; decide) rfl ?_
        refine V2_iload (i := 6) d_Push_pushOf_123 rfl ?_
        refine V2_ireturn d_Push_pushOf_125 rfl ?_
        exact xQi hQ (by subst ev18 ev6 ev5 ev3 ev1; first | (simp_all [pushK]; done) | (rw [xmx0]; simp_all [pushK]; done)) rfl
      by_cases c19_3 : v18 = 3
      · refine V2_tableIn (tgt := 126) (off := 46) d_Push_pushOf_80 (by rw [c19_3]; decide) (by rw [c19_3]; decide) (by rw [c19_3]; decide) rfl ?_
        refine V2_iload_n (i := 3) d_Push_pushOf_126 rfl rfl ?_
        refine V2_if_eq (tgt := 134) d_Push_pushOf_127 rfl (fun _ => ?_) (fun c => (by first | exact absurd c (by decide) | exact absurd (by decide) c))
        refine V2_aload_n (i := 0) d_Push_pushOf_134 rfl rfl ?_
        refine V2_getr (a := 7) d_Push_pushOf_135 fl_Push_13 (by decide) rfl (by decide) rfl ?_
        refine V2_iload_n (i := 1) d_Push_pushOf_138 rfl rfl ?_
        refine V2_ialoadJ (p) d_Push_pushOf_139 (by decide) rfl (xixA (n := p) rfl (by omega) (by decide)) (xixB (n := p) rfl (by omega)) rfl ?_
        refine V2_topi (fun v20 ev20 => ?_)
        refine V2_ireturn d_Push_pushOf_140 rfl ?_
        exact xQi hQ (by subst ev20 ev18 ev6 ev5 ev3 ev1; first | (simp_all [pushK]; done) | (rw [xmx0]; simp_all [pushK]; done)) rfl
      by_cases c19_4 : v18 = 4
      · refine V2_tableIn (tgt := 141) (off := 61) d_Push_pushOf_80 (by rw [c19_4]; decide) (by rw [c19_4]; decide) (by rw [c19_4]; decide) rfl ?_
        refine V2_iload (i := 5) d_Push_pushOf_141 rfl ?_
        refine V2_aload_n (i := 2) d_Push_pushOf_143 rfl rfl ?_
        refine V2_get (v := F 2 2) d_Push_pushOf_144 fl_Push_48 (by decide) rfl (by decide) rfl rfl ?_
        refine V2_topi (fun v21 ev21 => ?_)
        refine V2_bipush (v := 8) d_Push_pushOf_147 rfl ?_
        refine V2_idiv d_Push_pushOf_149 (by decide) ?_
        refine V2_topi (fun v22 ev22 => ?_)
        refine V2_iadd d_Push_pushOf_150 ?_
        refine V2_topi (fun v23 ev23 => ?_)
        refine V2_ireturn d_Push_pushOf_151 rfl ?_
        exact xQi hQ (by subst ev23 ev22 ev21 ev18 ev6 ev5 ev3 ev1; first | (simp_all [pushK]; done) | (rw [xmx0]; simp_all [pushK]; done)) rfl
      by_cases c19_5 : v18 = 5
      · refine V2_tableIn (tgt := 152) (off := 72) d_Push_pushOf_80 (by rw [c19_5]; decide) (by rw [c19_5]; decide) (by rw [c19_5]; decide) rfl ?_
        refine V2_iconst (v := 0) d_Push_pushOf_152 rfl ?_
        refine V2_iload (i := 6) d_Push_pushOf_153 rfl ?_
        refine V2_aload_n (i := 2) d_Push_pushOf_155 rfl rfl ?_
        refine V2_get (v := F 2 5) d_Push_pushOf_156 fl_Push_45 (by decide) rfl (by decide) rfl rfl ?_
        refine V2_topi (fun v24 ev24 => ?_)
        refine V2_bipush (v := 8) d_Push_pushOf_159 rfl ?_
        refine V2_idiv d_Push_pushOf_161 (by decide) ?_
        refine V2_topi (fun v25 ev25 => ?_)
        refine V2_isub d_Push_pushOf_162 ?_
        refine V2_topi (fun v26 ev26 => ?_)
        refine V2_mmax d_Push_pushOf_163 lz_Push_32 (Nat.le_of_ble_eq_true rfl) ?_
        refine V2_topi (fun v27 ev27 => ?_)
        refine V2_ireturn d_Push_pushOf_166 rfl ?_
        exact xQi hQ (by subst ev27 ev26 ev25 ev24 ev18 ev6 ev5 ev3 ev1; first | (simp_all [pushK]; done) | (rw [xmx0]; simp_all [pushK]; done)) rfl
      by_cases c19_6 : v18 = 6
      · refine V2_tableIn (tgt := 167) (off := 87) d_Push_pushOf_80 (by rw [c19_6]; decide) (by rw [c19_6]; decide) (by rw [c19_6]; decide) rfl ?_
        refine V2_iconst (v := 0) d_Push_pushOf_167 rfl ?_
        refine V2_ireturn d_Push_pushOf_168 rfl ?_
        exact xQi hQ (by subst ev18 ev6 ev5 ev3 ev1; first | (simp_all [pushK]; done) | (rw [xmx0]; simp_all [pushK]; done)) rfl
      refine V2_tableOut (tgt := 169) d_Push_pushOf_80 (by have := lv_neT (a := 1) c19_1 rfl; have := lv_neT (a := 2) c19_2 rfl; have := lv_neT (a := 3) c19_3 rfl; have := lv_neT (a := 4) c19_4 rfl; have := lv_neT (a := 5) c19_5 rfl; have := lv_neT (a := 6) c19_6 rfl; omega) rfl ?_
      refine V2_iload (i := 4) d_Push_pushOf_169 rfl ?_
      refine V2_ireturn d_Push_pushOf_171 rfl ?_
      exact xQi hQ (by subst ev18 ev6 ev5 ev3 ev1; first | (simp_all [pushK]; done) | (rw [xmx0]; simp_all [pushK]; done)) rfl
  · refine V2_iconst (v := 1) d_Push_pushOf_17 rfl ?_
    refine V2_goto (tgt := 22) d_Push_pushOf_18 rfl ?_
    refine V2_istore_n (i := 3) (l' := [some (.ref 3), some (.int (nI p)), some (.ref 2), some (.int (1 : Int32)), none, none, none]) d_Push_pushOf_22 rfl (xst_r (Nat.le_of_ble_eq_true rfl) rfl rfl) ?_
    refine V2_iload_n (i := 3) d_Push_pushOf_23 rfl rfl ?_
    refine V2_if_eq (tgt := 36) d_Push_pushOf_24 rfl (fun c => (by first | exact absurd c (by decide) | exact absurd (by decide) c)) (fun _ => ?_)
    refine V2_aload_n (i := 0) d_Push_pushOf_27 rfl rfl ?_
    refine V2_getr (a := 7) d_Push_pushOf_28 fl_Push_13 (by decide) rfl (by decide) rfl ?_
    refine V2_iload_n (i := 1) d_Push_pushOf_31 rfl rfl ?_
    refine V2_ialoadJ (p) d_Push_pushOf_32 (by decide) rfl (xixA (n := p) rfl (by omega) (by decide)) (xixB (n := p) rfl (by omega)) rfl ?_
    refine V2_topi (fun v28 ev28 => ?_)
    refine V2_goto (tgt := 37) d_Push_pushOf_33 rfl ?_
    refine V2_istore (i := 4) (l' := [some (.ref 3), some (.int (nI p)), some (.ref 2), some (.int (1 : Int32)), some (.int v28), none, none]) d_Push_pushOf_37 (xst_i (Nat.le_of_ble_eq_true rfl) rfl rfl) ?_
    refine V2_iload_n (i := 3) d_Push_pushOf_39 rfl rfl ?_
    refine V2_if_eq (tgt := 54) d_Push_pushOf_40 rfl (fun c => (by first | exact absurd c (by decide) | exact absurd (by decide) c)) (fun _ => ?_)
    refine V2_aload_n (i := 0) d_Push_pushOf_43 rfl rfl ?_
    refine V2_getr (a := 7) d_Push_pushOf_44 fl_Push_13 (by decide) rfl (by decide) rfl ?_
    refine V2_iload_n (i := 1) d_Push_pushOf_47 rfl rfl ?_
    refine V2_ialoadJ (p) d_Push_pushOf_48 (by decide) rfl (xixA (n := p) rfl (by omega) (by decide)) (xixB (n := p) rfl (by omega)) rfl ?_
    refine V2_topi (fun v29 ev29 => ?_)
    refine V2_iconst (v := 2) d_Push_pushOf_49 rfl ?_
    refine V2_iadd d_Push_pushOf_50 ?_
    refine V2_topi (fun v30 ev30 => ?_)
    refine V2_goto (tgt := 55) d_Push_pushOf_51 rfl ?_
    refine V2_istore (i := 5) (l' := [some (.ref 3), some (.int (nI p)), some (.ref 2), some (.int (1 : Int32)), some (.int v28), some (.int v30), none]) d_Push_pushOf_55 (xst_i (Nat.le_of_ble_eq_true rfl) rfl rfl) ?_
    refine V2_aload_n (i := 2) d_Push_pushOf_57 rfl rfl ?_
    refine V2_get (v := F 2 5) d_Push_pushOf_58 fl_Push_45 (by decide) rfl (by decide) rfl rfl ?_
    refine V2_topi (fun v31 ev31 => ?_)
    refine V2_iconst (v := 2) d_Push_pushOf_61 rfl ?_
    refine V2_iremM d_Push_pushOf_62 (by decide) ?_
    refine V2_topi (fun v32 ev32 => ?_)
    refine V2_if_ne (tgt := 71) d_Push_pushOf_63 rfl (fun c33 => ?_) (fun c33 => ?_)
    · refine V2_iconst (v := 0) d_Push_pushOf_71 rfl ?_
      refine V2_istore (i := 6) (l' := [some (.ref 3), some (.int (nI p)), some (.ref 2), some (.int (1 : Int32)), some (.int v28), some (.int v30), some (.int (0 : Int32))]) d_Push_pushOf_72 (xst_i (Nat.le_of_ble_eq_true rfl) rfl rfl) ?_
      refine V2_aload_n (i := 0) d_Push_pushOf_74 rfl rfl ?_
      refine V2_getr (a := 5) d_Push_pushOf_75 fl_Push_9 (by decide) rfl (by decide) rfl ?_
      refine V2_iload_n (i := 1) d_Push_pushOf_78 rfl rfl ?_
      refine V2_ialoadJ (p) d_Push_pushOf_79 (by decide) rfl (xixA (n := p) rfl (by omega) (by decide)) (xixB (n := p) rfl (by omega)) rfl ?_
      refine V2_topi (fun v34 ev34 => ?_)
      by_cases c35_1 : v34 = 1
      · refine V2_tableIn (tgt := 120) (off := 40) d_Push_pushOf_80 (by rw [c35_1]; decide) (by rw [c35_1]; decide) (by rw [c35_1]; decide) rfl ?_
        refine V2_iload (i := 5) d_Push_pushOf_120 rfl ?_
        refine V2_ireturn d_Push_pushOf_122 rfl ?_
        exact xQi hQ (by subst ev34 ev32 ev31 ev30 ev29 ev28 ev3 ev1; first | (simp_all [pushK]; done) | (rw [xmx0]; simp_all [pushK]; done)) rfl
      by_cases c35_2 : v34 = 2
      · refine V2_tableIn (tgt := 123) (off := 43) d_Push_pushOf_80 (by rw [c35_2]; decide) (by rw [c35_2]; decide) (by rw [c35_2]; decide) rfl ?_
        refine V2_iload (i := 6) d_Push_pushOf_123 rfl ?_
        refine V2_ireturn d_Push_pushOf_125 rfl ?_
        exact xQi hQ (by subst ev34 ev32 ev31 ev30 ev29 ev28 ev3 ev1; first | (simp_all [pushK]; done) | (rw [xmx0]; simp_all [pushK]; done)) rfl
      by_cases c35_3 : v34 = 3
      · refine V2_tableIn (tgt := 126) (off := 46) d_Push_pushOf_80 (by rw [c35_3]; decide) (by rw [c35_3]; decide) (by rw [c35_3]; decide) rfl ?_
        refine V2_iload_n (i := 3) d_Push_pushOf_126 rfl rfl ?_
        refine V2_if_eq (tgt := 134) d_Push_pushOf_127 rfl (fun c => (by first | exact absurd c (by decide) | exact absurd (by decide) c)) (fun _ => ?_)
        refine V2_iconst (v := 0) d_Push_pushOf_130 rfl ?_
        refine V2_goto (tgt := 140) d_Push_pushOf_131 rfl ?_
        refine V2_ireturn d_Push_pushOf_140 rfl ?_
        exact xQi hQ (by subst ev34 ev32 ev31 ev30 ev29 ev28 ev3 ev1; first | (simp_all [pushK]; done) | (rw [xmx0]; simp_all [pushK]; done)) rfl
      by_cases c35_4 : v34 = 4
      · refine V2_tableIn (tgt := 141) (off := 61) d_Push_pushOf_80 (by rw [c35_4]; decide) (by rw [c35_4]; decide) (by rw [c35_4]; decide) rfl ?_
        refine V2_iload (i := 5) d_Push_pushOf_141 rfl ?_
        refine V2_aload_n (i := 2) d_Push_pushOf_143 rfl rfl ?_
        refine V2_get (v := F 2 2) d_Push_pushOf_144 fl_Push_48 (by decide) rfl (by decide) rfl rfl ?_
        refine V2_topi (fun v36 ev36 => ?_)
        refine V2_bipush (v := 8) d_Push_pushOf_147 rfl ?_
        refine V2_idiv d_Push_pushOf_149 (by decide) ?_
        refine V2_topi (fun v37 ev37 => ?_)
        refine V2_iadd d_Push_pushOf_150 ?_
        refine V2_topi (fun v38 ev38 => ?_)
        refine V2_ireturn d_Push_pushOf_151 rfl ?_
        exact xQi hQ (by subst ev38 ev37 ev36 ev34 ev32 ev31 ev30 ev29 ev28 ev3 ev1; first | (simp_all [pushK]; done) | (rw [xmx0]; simp_all [pushK]; done)) rfl
      by_cases c35_5 : v34 = 5
      · refine V2_tableIn (tgt := 152) (off := 72) d_Push_pushOf_80 (by rw [c35_5]; decide) (by rw [c35_5]; decide) (by rw [c35_5]; decide) rfl ?_
        refine V2_iconst (v := 0) d_Push_pushOf_152 rfl ?_
        refine V2_iload (i := 6) d_Push_pushOf_153 rfl ?_
        refine V2_aload_n (i := 2) d_Push_pushOf_155 rfl rfl ?_
        refine V2_get (v := F 2 5) d_Push_pushOf_156 fl_Push_45 (by decide) rfl (by decide) rfl rfl ?_
        refine V2_topi (fun v39 ev39 => ?_)
        refine V2_bipush (v := 8) d_Push_pushOf_159 rfl ?_
        refine V2_idiv d_Push_pushOf_161 (by decide) ?_
        refine V2_topi (fun v40 ev40 => ?_)
        refine V2_isub d_Push_pushOf_162 ?_
        refine V2_topi (fun v41 ev41 => ?_)
        refine V2_mmax d_Push_pushOf_163 lz_Push_32 (Nat.le_of_ble_eq_true rfl) ?_
        refine V2_topi (fun v42 ev42 => ?_)
        refine V2_ireturn d_Push_pushOf_166 rfl ?_
        exact xQi hQ (by subst ev42 ev41 ev40 ev39 ev34 ev32 ev31 ev30 ev29 ev28 ev3 ev1; first | (simp_all [pushK]; done) | (rw [xmx0]; simp_all [pushK]; done)) rfl
      by_cases c35_6 : v34 = 6
      · refine V2_tableIn (tgt := 167) (off := 87) d_Push_pushOf_80 (by rw [c35_6]; decide) (by rw [c35_6]; decide) (by rw [c35_6]; decide) rfl ?_
        refine V2_iconst (v := 0) d_Push_pushOf_167 rfl ?_
        refine V2_ireturn d_Push_pushOf_168 rfl ?_
        exact xQi hQ (by subst ev34 ev32 ev31 ev30 ev29 ev28 ev3 ev1; first | (simp_all [pushK]; done) | (rw [xmx0]; simp_all [pushK]; done)) rfl
      refine V2_tableOut (tgt := 169) d_Push_pushOf_80 (by have := lv_neT (a := 1) c35_1 rfl; have := lv_neT (a := 2) c35_2 rfl; have := lv_neT (a := 3) c35_3 rfl; have := lv_neT (a := 4) c35_4 rfl; have := lv_neT (a := 5) c35_5 rfl; have := lv_neT (a := 6) c35_6 rfl; omega) rfl ?_
      refine V2_iload (i := 4) d_Push_pushOf_169 rfl ?_
      refine V2_ireturn d_Push_pushOf_171 rfl ?_
      exact xQi hQ (by subst ev34 ev32 ev31 ev30 ev29 ev28 ev3 ev1; first | (simp_all [pushK]; done) | (rw [xmx0]; simp_all [pushK]; done)) rfl
    · refine V2_iload (i := 4) d_Push_pushOf_66 rfl ?_
      refine V2_goto (tgt := 72) d_Push_pushOf_68 rfl ?_
      refine V2_istore (i := 6) (l' := [some (.ref 3), some (.int (nI p)), some (.ref 2), some (.int (1 : Int32)), some (.int v28), some (.int v30), some (.int v28)]) d_Push_pushOf_72 (xst_i (Nat.le_of_ble_eq_true rfl) rfl rfl) ?_
      refine V2_aload_n (i := 0) d_Push_pushOf_74 rfl rfl ?_
      refine V2_getr (a := 5) d_Push_pushOf_75 fl_Push_9 (by decide) rfl (by decide) rfl ?_
      refine V2_iload_n (i := 1) d_Push_pushOf_78 rfl rfl ?_
      refine V2_ialoadJ (p) d_Push_pushOf_79 (by decide) rfl (xixA (n := p) rfl (by omega) (by decide)) (xixB (n := p) rfl (by omega)) rfl ?_
      refine V2_topi (fun v43 ev43 => ?_)
      by_cases c44_1 : v43 = 1
      · refine V2_tableIn (tgt := 120) (off := 40) d_Push_pushOf_80 (by rw [c44_1]; decide) (by rw [c44_1]; decide) (by rw [c44_1]; decide) rfl ?_
        refine V2_iload (i := 5) d_Push_pushOf_120 rfl ?_
        refine V2_ireturn d_Push_pushOf_122 rfl ?_
        exact xQi hQ (by subst ev43 ev32 ev31 ev30 ev29 ev28 ev3 ev1; first | (simp_all [pushK]; done) | (rw [xmx0]; simp_all [pushK]; done)) rfl
      by_cases c44_2 : v43 = 2
      · refine V2_tableIn (tgt := 123) (off := 43) d_Push_pushOf_80 (by rw [c44_2]; decide) (by rw [c44_2]; decide) (by rw [c44_2]; decide) rfl ?_
        refine V2_iload (i := 6) d_Push_pushOf_123 rfl ?_
        refine V2_ireturn d_Push_pushOf_125 rfl ?_
        exact xQi hQ (by subst ev43 ev32 ev31 ev30 ev29 ev28 ev3 ev1; first | (simp_all [pushK]; done) | (rw [xmx0]; simp_all [pushK]; done)) rfl
      by_cases c44_3 : v43 = 3
      · refine V2_tableIn (tgt := 126) (off := 46) d_Push_pushOf_80 (by rw [c44_3]; decide) (by rw [c44_3]; decide) (by rw [c44_3]; decide) rfl ?_
        refine V2_iload_n (i := 3) d_Push_pushOf_126 rfl rfl ?_
        refine V2_if_eq (tgt := 134) d_Push_pushOf_127 rfl (fun c => (by first | exact absurd c (by decide) | exact absurd (by decide) c)) (fun _ => ?_)
        refine V2_iconst (v := 0) d_Push_pushOf_130 rfl ?_
        refine V2_goto (tgt := 140) d_Push_pushOf_131 rfl ?_
        refine V2_ireturn d_Push_pushOf_140 rfl ?_
        exact xQi hQ (by subst ev43 ev32 ev31 ev30 ev29 ev28 ev3 ev1; first | (simp_all [pushK]; done) | (rw [xmx0]; simp_all [pushK]; done)) rfl
      by_cases c44_4 : v43 = 4
      · refine V2_tableIn (tgt := 141) (off := 61) d_Push_pushOf_80 (by rw [c44_4]; decide) (by rw [c44_4]; decide) (by rw [c44_4]; decide) rfl ?_
        refine V2_iload (i := 5) d_Push_pushOf_141 rfl ?_
        refine V2_aload_n (i := 2) d_Push_pushOf_143 rfl rfl ?_
        refine V2_get (v := F 2 2) d_Push_pushOf_144 fl_Push_48 (by decide) rfl (by decide) rfl rfl ?_
        refine V2_topi (fun v45 ev45 => ?_)
        refine V2_bipush (v := 8) d_Push_pushOf_147 rfl ?_
        refine V2_idiv d_Push_pushOf_149 (by decide) ?_
        refine V2_topi (fun v46 ev46 => ?_)
        refine V2_iadd d_Push_pushOf_150 ?_
        refine V2_topi (fun v47 ev47 => ?_)
        refine V2_ireturn d_Push_pushOf_151 rfl ?_
        exact xQi hQ (by subst ev47 ev46 ev45 ev43 ev32 ev31 ev30 ev29 ev28 ev3 ev1; first | (simp_all [pushK]; done) | (rw [xmx0]; simp_all [pushK]; done)) rfl
      by_cases c44_5 : v43 = 5
      · refine V2_tableIn (tgt := 152) (off := 72) d_Push_pushOf_80 (by rw [c44_5]; decide) (by rw [c44_5]; decide) (by rw [c44_5]; decide) rfl ?_
        refine V2_iconst (v := 0) d_Push_pushOf_152 rfl ?_
        refine V2_iload (i := 6) d_Push_pushOf_153 rfl ?_
        refine V2_aload_n (i := 2) d_Push_pushOf_155 rfl rfl ?_
        refine V2_get (v := F 2 5) d_Push_pushOf_156 fl_Push_45 (by decide) rfl (by decide) rfl rfl ?_
        refine V2_topi (fun v48 ev48 => ?_)
        refine V2_bipush (v := 8) d_Push_pushOf_159 rfl ?_
        refine V2_idiv d_Push_pushOf_161 (by decide) ?_
        refine V2_topi (fun v49 ev49 => ?_)
        refine V2_isub d_Push_pushOf_162 ?_
        refine V2_topi (fun v50 ev50 => ?_)
        refine V2_mmax d_Push_pushOf_163 lz_Push_32 (Nat.le_of_ble_eq_true rfl) ?_
        refine V2_topi (fun v51 ev51 => ?_)
        refine V2_ireturn d_Push_pushOf_166 rfl ?_
        exact xQi hQ (by subst ev51 ev50 ev49 ev48 ev43 ev32 ev31 ev30 ev29 ev28 ev3 ev1; first | (simp_all [pushK]; done) | (rw [xmx0]; simp_all [pushK]; done)) rfl
      by_cases c44_6 : v43 = 6
      · refine V2_tableIn (tgt := 167) (off := 87) d_Push_pushOf_80 (by rw [c44_6]; decide) (by rw [c44_6]; decide) (by rw [c44_6]; decide) rfl ?_
        refine V2_iconst (v := 0) d_Push_pushOf_167 rfl ?_
        refine V2_ireturn d_Push_pushOf_168 rfl ?_
        exact xQi hQ (by subst ev43 ev32 ev31 ev30 ev29 ev28 ev3 ev1; first | (simp_all [pushK]; done) | (rw [xmx0]; simp_all [pushK]; done)) rfl
      refine V2_tableOut (tgt := 169) d_Push_pushOf_80 (by have := lv_neT (a := 1) c44_1 rfl; have := lv_neT (a := 2) c44_2 rfl; have := lv_neT (a := 3) c44_3 rfl; have := lv_neT (a := 4) c44_4 rfl; have := lv_neT (a := 5) c44_5 rfl; have := lv_neT (a := 6) c44_6 rfl; omega) rfl ?_
      refine V2_iload (i := 4) d_Push_pushOf_169 rfl ?_
      refine V2_ireturn d_Push_pushOf_171 rfl ?_
      exact xQi hQ (by subst ev43 ev32 ev31 ev30 ev29 ev28 ev3 ev1; first | (simp_all [pushK]; done) | (rw [xmx0]; simp_all [pushK]; done)) rfl
theorem c_Push_pushOfSet_2_loop {L : Nat} {xs : Nat → Int32} {d : Nat} {Q : Option Value → xF → Prop} {F : xF} {P : Nat} {set : Int32} (hP : F 3 2 = nI P) (hP2 : F 3 2 = nI P) (hl : P ≤ 6) : ∀ (n : Nat) (p : Nat) (v : Int32), p ≤ P → P < n + p → v = sumTo (fun p => @ite _ (inSet set p) (Classical.propDecidable _) (pushK (F 5 p) (F 7 p) (F 2 3) (F 2 2) (F 2 5)) 0) p → (Q (some (.int (sumTo (fun p => @ite _ (inSet set p) (Classical.propDecidable _) (pushK (F 5 p) (F 7 p) (F 2 3) (F 2 2) (F 2 5)) 0) P))) F) → V2 L xs (d + 4) m_Push_pushOfSet 5 [some (.ref 3), some (.int set), some (.ref 2), some (.int v), some (.int (nI p))] [] F Q := by
  intro n
  induction n with
  | zero => exact fun p v h1 h2 => absurd h2 (by omega)
  | succ n ih =>
    intro p v h1 h2 h3 hQ
    refine V2_iload (i := 4) d_Push_pushOfSet_5 rfl ?_
    refine V2_aload_n (i := 0) d_Push_pushOfSet_7 rfl rfl ?_
    refine V2_get (v := F 3 2) d_Push_pushOfSet_8 fl_Push_16 (by decide) rfl (by decide) rfl rfl ?_
    refine V2_topi (fun v1 ev1 => ?_)
    have eN : v1 = nI P := by
      subst ev1
      exact hP
    rw [eN]
    refine V2_icmp_ge (tgt := 43) d_Push_pushOfSet_11 rfl (fun c2 => ?_) (fun c2 => ?_)
    · refine V2_iload_n (i := 3) d_Push_pushOfSet_43 rfl rfl ?_
      refine V2_ireturn d_Push_pushOfSet_44 rfl ?_
      have hpp : p = P := by
        subst ev1
        exact Nat.le_antisymm h1 ((nI_leI (by omega) (by omega)).mp c2)
      subst hpp
      exact xQi hQ h3 rfl
    · have hp : p < P := Nat.not_le.mp (fun hh => c2 ((nI_leI (by omega) (by omega)).mpr hh))
      refine V2_iload_n (i := 3) d_Push_pushOfSet_14 rfl rfl ?_
      refine V2_iload_n (i := 1) d_Push_pushOfSet_15 rfl rfl ?_
      refine V2_iload (i := 4) d_Push_pushOfSet_16 rfl ?_
      refine V2_callS [.int set, .int (nI p)] d_Push_pushOfSet_18 rfl rfl lk_Push_51 mo_Push_isIn (Nat.le_of_ble_eq_true rfl) (Nat.le_of_ble_eq_true rfl) ?_
      refine c_Push_isIn ?_
      refine V2_topi (fun v3 ev3 => ?_)
      refine V2_if_eq (tgt := 34) d_Push_pushOfSet_21 rfl (fun c4 => ?_) (fun c4 => ?_)
      · refine V2_iconst (v := 0) d_Push_pushOfSet_34 rfl ?_
        refine V2_iadd d_Push_pushOfSet_35 ?_
        refine V2_topi (fun v5 ev5 => ?_)
        refine V2_istore_n (i := 3) (l' := [some (.ref 3), some (.int set), some (.ref 2), some (.int v5), some (.int (nI p))]) d_Push_pushOfSet_36 rfl (xst_r (Nat.le_of_ble_eq_true rfl) rfl rfl) ?_
        obtain ⟨v6, ev6⟩ : ∃ y : Int32, y = nI p + 1 := ⟨_, rfl⟩
        refine V2_iinc (i := 4) (v := v6) (l' := [some (.ref 3), some (.int set), some (.ref 2), some (.int v5), some (.int v6)]) d_Push_pushOfSet_37 rfl (by rw [ev6]; rfl) (xst_i (Nat.le_of_ble_eq_true rfl) rfl rfl) ?_
        refine V2_goto (tgt := 5) d_Push_pushOfSet_40 rfl ?_
        exact V2.to (ih (p + 1) v5 (by omega) (by omega) (by subst ev6 ev5 ev3 ev1; rw [h3]; exact (sum_out (f := (fun p => pushK (F 5 p) (F 7 p) (F 2 3) (F 2 2) (F 2 5))) (set := set) (xin_f c4)).symm) hQ) rfl (by rw [ev6, nI_1]) rfl rfl
      · refine V2_aload_n (i := 0) d_Push_pushOfSet_24 rfl rfl ?_
        refine V2_iload (i := 4) d_Push_pushOfSet_25 rfl ?_
        refine V2_aload_n (i := 2) d_Push_pushOfSet_27 rfl rfl ?_
        refine V2_callV [.int (nI p), .ref 2] d_Push_pushOfSet_28 rfl rfl lk_Push_59 mo_Push_pushOf (by decide) rfl rfl rfl (Nat.le_of_ble_eq_true rfl) (Nat.le_of_ble_eq_true rfl) ?_
        refine c_Push_pushOf_2 hP hP2 hl hp ?_
        refine V2_topi (fun v7 ev7 => ?_)
        refine V2_goto (tgt := 35) d_Push_pushOfSet_31 rfl ?_
        refine V2_iadd d_Push_pushOfSet_35 ?_
        refine V2_topi (fun v8 ev8 => ?_)
        refine V2_istore_n (i := 3) (l' := [some (.ref 3), some (.int set), some (.ref 2), some (.int v8), some (.int (nI p))]) d_Push_pushOfSet_36 rfl (xst_r (Nat.le_of_ble_eq_true rfl) rfl rfl) ?_
        obtain ⟨v9, ev9⟩ : ∃ y : Int32, y = nI p + 1 := ⟨_, rfl⟩
        refine V2_iinc (i := 4) (v := v9) (l' := [some (.ref 3), some (.int set), some (.ref 2), some (.int v8), some (.int v9)]) d_Push_pushOfSet_37 rfl (by rw [ev9]; rfl) (xst_i (Nat.le_of_ble_eq_true rfl) rfl rfl) ?_
        refine V2_goto (tgt := 5) d_Push_pushOfSet_40 rfl ?_
        exact V2.to (ih (p + 1) v8 (by omega) (by omega) (by subst ev9 ev8 ev7 ev3 ev1; rw [h3]; exact (sum_in (f := (fun p => pushK (F 5 p) (F 7 p) (F 2 3) (F 2 2) (F 2 5))) (set := set) (xin_t c4)).symm) hQ) rfl (by rw [ev9, nI_1]) rfl rfl
theorem c_Push_pushOfSet_2 {L : Nat} {xs : Nat → Int32} {d : Nat} {Q : Option Value → xF → Prop} {F : xF} {P : Nat} {set : Int32} (hP : F 3 2 = nI P) (hP2 : F 3 2 = nI P) (hl : P ≤ 6) (hQ : Q (some (.int (sumTo (fun p => @ite _ (inSet set p) (Classical.propDecidable _) (pushK (F 5 p) (F 7 p) (F 2 3) (F 2 2) (F 2 5)) 0) P))) F) : V2 L xs (d + 4) m_Push_pushOfSet 0 (xEntry [.ref 3, .int set, .ref 2] 5) [] F Q := by
  refine V2.to (l' := [some (.ref 3), some (.int set), some (.ref 2), none, none]) ?_ rfl rfl rfl rfl
  refine V2_iconst (v := 0) d_Push_pushOfSet_0 rfl ?_
  refine V2_istore_n (i := 3) (l' := [some (.ref 3), some (.int set), some (.ref 2), some (.int (0 : Int32)), none]) d_Push_pushOfSet_1 rfl (xst_r (Nat.le_of_ble_eq_true rfl) rfl rfl) ?_
  refine V2_iconst (v := 0) d_Push_pushOfSet_2 rfl ?_
  refine V2_istore (i := 4) (l' := [some (.ref 3), some (.int set), some (.ref 2), some (.int (0 : Int32)), some (.int (0 : Int32))]) d_Push_pushOfSet_3 (xst_i (Nat.le_of_ble_eq_true rfl) rfl rfl) ?_
  exact c_Push_pushOfSet_2_loop hP hP2 hl (P + 1) 0 0 (by omega) (by omega) rfl hQ
theorem c_Push_pushOf_35 {L : Nat} {xs : Nat → Int32} {d : Nat} {Q : Option Value → xF → Prop} {F : xF} {p P : Nat} (hP : F 3 2 = nI P) (hP2 : F 3 2 = nI P) (hl : P ≤ 6) (hp : p < P) (hQ : Q (some (.int (pushK (F 5 p) (F 7 p) (F 35 3) (F 35 2) (F 35 5)))) F) : V2 L xs (d + 3) m_Push_pushOf 0 (xEntry [.ref 3, .int (nI p), .ref 35] 7) [] F Q := by
  refine V2.to (l' := [some (.ref 3), some (.int (nI p)), some (.ref 35), none, none, none, none]) ?_ rfl rfl rfl rfl
  refine V2_aload_n (i := 0) d_Push_pushOf_0 rfl rfl ?_
  refine V2_iload_n (i := 1) d_Push_pushOf_1 rfl rfl ?_
  refine V2_callV [.int (nI p)] d_Push_pushOf_2 rfl rfl lk_Push_28 mo_Push_has (by decide) rfl rfl rfl (Nat.le_of_ble_eq_true rfl) (Nat.le_of_ble_eq_true rfl) ?_
  refine c_Push_has hP hl ?_
  refine V2_topi (fun v1 ev1 => ?_)
  refine V2_if_ne (tgt := 10) d_Push_pushOf_5 rfl (fun c2 => ?_) (fun c2 => (by first | exact absurd (show ¬ v1 = 0 from by subst ev1; rw [xb_1 ⟨nI_pos' (by omega), by rw [hP]; exact nI_lt hp (by omega)⟩]; decide) c2 | exact absurd c2 (show ¬ v1 = 0 from by subst ev1; rw [xb_1 ⟨nI_pos' (by omega), by rw [hP]; exact nI_lt hp (by omega)⟩]; decide)))
  refine V2_aload_n (i := 2) d_Push_pushOf_10 rfl rfl ?_
  refine V2_get (v := F 35 3) d_Push_pushOf_11 fl_Push_40 (by decide) rfl (by decide) rfl rfl ?_
  refine V2_topi (fun v3 ev3 => ?_)
  refine V2_if_ne (tgt := 21) d_Push_pushOf_14 rfl (fun c4 => ?_) (fun c4 => ?_)
  · refine V2_iconst (v := 0) d_Push_pushOf_21 rfl ?_
    refine V2_istore_n (i := 3) (l' := [some (.ref 3), some (.int (nI p)), some (.ref 35), some (.int (0 : Int32)), none, none, none]) d_Push_pushOf_22 rfl (xst_r (Nat.le_of_ble_eq_true rfl) rfl rfl) ?_
    refine V2_iload_n (i := 3) d_Push_pushOf_23 rfl rfl ?_
    refine V2_if_eq (tgt := 36) d_Push_pushOf_24 rfl (fun _ => ?_) (fun c => (by first | exact absurd c (by decide) | exact absurd (by decide) c))
    refine V2_iconst (v := 0) d_Push_pushOf_36 rfl ?_
    refine V2_istore (i := 4) (l' := [some (.ref 3), some (.int (nI p)), some (.ref 35), some (.int (0 : Int32)), some (.int (0 : Int32)), none, none]) d_Push_pushOf_37 (xst_i (Nat.le_of_ble_eq_true rfl) rfl rfl) ?_
    refine V2_iload_n (i := 3) d_Push_pushOf_39 rfl rfl ?_
    refine V2_if_eq (tgt := 54) d_Push_pushOf_40 rfl (fun _ => ?_) (fun c => (by first | exact absurd c (by decide) | exact absurd (by decide) c))
    refine V2_iconst (v := 0) d_Push_pushOf_54 rfl ?_
    refine V2_istore (i := 5) (l' := [some (.ref 3), some (.int (nI p)), some (.ref 35), some (.int (0 : Int32)), some (.int (0 : Int32)), some (.int (0 : Int32)), none]) d_Push_pushOf_55 (xst_i (Nat.le_of_ble_eq_true rfl) rfl rfl) ?_
    refine V2_aload_n (i := 2) d_Push_pushOf_57 rfl rfl ?_
    refine V2_get (v := F 35 5) d_Push_pushOf_58 fl_Push_45 (by decide) rfl (by decide) rfl rfl ?_
    refine V2_topi (fun v5 ev5 => ?_)
    refine V2_iconst (v := 2) d_Push_pushOf_61 rfl ?_
    refine V2_iremM d_Push_pushOf_62 (by decide) ?_
    refine V2_topi (fun v6 ev6 => ?_)
    refine V2_if_ne (tgt := 71) d_Push_pushOf_63 rfl (fun c7 => ?_) (fun c7 => ?_)
    · refine V2_iconst (v := 0) d_Push_pushOf_71 rfl ?_
      refine V2_istore (i := 6) (l' := [some (.ref 3), some (.int (nI p)), some (.ref 35), some (.int (0 : Int32)), some (.int (0 : Int32)), some (.int (0 : Int32)), some (.int (0 : Int32))]) d_Push_pushOf_72 (xst_i (Nat.le_of_ble_eq_true rfl) rfl rfl) ?_
      refine V2_aload_n (i := 0) d_Push_pushOf_74 rfl rfl ?_
      refine V2_getr (a := 5) d_Push_pushOf_75 fl_Push_9 (by decide) rfl (by decide) rfl ?_
      refine V2_iload_n (i := 1) d_Push_pushOf_78 rfl rfl ?_
      refine V2_ialoadJ (p) d_Push_pushOf_79 (by decide) rfl (xixA (n := p) rfl (by omega) (by decide)) (xixB (n := p) rfl (by omega)) rfl ?_
      refine V2_topi (fun v8 ev8 => ?_)
      by_cases c9_1 : v8 = 1
      · refine V2_tableIn (tgt := 120) (off := 40) d_Push_pushOf_80 (by rw [c9_1]; decide) (by rw [c9_1]; decide) (by rw [c9_1]; decide) rfl ?_
        refine V2_iload (i := 5) d_Push_pushOf_120 rfl ?_
        refine V2_ireturn d_Push_pushOf_122 rfl ?_
        exact xQi hQ (by subst ev8 ev6 ev5 ev3 ev1; first | (simp_all [pushK]; done) | (rw [xmx0]; simp_all [pushK]; done)) rfl
      by_cases c9_2 : v8 = 2
      · refine V2_tableIn (tgt := 123) (off := 43) d_Push_pushOf_80 (by rw [c9_2]; decide) (by rw [c9_2]; decide) (by rw [c9_2]; decide) rfl ?_
        refine V2_iload (i := 6) d_Push_pushOf_123 rfl ?_
        refine V2_ireturn d_Push_pushOf_125 rfl ?_
        exact xQi hQ (by subst ev8 ev6 ev5 ev3 ev1; first | (simp_all [pushK]; done) | (rw [xmx0]; simp_all [pushK]; done)) rfl
      by_cases c9_3 : v8 = 3
      · refine V2_tableIn (tgt := 126) (off := 46) d_Push_pushOf_80 (by rw [c9_3]; decide) (by rw [c9_3]; decide) (by rw [c9_3]; decide) rfl ?_
        refine V2_iload_n (i := 3) d_Push_pushOf_126 rfl rfl ?_
        refine V2_if_eq (tgt := 134) d_Push_pushOf_127 rfl (fun _ => ?_) (fun c => (by first | exact absurd c (by decide) | exact absurd (by decide) c))
        refine V2_aload_n (i := 0) d_Push_pushOf_134 rfl rfl ?_
        refine V2_getr (a := 7) d_Push_pushOf_135 fl_Push_13 (by decide) rfl (by decide) rfl ?_
        refine V2_iload_n (i := 1) d_Push_pushOf_138 rfl rfl ?_
        refine V2_ialoadJ (p) d_Push_pushOf_139 (by decide) rfl (xixA (n := p) rfl (by omega) (by decide)) (xixB (n := p) rfl (by omega)) rfl ?_
        refine V2_topi (fun v10 ev10 => ?_)
        refine V2_ireturn d_Push_pushOf_140 rfl ?_
        exact xQi hQ (by subst ev10 ev8 ev6 ev5 ev3 ev1; first | (simp_all [pushK]; done) | (rw [xmx0]; simp_all [pushK]; done)) rfl
      by_cases c9_4 : v8 = 4
      · refine V2_tableIn (tgt := 141) (off := 61) d_Push_pushOf_80 (by rw [c9_4]; decide) (by rw [c9_4]; decide) (by rw [c9_4]; decide) rfl ?_
        refine V2_iload (i := 5) d_Push_pushOf_141 rfl ?_
        refine V2_aload_n (i := 2) d_Push_pushOf_143 rfl rfl ?_
        refine V2_get (v := F 35 2) d_Push_pushOf_144 fl_Push_48 (by decide) rfl (by decide) rfl rfl ?_
        refine V2_topi (fun v11 ev11 => ?_)
        refine V2_bipush (v := 8) d_Push_pushOf_147 rfl ?_
        refine V2_idiv d_Push_pushOf_149 (by decide) ?_
        refine V2_topi (fun v12 ev12 => ?_)
        refine V2_iadd d_Push_pushOf_150 ?_
        refine V2_topi (fun v13 ev13 => ?_)
        refine V2_ireturn d_Push_pushOf_151 rfl ?_
        exact xQi hQ (by subst ev13 ev12 ev11 ev8 ev6 ev5 ev3 ev1; first | (simp_all [pushK]; done) | (rw [xmx0]; simp_all [pushK]; done)) rfl
      by_cases c9_5 : v8 = 5
      · refine V2_tableIn (tgt := 152) (off := 72) d_Push_pushOf_80 (by rw [c9_5]; decide) (by rw [c9_5]; decide) (by rw [c9_5]; decide) rfl ?_
        refine V2_iconst (v := 0) d_Push_pushOf_152 rfl ?_
        refine V2_iload (i := 6) d_Push_pushOf_153 rfl ?_
        refine V2_aload_n (i := 2) d_Push_pushOf_155 rfl rfl ?_
        refine V2_get (v := F 35 5) d_Push_pushOf_156 fl_Push_45 (by decide) rfl (by decide) rfl rfl ?_
        refine V2_topi (fun v14 ev14 => ?_)
        refine V2_bipush (v := 8) d_Push_pushOf_159 rfl ?_
        refine V2_idiv d_Push_pushOf_161 (by decide) ?_
        refine V2_topi (fun v15 ev15 => ?_)
        refine V2_isub d_Push_pushOf_162 ?_
        refine V2_topi (fun v16 ev16 => ?_)
        refine V2_mmax d_Push_pushOf_163 lz_Push_32 (Nat.le_of_ble_eq_true rfl) ?_
        refine V2_topi (fun v17 ev17 => ?_)
        refine V2_ireturn d_Push_pushOf_166 rfl ?_
        exact xQi hQ (by subst ev17 ev16 ev15 ev14 ev8 ev6 ev5 ev3 ev1; first | (simp_all [pushK]; done) | (rw [xmx0]; simp_all [pushK]; done)) rfl
      by_cases c9_6 : v8 = 6
      · refine V2_tableIn (tgt := 167) (off := 87) d_Push_pushOf_80 (by rw [c9_6]; decide) (by rw [c9_6]; decide) (by rw [c9_6]; decide) rfl ?_
        refine V2_iconst (v := 0) d_Push_pushOf_167 rfl ?_
        refine V2_ireturn d_Push_pushOf_168 rfl ?_
        exact xQi hQ (by subst ev8 ev6 ev5 ev3 ev1; first | (simp_all [pushK]; done) | (rw [xmx0]; simp_all [pushK]; done)) rfl
      refine V2_tableOut (tgt := 169) d_Push_pushOf_80 (by have := lv_neT (a := 1) c9_1 rfl; have := lv_neT (a := 2) c9_2 rfl; have := lv_neT (a := 3) c9_3 rfl; have := lv_neT (a := 4) c9_4 rfl; have := lv_neT (a := 5) c9_5 rfl; have := lv_neT (a := 6) c9_6 rfl; omega) rfl ?_
      refine V2_iload (i := 4) d_Push_pushOf_169 rfl ?_
      refine V2_ireturn d_Push_pushOf_171 rfl ?_
      exact xQi hQ (by subst ev8 ev6 ev5 ev3 ev1; first | (simp_all [pushK]; done) | (rw [xmx0]; simp_all [pushK]; done)) rfl
    · refine V2_iload (i := 4) d_Push_pushOf_66 rfl ?_
      refine V2_goto (tgt := 72) d_Push_pushOf_68 rfl ?_
      refine V2_istore (i := 6) (l' := [some (.ref 3), some (.int (nI p)), some (.ref 35), some (.int (0 : Int32)), some (.int (0 : Int32)), some (.int (0 : Int32)), some (.int (0 : Int32))]) d_Push_pushOf_72 (xst_i (Nat.le_of_ble_eq_true rfl) rfl rfl) ?_
      refine V2_aload_n (i := 0) d_Push_pushOf_74 rfl rfl ?_
      refine V2_getr (a := 5) d_Push_pushOf_75 fl_Push_9 (by decide) rfl (by decide) rfl ?_
      refine V2_iload_n (i := 1) d_Push_pushOf_78 rfl rfl ?_
      refine V2_ialoadJ (p) d_Push_pushOf_79 (by decide) rfl (xixA (n := p) rfl (by omega) (by decide)) (xixB (n := p) rfl (by omega)) rfl ?_
      refine V2_topi (fun v18 ev18 => ?_)
      by_cases c19_1 : v18 = 1
      · refine V2_tableIn (tgt := 120) (off := 40) d_Push_pushOf_80 (by rw [c19_1]; decide) (by rw [c19_1]; decide) (by rw [c19_1]; decide) rfl ?_
        refine V2_iload (i := 5) d_Push_pushOf_120 rfl ?_
        refine V2_ireturn d_Push_pushOf_122 rfl ?_
        exact xQi hQ (by subst ev18 ev6 ev5 ev3 ev1; first | (simp_all [pushK]; done) | (rw [xmx0]; simp_all [pushK]; done)) rfl
      by_cases c19_2 : v18 = 2
      · refine V2_tableIn (tgt := 123) (off := 43) d_Push_pushOf_80 (by rw [c19_2]; decide) (by rw [c19_2]; decide) (by rw [c19_2]; decide) rfl ?_
        refine V2_iload (i := 6) d_Push_pushOf_123 rfl ?_
        refine V2_ireturn d_Push_pushOf_125 rfl ?_
        exact xQi hQ (by subst ev18 ev6 ev5 ev3 ev1; first | (simp_all [pushK]; done) | (rw [xmx0]; simp_all [pushK]; done)) rfl
      by_cases c19_3 : v18 = 3
      · refine V2_tableIn (tgt := 126) (off := 46) d_Push_pushOf_80 (by rw [c19_3]; decide) (by rw [c19_3]; decide) (by rw [c19_3]; decide) rfl ?_
        refine V2_iload_n (i := 3) d_Push_pushOf_126 rfl rfl ?_
        refine V2_if_eq (tgt := 134) d_Push_pushOf_127 rfl (fun _ => ?_) (fun c => (by first | exact absurd c (by decide) | exact absurd (by decide) c))
        refine V2_aload_n (i := 0) d_Push_pushOf_134 rfl rfl ?_
        refine V2_getr (a := 7) d_Push_pushOf_135 fl_Push_13 (by decide) rfl (by decide) rfl ?_
        refine V2_iload_n (i := 1) d_Push_pushOf_138 rfl rfl ?_
        refine V2_ialoadJ (p) d_Push_pushOf_139 (by decide) rfl (xixA (n := p) rfl (by omega) (by decide)) (xixB (n := p) rfl (by omega)) rfl ?_
        refine V2_topi (fun v20 ev20 => ?_)
        refine V2_ireturn d_Push_pushOf_140 rfl ?_
        exact xQi hQ (by subst ev20 ev18 ev6 ev5 ev3 ev1; first | (simp_all [pushK]; done) | (rw [xmx0]; simp_all [pushK]; done)) rfl
      by_cases c19_4 : v18 = 4
      · refine V2_tableIn (tgt := 141) (off := 61) d_Push_pushOf_80 (by rw [c19_4]; decide) (by rw [c19_4]; decide) (by rw [c19_4]; decide) rfl ?_
        refine V2_iload (i := 5) d_Push_pushOf_141 rfl ?_
        refine V2_aload_n (i := 2) d_Push_pushOf_143 rfl rfl ?_
        refine V2_get (v := F 35 2) d_Push_pushOf_144 fl_Push_48 (by decide) rfl (by decide) rfl rfl ?_
        refine V2_topi (fun v21 ev21 => ?_)
        refine V2_bipush (v := 8) d_Push_pushOf_147 rfl ?_
        refine V2_idiv d_Push_pushOf_149 (by decide) ?_
        refine V2_topi (fun v22 ev22 => ?_)
        refine V2_iadd d_Push_pushOf_150 ?_
        refine V2_topi (fun v23 ev23 => ?_)
        refine V2_ireturn d_Push_pushOf_151 rfl ?_
        exact xQi hQ (by subst ev23 ev22 ev21 ev18 ev6 ev5 ev3 ev1; first | (simp_all [pushK]; done) | (rw [xmx0]; simp_all [pushK]; done)) rfl
      by_cases c19_5 : v18 = 5
      · refine V2_tableIn (tgt := 152) (off := 72) d_Push_pushOf_80 (by rw [c19_5]; decide) (by rw [c19_5]; decide) (by rw [c19_5]; decide) rfl ?_
        refine V2_iconst (v := 0) d_Push_pushOf_152 rfl ?_
        refine V2_iload (i := 6) d_Push_pushOf_153 rfl ?_
        refine V2_aload_n (i := 2) d_Push_pushOf_155 rfl rfl ?_
        refine V2_get (v := F 35 5) d_Push_pushOf_156 fl_Push_45 (by decide) rfl (by decide) rfl rfl ?_
        refine V2_topi (fun v24 ev24 => ?_)
        refine V2_bipush (v := 8) d_Push_pushOf_159 rfl ?_
        refine V2_idiv d_Push_pushOf_161 (by decide) ?_
        refine V2_topi (fun v25 ev25 => ?_)
        refine V2_isub d_Push_pushOf_162 ?_
        refine V2_topi (fun v26 ev26 => ?_)
        refine V2_mmax d_Push_pushOf_163 lz_Push_32 (Nat.le_of_ble_eq_true rfl) ?_
        refine V2_topi (fun v27 ev27 => ?_)
        refine V2_ireturn d_Push_pushOf_166 rfl ?_
        exact xQi hQ (by subst ev27 ev26 ev25 ev24 ev18 ev6 ev5 ev3 ev1; first | (simp_all [pushK]; done) | (rw [xmx0]; simp_all [pushK]; done)) rfl
      by_cases c19_6 : v18 = 6
      · refine V2_tableIn (tgt := 167) (off := 87) d_Push_pushOf_80 (by rw [c19_6]; decide) (by rw [c19_6]; decide) (by rw [c19_6]; decide) rfl ?_
        refine V2_iconst (v := 0) d_Push_pushOf_167 rfl ?_
        refine V2_ireturn d_Push_pushOf_168 rfl ?_
        exact xQi hQ (by subst ev18 ev6 ev5 ev3 ev1; first | (simp_all [pushK]; done) | (rw [xmx0]; simp_all [pushK]; done)) rfl
      refine V2_tableOut (tgt := 169) d_Push_pushOf_80 (by have := lv_neT (a := 1) c19_1 rfl; have := lv_neT (a := 2) c19_2 rfl; have := lv_neT (a := 3) c19_3 rfl; have := lv_neT (a := 4) c19_4 rfl; have := lv_neT (a := 5) c19_5 rfl; have := lv_neT (a := 6) c19_6 rfl; omega) rfl ?_
      refine V2_iload (i := 4) d_Push_pushOf_169 rfl ?_
      refine V2_ireturn d_Push_pushOf_171 rfl ?_
      exact xQi hQ (by subst ev18 ev6 ev5 ev3 ev1; first | (simp_all [pushK]; done) | (rw [xmx0]; simp_all [pushK]; done)) rfl
  · refine V2_iconst (v := 1) d_Push_pushOf_17 rfl ?_
    refine V2_goto (tgt := 22) d_Push_pushOf_18 rfl ?_
    refine V2_istore_n (i := 3) (l' := [some (.ref 3), some (.int (nI p)), some (.ref 35), some (.int (1 : Int32)), none, none, none]) d_Push_pushOf_22 rfl (xst_r (Nat.le_of_ble_eq_true rfl) rfl rfl) ?_
    refine V2_iload_n (i := 3) d_Push_pushOf_23 rfl rfl ?_
    refine V2_if_eq (tgt := 36) d_Push_pushOf_24 rfl (fun c => (by first | exact absurd c (by decide) | exact absurd (by decide) c)) (fun _ => ?_)
    refine V2_aload_n (i := 0) d_Push_pushOf_27 rfl rfl ?_
    refine V2_getr (a := 7) d_Push_pushOf_28 fl_Push_13 (by decide) rfl (by decide) rfl ?_
    refine V2_iload_n (i := 1) d_Push_pushOf_31 rfl rfl ?_
    refine V2_ialoadJ (p) d_Push_pushOf_32 (by decide) rfl (xixA (n := p) rfl (by omega) (by decide)) (xixB (n := p) rfl (by omega)) rfl ?_
    refine V2_topi (fun v28 ev28 => ?_)
    refine V2_goto (tgt := 37) d_Push_pushOf_33 rfl ?_
    refine V2_istore (i := 4) (l' := [some (.ref 3), some (.int (nI p)), some (.ref 35), some (.int (1 : Int32)), some (.int v28), none, none]) d_Push_pushOf_37 (xst_i (Nat.le_of_ble_eq_true rfl) rfl rfl) ?_
    refine V2_iload_n (i := 3) d_Push_pushOf_39 rfl rfl ?_
    refine V2_if_eq (tgt := 54) d_Push_pushOf_40 rfl (fun c => (by first | exact absurd c (by decide) | exact absurd (by decide) c)) (fun _ => ?_)
    refine V2_aload_n (i := 0) d_Push_pushOf_43 rfl rfl ?_
    refine V2_getr (a := 7) d_Push_pushOf_44 fl_Push_13 (by decide) rfl (by decide) rfl ?_
    refine V2_iload_n (i := 1) d_Push_pushOf_47 rfl rfl ?_
    refine V2_ialoadJ (p) d_Push_pushOf_48 (by decide) rfl (xixA (n := p) rfl (by omega) (by decide)) (xixB (n := p) rfl (by omega)) rfl ?_
    refine V2_topi (fun v29 ev29 => ?_)
    refine V2_iconst (v := 2) d_Push_pushOf_49 rfl ?_
    refine V2_iadd d_Push_pushOf_50 ?_
    refine V2_topi (fun v30 ev30 => ?_)
    refine V2_goto (tgt := 55) d_Push_pushOf_51 rfl ?_
    refine V2_istore (i := 5) (l' := [some (.ref 3), some (.int (nI p)), some (.ref 35), some (.int (1 : Int32)), some (.int v28), some (.int v30), none]) d_Push_pushOf_55 (xst_i (Nat.le_of_ble_eq_true rfl) rfl rfl) ?_
    refine V2_aload_n (i := 2) d_Push_pushOf_57 rfl rfl ?_
    refine V2_get (v := F 35 5) d_Push_pushOf_58 fl_Push_45 (by decide) rfl (by decide) rfl rfl ?_
    refine V2_topi (fun v31 ev31 => ?_)
    refine V2_iconst (v := 2) d_Push_pushOf_61 rfl ?_
    refine V2_iremM d_Push_pushOf_62 (by decide) ?_
    refine V2_topi (fun v32 ev32 => ?_)
    refine V2_if_ne (tgt := 71) d_Push_pushOf_63 rfl (fun c33 => ?_) (fun c33 => ?_)
    · refine V2_iconst (v := 0) d_Push_pushOf_71 rfl ?_
      refine V2_istore (i := 6) (l' := [some (.ref 3), some (.int (nI p)), some (.ref 35), some (.int (1 : Int32)), some (.int v28), some (.int v30), some (.int (0 : Int32))]) d_Push_pushOf_72 (xst_i (Nat.le_of_ble_eq_true rfl) rfl rfl) ?_
      refine V2_aload_n (i := 0) d_Push_pushOf_74 rfl rfl ?_
      refine V2_getr (a := 5) d_Push_pushOf_75 fl_Push_9 (by decide) rfl (by decide) rfl ?_
      refine V2_iload_n (i := 1) d_Push_pushOf_78 rfl rfl ?_
      refine V2_ialoadJ (p) d_Push_pushOf_79 (by decide) rfl (xixA (n := p) rfl (by omega) (by decide)) (xixB (n := p) rfl (by omega)) rfl ?_
      refine V2_topi (fun v34 ev34 => ?_)
      by_cases c35_1 : v34 = 1
      · refine V2_tableIn (tgt := 120) (off := 40) d_Push_pushOf_80 (by rw [c35_1]; decide) (by rw [c35_1]; decide) (by rw [c35_1]; decide) rfl ?_
        refine V2_iload (i := 5) d_Push_pushOf_120 rfl ?_
        refine V2_ireturn d_Push_pushOf_122 rfl ?_
        exact xQi hQ (by subst ev34 ev32 ev31 ev30 ev29 ev28 ev3 ev1; first | (simp_all [pushK]; done) | (rw [xmx0]; simp_all [pushK]; done)) rfl
      by_cases c35_2 : v34 = 2
      · refine V2_tableIn (tgt := 123) (off := 43) d_Push_pushOf_80 (by rw [c35_2]; decide) (by rw [c35_2]; decide) (by rw [c35_2]; decide) rfl ?_
        refine V2_iload (i := 6) d_Push_pushOf_123 rfl ?_
        refine V2_ireturn d_Push_pushOf_125 rfl ?_
        exact xQi hQ (by subst ev34 ev32 ev31 ev30 ev29 ev28 ev3 ev1; first | (simp_all [pushK]; done) | (rw [xmx0]; simp_all [pushK]; done)) rfl
      by_cases c35_3 : v34 = 3
      · refine V2_tableIn (tgt := 126) (off := 46) d_Push_pushOf_80 (by rw [c35_3]; decide) (by rw [c35_3]; decide) (by rw [c35_3]; decide) rfl ?_
        refine V2_iload_n (i := 3) d_Push_pushOf_126 rfl rfl ?_
        refine V2_if_eq (tgt := 134) d_Push_pushOf_127 rfl (fun c => (by first | exact absurd c (by decide) | exact absurd (by decide) c)) (fun _ => ?_)
        refine V2_iconst (v := 0) d_Push_pushOf_130 rfl ?_
        refine V2_goto (tgt := 140) d_Push_pushOf_131 rfl ?_
        refine V2_ireturn d_Push_pushOf_140 rfl ?_
        exact xQi hQ (by subst ev34 ev32 ev31 ev30 ev29 ev28 ev3 ev1; first | (simp_all [pushK]; done) | (rw [xmx0]; simp_all [pushK]; done)) rfl
      by_cases c35_4 : v34 = 4
      · refine V2_tableIn (tgt := 141) (off := 61) d_Push_pushOf_80 (by rw [c35_4]; decide) (by rw [c35_4]; decide) (by rw [c35_4]; decide) rfl ?_
        refine V2_iload (i := 5) d_Push_pushOf_141 rfl ?_
        refine V2_aload_n (i := 2) d_Push_pushOf_143 rfl rfl ?_
        refine V2_get (v := F 35 2) d_Push_pushOf_144 fl_Push_48 (by decide) rfl (by decide) rfl rfl ?_
        refine V2_topi (fun v36 ev36 => ?_)
        refine V2_bipush (v := 8) d_Push_pushOf_147 rfl ?_
        refine V2_idiv d_Push_pushOf_149 (by decide) ?_
        refine V2_topi (fun v37 ev37 => ?_)
        refine V2_iadd d_Push_pushOf_150 ?_
        refine V2_topi (fun v38 ev38 => ?_)
        refine V2_ireturn d_Push_pushOf_151 rfl ?_
        exact xQi hQ (by subst ev38 ev37 ev36 ev34 ev32 ev31 ev30 ev29 ev28 ev3 ev1; first | (simp_all [pushK]; done) | (rw [xmx0]; simp_all [pushK]; done)) rfl
      by_cases c35_5 : v34 = 5
      · refine V2_tableIn (tgt := 152) (off := 72) d_Push_pushOf_80 (by rw [c35_5]; decide) (by rw [c35_5]; decide) (by rw [c35_5]; decide) rfl ?_
        refine V2_iconst (v := 0) d_Push_pushOf_152 rfl ?_
        refine V2_iload (i := 6) d_Push_pushOf_153 rfl ?_
        refine V2_aload_n (i := 2) d_Push_pushOf_155 rfl rfl ?_
        refine V2_get (v := F 35 5) d_Push_pushOf_156 fl_Push_45 (by decide) rfl (by decide) rfl rfl ?_
        refine V2_topi (fun v39 ev39 => ?_)
        refine V2_bipush (v := 8) d_Push_pushOf_159 rfl ?_
        refine V2_idiv d_Push_pushOf_161 (by decide) ?_
        refine V2_topi (fun v40 ev40 => ?_)
        refine V2_isub d_Push_pushOf_162 ?_
        refine V2_topi (fun v41 ev41 => ?_)
        refine V2_mmax d_Push_pushOf_163 lz_Push_32 (Nat.le_of_ble_eq_true rfl) ?_
        refine V2_topi (fun v42 ev42 => ?_)
        refine V2_ireturn d_Push_pushOf_166 rfl ?_
        exact xQi hQ (by subst ev42 ev41 ev40 ev39 ev34 ev32 ev31 ev30 ev29 ev28 ev3 ev1; first | (simp_all [pushK]; done) | (rw [xmx0]; simp_all [pushK]; done)) rfl
      by_cases c35_6 : v34 = 6
      · refine V2_tableIn (tgt := 167) (off := 87) d_Push_pushOf_80 (by rw [c35_6]; decide) (by rw [c35_6]; decide) (by rw [c35_6]; decide) rfl ?_
        refine V2_iconst (v := 0) d_Push_pushOf_167 rfl ?_
        refine V2_ireturn d_Push_pushOf_168 rfl ?_
        exact xQi hQ (by subst ev34 ev32 ev31 ev30 ev29 ev28 ev3 ev1; first | (simp_all [pushK]; done) | (rw [xmx0]; simp_all [pushK]; done)) rfl
      refine V2_tableOut (tgt := 169) d_Push_pushOf_80 (by have := lv_neT (a := 1) c35_1 rfl; have := lv_neT (a := 2) c35_2 rfl; have := lv_neT (a := 3) c35_3 rfl; have := lv_neT (a := 4) c35_4 rfl; have := lv_neT (a := 5) c35_5 rfl; have := lv_neT (a := 6) c35_6 rfl; omega) rfl ?_
      refine V2_iload (i := 4) d_Push_pushOf_169 rfl ?_
      refine V2_ireturn d_Push_pushOf_171 rfl ?_
      exact xQi hQ (by subst ev34 ev32 ev31 ev30 ev29 ev28 ev3 ev1; first | (simp_all [pushK]; done) | (rw [xmx0]; simp_all [pushK]; done)) rfl
    · refine V2_iload (i := 4) d_Push_pushOf_66 rfl ?_
      refine V2_goto (tgt := 72) d_Push_pushOf_68 rfl ?_
      refine V2_istore (i := 6) (l' := [some (.ref 3), some (.int (nI p)), some (.ref 35), some (.int (1 : Int32)), some (.int v28), some (.int v30), some (.int v28)]) d_Push_pushOf_72 (xst_i (Nat.le_of_ble_eq_true rfl) rfl rfl) ?_
      refine V2_aload_n (i := 0) d_Push_pushOf_74 rfl rfl ?_
      refine V2_getr (a := 5) d_Push_pushOf_75 fl_Push_9 (by decide) rfl (by decide) rfl ?_
      refine V2_iload_n (i := 1) d_Push_pushOf_78 rfl rfl ?_
      refine V2_ialoadJ (p) d_Push_pushOf_79 (by decide) rfl (xixA (n := p) rfl (by omega) (by decide)) (xixB (n := p) rfl (by omega)) rfl ?_
      refine V2_topi (fun v43 ev43 => ?_)
      by_cases c44_1 : v43 = 1
      · refine V2_tableIn (tgt := 120) (off := 40) d_Push_pushOf_80 (by rw [c44_1]; decide) (by rw [c44_1]; decide) (by rw [c44_1]; decide) rfl ?_
        refine V2_iload (i := 5) d_Push_pushOf_120 rfl ?_
        refine V2_ireturn d_Push_pushOf_122 rfl ?_
        exact xQi hQ (by subst ev43 ev32 ev31 ev30 ev29 ev28 ev3 ev1; first | (simp_all [pushK]; done) | (rw [xmx0]; simp_all [pushK]; done)) rfl
      by_cases c44_2 : v43 = 2
      · refine V2_tableIn (tgt := 123) (off := 43) d_Push_pushOf_80 (by rw [c44_2]; decide) (by rw [c44_2]; decide) (by rw [c44_2]; decide) rfl ?_
        refine V2_iload (i := 6) d_Push_pushOf_123 rfl ?_
        refine V2_ireturn d_Push_pushOf_125 rfl ?_
        exact xQi hQ (by subst ev43 ev32 ev31 ev30 ev29 ev28 ev3 ev1; first | (simp_all [pushK]; done) | (rw [xmx0]; simp_all [pushK]; done)) rfl
      by_cases c44_3 : v43 = 3
      · refine V2_tableIn (tgt := 126) (off := 46) d_Push_pushOf_80 (by rw [c44_3]; decide) (by rw [c44_3]; decide) (by rw [c44_3]; decide) rfl ?_
        refine V2_iload_n (i := 3) d_Push_pushOf_126 rfl rfl ?_
        refine V2_if_eq (tgt := 134) d_Push_pushOf_127 rfl (fun c => (by first | exact absurd c (by decide) | exact absurd (by decide) c)) (fun _ => ?_)
        refine V2_iconst (v := 0) d_Push_pushOf_130 rfl ?_
        refine V2_goto (tgt := 140) d_Push_pushOf_131 rfl ?_
        refine V2_ireturn d_Push_pushOf_140 rfl ?_
        exact xQi hQ (by subst ev43 ev32 ev31 ev30 ev29 ev28 ev3 ev1; first | (simp_all [pushK]; done) | (rw [xmx0]; simp_all [pushK]; done)) rfl
      by_cases c44_4 : v43 = 4
      · refine V2_tableIn (tgt := 141) (off := 61) d_Push_pushOf_80 (by rw [c44_4]; decide) (by rw [c44_4]; decide) (by rw [c44_4]; decide) rfl ?_
        refine V2_iload (i := 5) d_Push_pushOf_141 rfl ?_
        refine V2_aload_n (i := 2) d_Push_pushOf_143 rfl rfl ?_
        refine V2_get (v := F 35 2) d_Push_pushOf_144 fl_Push_48 (by decide) rfl (by decide) rfl rfl ?_
        refine V2_topi (fun v45 ev45 => ?_)
        refine V2_bipush (v := 8) d_Push_pushOf_147 rfl ?_
        refine V2_idiv d_Push_pushOf_149 (by decide) ?_
        refine V2_topi (fun v46 ev46 => ?_)
        refine V2_iadd d_Push_pushOf_150 ?_
        refine V2_topi (fun v47 ev47 => ?_)
        refine V2_ireturn d_Push_pushOf_151 rfl ?_
        exact xQi hQ (by subst ev47 ev46 ev45 ev43 ev32 ev31 ev30 ev29 ev28 ev3 ev1; first | (simp_all [pushK]; done) | (rw [xmx0]; simp_all [pushK]; done)) rfl
      by_cases c44_5 : v43 = 5
      · refine V2_tableIn (tgt := 152) (off := 72) d_Push_pushOf_80 (by rw [c44_5]; decide) (by rw [c44_5]; decide) (by rw [c44_5]; decide) rfl ?_
        refine V2_iconst (v := 0) d_Push_pushOf_152 rfl ?_
        refine V2_iload (i := 6) d_Push_pushOf_153 rfl ?_
        refine V2_aload_n (i := 2) d_Push_pushOf_155 rfl rfl ?_
        refine V2_get (v := F 35 5) d_Push_pushOf_156 fl_Push_45 (by decide) rfl (by decide) rfl rfl ?_
        refine V2_topi (fun v48 ev48 => ?_)
        refine V2_bipush (v := 8) d_Push_pushOf_159 rfl ?_
        refine V2_idiv d_Push_pushOf_161 (by decide) ?_
        refine V2_topi (fun v49 ev49 => ?_)
        refine V2_isub d_Push_pushOf_162 ?_
        refine V2_topi (fun v50 ev50 => ?_)
        refine V2_mmax d_Push_pushOf_163 lz_Push_32 (Nat.le_of_ble_eq_true rfl) ?_
        refine V2_topi (fun v51 ev51 => ?_)
        refine V2_ireturn d_Push_pushOf_166 rfl ?_
        exact xQi hQ (by subst ev51 ev50 ev49 ev48 ev43 ev32 ev31 ev30 ev29 ev28 ev3 ev1; first | (simp_all [pushK]; done) | (rw [xmx0]; simp_all [pushK]; done)) rfl
      by_cases c44_6 : v43 = 6
      · refine V2_tableIn (tgt := 167) (off := 87) d_Push_pushOf_80 (by rw [c44_6]; decide) (by rw [c44_6]; decide) (by rw [c44_6]; decide) rfl ?_
        refine V2_iconst (v := 0) d_Push_pushOf_167 rfl ?_
        refine V2_ireturn d_Push_pushOf_168 rfl ?_
        exact xQi hQ (by subst ev43 ev32 ev31 ev30 ev29 ev28 ev3 ev1; first | (simp_all [pushK]; done) | (rw [xmx0]; simp_all [pushK]; done)) rfl
      refine V2_tableOut (tgt := 169) d_Push_pushOf_80 (by have := lv_neT (a := 1) c44_1 rfl; have := lv_neT (a := 2) c44_2 rfl; have := lv_neT (a := 3) c44_3 rfl; have := lv_neT (a := 4) c44_4 rfl; have := lv_neT (a := 5) c44_5 rfl; have := lv_neT (a := 6) c44_6 rfl; omega) rfl ?_
      refine V2_iload (i := 4) d_Push_pushOf_169 rfl ?_
      refine V2_ireturn d_Push_pushOf_171 rfl ?_
      exact xQi hQ (by subst ev43 ev32 ev31 ev30 ev29 ev28 ev3 ev1; first | (simp_all [pushK]; done) | (rw [xmx0]; simp_all [pushK]; done)) rfl
theorem c_Push_pushOfSet_35_loop {L : Nat} {xs : Nat → Int32} {d : Nat} {Q : Option Value → xF → Prop} {F : xF} {P : Nat} {set : Int32} (hP : F 3 2 = nI P) (hP2 : F 3 2 = nI P) (hl : P ≤ 6) : ∀ (n : Nat) (p : Nat) (v : Int32), p ≤ P → P < n + p → v = sumTo (fun p => @ite _ (inSet set p) (Classical.propDecidable _) (pushK (F 5 p) (F 7 p) (F 35 3) (F 35 2) (F 35 5)) 0) p → (Q (some (.int (sumTo (fun p => @ite _ (inSet set p) (Classical.propDecidable _) (pushK (F 5 p) (F 7 p) (F 35 3) (F 35 2) (F 35 5)) 0) P))) F) → V2 L xs (d + 4) m_Push_pushOfSet 5 [some (.ref 3), some (.int set), some (.ref 35), some (.int v), some (.int (nI p))] [] F Q := by
  intro n
  induction n with
  | zero => exact fun p v h1 h2 => absurd h2 (by omega)
  | succ n ih =>
    intro p v h1 h2 h3 hQ
    refine V2_iload (i := 4) d_Push_pushOfSet_5 rfl ?_
    refine V2_aload_n (i := 0) d_Push_pushOfSet_7 rfl rfl ?_
    refine V2_get (v := F 3 2) d_Push_pushOfSet_8 fl_Push_16 (by decide) rfl (by decide) rfl rfl ?_
    refine V2_topi (fun v1 ev1 => ?_)
    have eN : v1 = nI P := by
      subst ev1
      exact hP
    rw [eN]
    refine V2_icmp_ge (tgt := 43) d_Push_pushOfSet_11 rfl (fun c2 => ?_) (fun c2 => ?_)
    · refine V2_iload_n (i := 3) d_Push_pushOfSet_43 rfl rfl ?_
      refine V2_ireturn d_Push_pushOfSet_44 rfl ?_
      have hpp : p = P := by
        subst ev1
        exact Nat.le_antisymm h1 ((nI_leI (by omega) (by omega)).mp c2)
      subst hpp
      exact xQi hQ h3 rfl
    · have hp : p < P := Nat.not_le.mp (fun hh => c2 ((nI_leI (by omega) (by omega)).mpr hh))
      refine V2_iload_n (i := 3) d_Push_pushOfSet_14 rfl rfl ?_
      refine V2_iload_n (i := 1) d_Push_pushOfSet_15 rfl rfl ?_
      refine V2_iload (i := 4) d_Push_pushOfSet_16 rfl ?_
      refine V2_callS [.int set, .int (nI p)] d_Push_pushOfSet_18 rfl rfl lk_Push_51 mo_Push_isIn (Nat.le_of_ble_eq_true rfl) (Nat.le_of_ble_eq_true rfl) ?_
      refine c_Push_isIn ?_
      refine V2_topi (fun v3 ev3 => ?_)
      refine V2_if_eq (tgt := 34) d_Push_pushOfSet_21 rfl (fun c4 => ?_) (fun c4 => ?_)
      · refine V2_iconst (v := 0) d_Push_pushOfSet_34 rfl ?_
        refine V2_iadd d_Push_pushOfSet_35 ?_
        refine V2_topi (fun v5 ev5 => ?_)
        refine V2_istore_n (i := 3) (l' := [some (.ref 3), some (.int set), some (.ref 35), some (.int v5), some (.int (nI p))]) d_Push_pushOfSet_36 rfl (xst_r (Nat.le_of_ble_eq_true rfl) rfl rfl) ?_
        obtain ⟨v6, ev6⟩ : ∃ y : Int32, y = nI p + 1 := ⟨_, rfl⟩
        refine V2_iinc (i := 4) (v := v6) (l' := [some (.ref 3), some (.int set), some (.ref 35), some (.int v5), some (.int v6)]) d_Push_pushOfSet_37 rfl (by rw [ev6]; rfl) (xst_i (Nat.le_of_ble_eq_true rfl) rfl rfl) ?_
        refine V2_goto (tgt := 5) d_Push_pushOfSet_40 rfl ?_
        exact V2.to (ih (p + 1) v5 (by omega) (by omega) (by subst ev6 ev5 ev3 ev1; rw [h3]; exact (sum_out (f := (fun p => pushK (F 5 p) (F 7 p) (F 35 3) (F 35 2) (F 35 5))) (set := set) (xin_f c4)).symm) hQ) rfl (by rw [ev6, nI_1]) rfl rfl
      · refine V2_aload_n (i := 0) d_Push_pushOfSet_24 rfl rfl ?_
        refine V2_iload (i := 4) d_Push_pushOfSet_25 rfl ?_
        refine V2_aload_n (i := 2) d_Push_pushOfSet_27 rfl rfl ?_
        refine V2_callV [.int (nI p), .ref 35] d_Push_pushOfSet_28 rfl rfl lk_Push_59 mo_Push_pushOf (by decide) rfl rfl rfl (Nat.le_of_ble_eq_true rfl) (Nat.le_of_ble_eq_true rfl) ?_
        refine c_Push_pushOf_35 hP hP2 hl hp ?_
        refine V2_topi (fun v7 ev7 => ?_)
        refine V2_goto (tgt := 35) d_Push_pushOfSet_31 rfl ?_
        refine V2_iadd d_Push_pushOfSet_35 ?_
        refine V2_topi (fun v8 ev8 => ?_)
        refine V2_istore_n (i := 3) (l' := [some (.ref 3), some (.int set), some (.ref 35), some (.int v8), some (.int (nI p))]) d_Push_pushOfSet_36 rfl (xst_r (Nat.le_of_ble_eq_true rfl) rfl rfl) ?_
        obtain ⟨v9, ev9⟩ : ∃ y : Int32, y = nI p + 1 := ⟨_, rfl⟩
        refine V2_iinc (i := 4) (v := v9) (l' := [some (.ref 3), some (.int set), some (.ref 35), some (.int v8), some (.int v9)]) d_Push_pushOfSet_37 rfl (by rw [ev9]; rfl) (xst_i (Nat.le_of_ble_eq_true rfl) rfl rfl) ?_
        refine V2_goto (tgt := 5) d_Push_pushOfSet_40 rfl ?_
        exact V2.to (ih (p + 1) v8 (by omega) (by omega) (by subst ev9 ev8 ev7 ev3 ev1; rw [h3]; exact (sum_in (f := (fun p => pushK (F 5 p) (F 7 p) (F 35 3) (F 35 2) (F 35 5))) (set := set) (xin_t c4)).symm) hQ) rfl (by rw [ev9, nI_1]) rfl rfl
theorem c_Push_pushOfSet_35 {L : Nat} {xs : Nat → Int32} {d : Nat} {Q : Option Value → xF → Prop} {F : xF} {P : Nat} {set : Int32} (hP : F 3 2 = nI P) (hP2 : F 3 2 = nI P) (hl : P ≤ 6) (hQ : Q (some (.int (sumTo (fun p => @ite _ (inSet set p) (Classical.propDecidable _) (pushK (F 5 p) (F 7 p) (F 35 3) (F 35 2) (F 35 5)) 0) P))) F) : V2 L xs (d + 4) m_Push_pushOfSet 0 (xEntry [.ref 3, .int set, .ref 35] 5) [] F Q := by
  refine V2.to (l' := [some (.ref 3), some (.int set), some (.ref 35), none, none]) ?_ rfl rfl rfl rfl
  refine V2_iconst (v := 0) d_Push_pushOfSet_0 rfl ?_
  refine V2_istore_n (i := 3) (l' := [some (.ref 3), some (.int set), some (.ref 35), some (.int (0 : Int32)), none]) d_Push_pushOfSet_1 rfl (xst_r (Nat.le_of_ble_eq_true rfl) rfl rfl) ?_
  refine V2_iconst (v := 0) d_Push_pushOfSet_2 rfl ?_
  refine V2_istore (i := 4) (l' := [some (.ref 3), some (.int set), some (.ref 35), some (.int (0 : Int32)), some (.int (0 : Int32))]) d_Push_pushOfSet_3 (xst_i (Nat.le_of_ble_eq_true rfl) rfl rfl) ?_
  exact c_Push_pushOfSet_35_loop hP hP2 hl (P + 1) 0 0 (by omega) (by omega) rfl hQ
theorem c_Push_pushOf_42 {L : Nat} {xs : Nat → Int32} {d : Nat} {Q : Option Value → xF → Prop} {F : xF} {p P : Nat} (hP : F 3 2 = nI P) (hP2 : F 3 2 = nI P) (hl : P ≤ 6) (hp : p < P) (hQ : Q (some (.int (pushK (F 5 p) (F 7 p) (F 42 3) (F 42 2) (F 42 5)))) F) : V2 L xs (d + 3) m_Push_pushOf 0 (xEntry [.ref 3, .int (nI p), .ref 42] 7) [] F Q := by
  refine V2.to (l' := [some (.ref 3), some (.int (nI p)), some (.ref 42), none, none, none, none]) ?_ rfl rfl rfl rfl
  refine V2_aload_n (i := 0) d_Push_pushOf_0 rfl rfl ?_
  refine V2_iload_n (i := 1) d_Push_pushOf_1 rfl rfl ?_
  refine V2_callV [.int (nI p)] d_Push_pushOf_2 rfl rfl lk_Push_28 mo_Push_has (by decide) rfl rfl rfl (Nat.le_of_ble_eq_true rfl) (Nat.le_of_ble_eq_true rfl) ?_
  refine c_Push_has hP hl ?_
  refine V2_topi (fun v1 ev1 => ?_)
  refine V2_if_ne (tgt := 10) d_Push_pushOf_5 rfl (fun c2 => ?_) (fun c2 => (by first | exact absurd (show ¬ v1 = 0 from by subst ev1; rw [xb_1 ⟨nI_pos' (by omega), by rw [hP]; exact nI_lt hp (by omega)⟩]; decide) c2 | exact absurd c2 (show ¬ v1 = 0 from by subst ev1; rw [xb_1 ⟨nI_pos' (by omega), by rw [hP]; exact nI_lt hp (by omega)⟩]; decide)))
  refine V2_aload_n (i := 2) d_Push_pushOf_10 rfl rfl ?_
  refine V2_get (v := F 42 3) d_Push_pushOf_11 fl_Push_40 (by decide) rfl (by decide) rfl rfl ?_
  refine V2_topi (fun v3 ev3 => ?_)
  refine V2_if_ne (tgt := 21) d_Push_pushOf_14 rfl (fun c4 => ?_) (fun c4 => ?_)
  · refine V2_iconst (v := 0) d_Push_pushOf_21 rfl ?_
    refine V2_istore_n (i := 3) (l' := [some (.ref 3), some (.int (nI p)), some (.ref 42), some (.int (0 : Int32)), none, none, none]) d_Push_pushOf_22 rfl (xst_r (Nat.le_of_ble_eq_true rfl) rfl rfl) ?_
    refine V2_iload_n (i := 3) d_Push_pushOf_23 rfl rfl ?_
    refine V2_if_eq (tgt := 36) d_Push_pushOf_24 rfl (fun _ => ?_) (fun c => (by first | exact absurd c (by decide) | exact absurd (by decide) c))
    refine V2_iconst (v := 0) d_Push_pushOf_36 rfl ?_
    refine V2_istore (i := 4) (l' := [some (.ref 3), some (.int (nI p)), some (.ref 42), some (.int (0 : Int32)), some (.int (0 : Int32)), none, none]) d_Push_pushOf_37 (xst_i (Nat.le_of_ble_eq_true rfl) rfl rfl) ?_
    refine V2_iload_n (i := 3) d_Push_pushOf_39 rfl rfl ?_
    refine V2_if_eq (tgt := 54) d_Push_pushOf_40 rfl (fun _ => ?_) (fun c => (by first | exact absurd c (by decide) | exact absurd (by decide) c))
    refine V2_iconst (v := 0) d_Push_pushOf_54 rfl ?_
    refine V2_istore (i := 5) (l' := [some (.ref 3), some (.int (nI p)), some (.ref 42), some (.int (0 : Int32)), some (.int (0 : Int32)), some (.int (0 : Int32)), none]) d_Push_pushOf_55 (xst_i (Nat.le_of_ble_eq_true rfl) rfl rfl) ?_
    refine V2_aload_n (i := 2) d_Push_pushOf_57 rfl rfl ?_
    refine V2_get (v := F 42 5) d_Push_pushOf_58 fl_Push_45 (by decide) rfl (by decide) rfl rfl ?_
    refine V2_topi (fun v5 ev5 => ?_)
    refine V2_iconst (v := 2) d_Push_pushOf_61 rfl ?_
    refine V2_iremM d_Push_pushOf_62 (by decide) ?_
    refine V2_topi (fun v6 ev6 => ?_)
    refine V2_if_ne (tgt := 71) d_Push_pushOf_63 rfl (fun c7 => ?_) (fun c7 => ?_)
    · refine V2_iconst (v := 0) d_Push_pushOf_71 rfl ?_
      refine V2_istore (i := 6) (l' := [some (.ref 3), some (.int (nI p)), some (.ref 42), some (.int (0 : Int32)), some (.int (0 : Int32)), some (.int (0 : Int32)), some (.int (0 : Int32))]) d_Push_pushOf_72 (xst_i (Nat.le_of_ble_eq_true rfl) rfl rfl) ?_
      refine V2_aload_n (i := 0) d_Push_pushOf_74 rfl rfl ?_
      refine V2_getr (a := 5) d_Push_pushOf_75 fl_Push_9 (by decide) rfl (by decide) rfl ?_
      refine V2_iload_n (i := 1) d_Push_pushOf_78 rfl rfl ?_
      refine V2_ialoadJ (p) d_Push_pushOf_79 (by decide) rfl (xixA (n := p) rfl (by omega) (by decide)) (xixB (n := p) rfl (by omega)) rfl ?_
      refine V2_topi (fun v8 ev8 => ?_)
      by_cases c9_1 : v8 = 1
      · refine V2_tableIn (tgt := 120) (off := 40) d_Push_pushOf_80 (by rw [c9_1]; decide) (by rw [c9_1]; decide) (by rw [c9_1]; decide) rfl ?_
        refine V2_iload (i := 5) d_Push_pushOf_120 rfl ?_
        refine V2_ireturn d_Push_pushOf_122 rfl ?_
        exact xQi hQ (by subst ev8 ev6 ev5 ev3 ev1; first | (simp_all [pushK]; done) | (rw [xmx0]; simp_all [pushK]; done)) rfl
      by_cases c9_2 : v8 = 2
      · refine V2_tableIn (tgt := 123) (off := 43) d_Push_pushOf_80 (by rw [c9_2]; decide) (by rw [c9_2]; decide) (by rw [c9_2]; decide) rfl ?_
        refine V2_iload (i := 6) d_Push_pushOf_123 rfl ?_
        refine V2_ireturn d_Push_pushOf_125 rfl ?_
        exact xQi hQ (by subst ev8 ev6 ev5 ev3 ev1; first | (simp_all [pushK]; done) | (rw [xmx0]; simp_all [pushK]; done)) rfl
      by_cases c9_3 : v8 = 3
      · refine V2_tableIn (tgt := 126) (off := 46) d_Push_pushOf_80 (by rw [c9_3]; decide) (by rw [c9_3]; decide) (by rw [c9_3]; decide) rfl ?_
        refine V2_iload_n (i := 3) d_Push_pushOf_126 rfl rfl ?_
        refine V2_if_eq (tgt := 134) d_Push_pushOf_127 rfl (fun _ => ?_) (fun c => (by first | exact absurd c (by decide) | exact absurd (by decide) c))
        refine V2_aload_n (i := 0) d_Push_pushOf_134 rfl rfl ?_
        refine V2_getr (a := 7) d_Push_pushOf_135 fl_Push_13 (by decide) rfl (by decide) rfl ?_
        refine V2_iload_n (i := 1) d_Push_pushOf_138 rfl rfl ?_
        refine V2_ialoadJ (p) d_Push_pushOf_139 (by decide) rfl (xixA (n := p) rfl (by omega) (by decide)) (xixB (n := p) rfl (by omega)) rfl ?_
        refine V2_topi (fun v10 ev10 => ?_)
        refine V2_ireturn d_Push_pushOf_140 rfl ?_
        exact xQi hQ (by subst ev10 ev8 ev6 ev5 ev3 ev1; first | (simp_all [pushK]; done) | (rw [xmx0]; simp_all [pushK]; done)) rfl
      by_cases c9_4 : v8 = 4
      · refine V2_tableIn (tgt := 141) (off := 61) d_Push_pushOf_80 (by rw [c9_4]; decide) (by rw [c9_4]; decide) (by rw [c9_4]; decide) rfl ?_
        refine V2_iload (i := 5) d_Push_pushOf_141 rfl ?_
        refine V2_aload_n (i := 2) d_Push_pushOf_143 rfl rfl ?_
        refine V2_get (v := F 42 2) d_Push_pushOf_144 fl_Push_48 (by decide) rfl (by decide) rfl rfl ?_
        refine V2_topi (fun v11 ev11 => ?_)
        refine V2_bipush (v := 8) d_Push_pushOf_147 rfl ?_
        refine V2_idiv d_Push_pushOf_149 (by decide) ?_
        refine V2_topi (fun v12 ev12 => ?_)
        refine V2_iadd d_Push_pushOf_150 ?_
        refine V2_topi (fun v13 ev13 => ?_)
        refine V2_ireturn d_Push_pushOf_151 rfl ?_
        exact xQi hQ (by subst ev13 ev12 ev11 ev8 ev6 ev5 ev3 ev1; first | (simp_all [pushK]; done) | (rw [xmx0]; simp_all [pushK]; done)) rfl
      by_cases c9_5 : v8 = 5
      · refine V2_tableIn (tgt := 152) (off := 72) d_Push_pushOf_80 (by rw [c9_5]; decide) (by rw [c9_5]; decide) (by rw [c9_5]; decide) rfl ?_
        refine V2_iconst (v := 0) d_Push_pushOf_152 rfl ?_
        refine V2_iload (i := 6) d_Push_pushOf_153 rfl ?_
        refine V2_aload_n (i := 2) d_Push_pushOf_155 rfl rfl ?_
        refine V2_get (v := F 42 5) d_Push_pushOf_156 fl_Push_45 (by decide) rfl (by decide) rfl rfl ?_
        refine V2_topi (fun v14 ev14 => ?_)
        refine V2_bipush (v := 8) d_Push_pushOf_159 rfl ?_
        refine V2_idiv d_Push_pushOf_161 (by decide) ?_
        refine V2_topi (fun v15 ev15 => ?_)
        refine V2_isub d_Push_pushOf_162 ?_
        refine V2_topi (fun v16 ev16 => ?_)
        refine V2_mmax d_Push_pushOf_163 lz_Push_32 (Nat.le_of_ble_eq_true rfl) ?_
        refine V2_topi (fun v17 ev17 => ?_)
        refine V2_ireturn d_Push_pushOf_166 rfl ?_
        exact xQi hQ (by subst ev17 ev16 ev15 ev14 ev8 ev6 ev5 ev3 ev1; first | (simp_all [pushK]; done) | (rw [xmx0]; simp_all [pushK]; done)) rfl
      by_cases c9_6 : v8 = 6
      · refine V2_tableIn (tgt := 167) (off := 87) d_Push_pushOf_80 (by rw [c9_6]; decide) (by rw [c9_6]; decide) (by rw [c9_6]; decide) rfl ?_
        refine V2_iconst (v := 0) d_Push_pushOf_167 rfl ?_
        refine V2_ireturn d_Push_pushOf_168 rfl ?_
        exact xQi hQ (by subst ev8 ev6 ev5 ev3 ev1; first | (simp_all [pushK]; done) | (rw [xmx0]; simp_all [pushK]; done)) rfl
      refine V2_tableOut (tgt := 169) d_Push_pushOf_80 (by have := lv_neT (a := 1) c9_1 rfl; have := lv_neT (a := 2) c9_2 rfl; have := lv_neT (a := 3) c9_3 rfl; have := lv_neT (a := 4) c9_4 rfl; have := lv_neT (a := 5) c9_5 rfl; have := lv_neT (a := 6) c9_6 rfl; omega) rfl ?_
      refine V2_iload (i := 4) d_Push_pushOf_169 rfl ?_
      refine V2_ireturn d_Push_pushOf_171 rfl ?_
      exact xQi hQ (by subst ev8 ev6 ev5 ev3 ev1; first | (simp_all [pushK]; done) | (rw [xmx0]; simp_all [pushK]; done)) rfl
    · refine V2_iload (i := 4) d_Push_pushOf_66 rfl ?_
      refine V2_goto (tgt := 72) d_Push_pushOf_68 rfl ?_
      refine V2_istore (i := 6) (l' := [some (.ref 3), some (.int (nI p)), some (.ref 42), some (.int (0 : Int32)), some (.int (0 : Int32)), some (.int (0 : Int32)), some (.int (0 : Int32))]) d_Push_pushOf_72 (xst_i (Nat.le_of_ble_eq_true rfl) rfl rfl) ?_
      refine V2_aload_n (i := 0) d_Push_pushOf_74 rfl rfl ?_
      refine V2_getr (a := 5) d_Push_pushOf_75 fl_Push_9 (by decide) rfl (by decide) rfl ?_
      refine V2_iload_n (i := 1) d_Push_pushOf_78 rfl rfl ?_
      refine V2_ialoadJ (p) d_Push_pushOf_79 (by decide) rfl (xixA (n := p) rfl (by omega) (by decide)) (xixB (n := p) rfl (by omega)) rfl ?_
      refine V2_topi (fun v18 ev18 => ?_)
      by_cases c19_1 : v18 = 1
      · refine V2_tableIn (tgt := 120) (off := 40) d_Push_pushOf_80 (by rw [c19_1]; decide) (by rw [c19_1]; decide) (by rw [c19_1]; decide) rfl ?_
        refine V2_iload (i := 5) d_Push_pushOf_120 rfl ?_
        refine V2_ireturn d_Push_pushOf_122 rfl ?_
        exact xQi hQ (by subst ev18 ev6 ev5 ev3 ev1; first | (simp_all [pushK]; done) | (rw [xmx0]; simp_all [pushK]; done)) rfl
      by_cases c19_2 : v18 = 2
      · refine V2_tableIn (tgt := 123) (off := 43) d_Push_pushOf_80 (by rw [c19_2]; decide) (by rw [c19_2]; decide) (by rw [c19_2]; decide) rfl ?_
        refine V2_iload (i := 6) d_Push_pushOf_123 rfl ?_
        refine V2_ireturn d_Push_pushOf_125 rfl ?_
        exact xQi hQ (by subst ev18 ev6 ev5 ev3 ev1; first | (simp_all [pushK]; done) | (rw [xmx0]; simp_all [pushK]; done)) rfl
      by_cases c19_3 : v18 = 3
      · refine V2_tableIn (tgt := 126) (off := 46) d_Push_pushOf_80 (by rw [c19_3]; decide) (by rw [c19_3]; decide) (by rw [c19_3]; decide) rfl ?_
        refine V2_iload_n (i := 3) d_Push_pushOf_126 rfl rfl ?_
        refine V2_if_eq (tgt := 134) d_Push_pushOf_127 rfl (fun _ => ?_) (fun c => (by first | exact absurd c (by decide) | exact absurd (by decide) c))
        refine V2_aload_n (i := 0) d_Push_pushOf_134 rfl rfl ?_
        refine V2_getr (a := 7) d_Push_pushOf_135 fl_Push_13 (by decide) rfl (by decide) rfl ?_
        refine V2_iload_n (i := 1) d_Push_pushOf_138 rfl rfl ?_
        refine V2_ialoadJ (p) d_Push_pushOf_139 (by decide) rfl (xixA (n := p) rfl (by omega) (by decide)) (xixB (n := p) rfl (by omega)) rfl ?_
        refine V2_topi (fun v20 ev20 => ?_)
        refine V2_ireturn d_Push_pushOf_140 rfl ?_
        exact xQi hQ (by subst ev20 ev18 ev6 ev5 ev3 ev1; first | (simp_all [pushK]; done) | (rw [xmx0]; simp_all [pushK]; done)) rfl
      by_cases c19_4 : v18 = 4
      · refine V2_tableIn (tgt := 141) (off := 61) d_Push_pushOf_80 (by rw [c19_4]; decide) (by rw [c19_4]; decide) (by rw [c19_4]; decide) rfl ?_
        refine V2_iload (i := 5) d_Push_pushOf_141 rfl ?_
        refine V2_aload_n (i := 2) d_Push_pushOf_143 rfl rfl ?_
        refine V2_get (v := F 42 2) d_Push_pushOf_144 fl_Push_48 (by decide) rfl (by decide) rfl rfl ?_
        refine V2_topi (fun v21 ev21 => ?_)
        refine V2_bipush (v := 8) d_Push_pushOf_147 rfl ?_
        refine V2_idiv d_Push_pushOf_149 (by decide) ?_
        refine V2_topi (fun v22 ev22 => ?_)
        refine V2_iadd d_Push_pushOf_150 ?_
        refine V2_topi (fun v23 ev23 => ?_)
        refine V2_ireturn d_Push_pushOf_151 rfl ?_
        exact xQi hQ (by subst ev23 ev22 ev21 ev18 ev6 ev5 ev3 ev1; first | (simp_all [pushK]; done) | (rw [xmx0]; simp_all [pushK]; done)) rfl
      by_cases c19_5 : v18 = 5
      · refine V2_tableIn (tgt := 152) (off := 72) d_Push_pushOf_80 (by rw [c19_5]; decide) (by rw [c19_5]; decide) (by rw [c19_5]; decide) rfl ?_
        refine V2_iconst (v := 0) d_Push_pushOf_152 rfl ?_
        refine V2_iload (i := 6) d_Push_pushOf_153 rfl ?_
        refine V2_aload_n (i := 2) d_Push_pushOf_155 rfl rfl ?_
        refine V2_get (v := F 42 5) d_Push_pushOf_156 fl_Push_45 (by decide) rfl (by decide) rfl rfl ?_
        refine V2_topi (fun v24 ev24 => ?_)
        refine V2_bipush (v := 8) d_Push_pushOf_159 rfl ?_
        refine V2_idiv d_Push_pushOf_161 (by decide) ?_
        refine V2_topi (fun v25 ev25 => ?_)
        refine V2_isub d_Push_pushOf_162 ?_
        refine V2_topi (fun v26 ev26 => ?_)
        refine V2_mmax d_Push_pushOf_163 lz_Push_32 (Nat.le_of_ble_eq_true rfl) ?_
        refine V2_topi (fun v27 ev27 => ?_)
        refine V2_ireturn d_Push_pushOf_166 rfl ?_
        exact xQi hQ (by subst ev27 ev26 ev25 ev24 ev18 ev6 ev5 ev3 ev1; first | (simp_all [pushK]; done) | (rw [xmx0]; simp_all [pushK]; done)) rfl
      by_cases c19_6 : v18 = 6
      · refine V2_tableIn (tgt := 167) (off := 87) d_Push_pushOf_80 (by rw [c19_6]; decide) (by rw [c19_6]; decide) (by rw [c19_6]; decide) rfl ?_
        refine V2_iconst (v := 0) d_Push_pushOf_167 rfl ?_
        refine V2_ireturn d_Push_pushOf_168 rfl ?_
        exact xQi hQ (by subst ev18 ev6 ev5 ev3 ev1; first | (simp_all [pushK]; done) | (rw [xmx0]; simp_all [pushK]; done)) rfl
      refine V2_tableOut (tgt := 169) d_Push_pushOf_80 (by have := lv_neT (a := 1) c19_1 rfl; have := lv_neT (a := 2) c19_2 rfl; have := lv_neT (a := 3) c19_3 rfl; have := lv_neT (a := 4) c19_4 rfl; have := lv_neT (a := 5) c19_5 rfl; have := lv_neT (a := 6) c19_6 rfl; omega) rfl ?_
      refine V2_iload (i := 4) d_Push_pushOf_169 rfl ?_
      refine V2_ireturn d_Push_pushOf_171 rfl ?_
      exact xQi hQ (by subst ev18 ev6 ev5 ev3 ev1; first | (simp_all [pushK]; done) | (rw [xmx0]; simp_all [pushK]; done)) rfl
  · refine V2_iconst (v := 1) d_Push_pushOf_17 rfl ?_
    refine V2_goto (tgt := 22) d_Push_pushOf_18 rfl ?_
    refine V2_istore_n (i := 3) (l' := [some (.ref 3), some (.int (nI p)), some (.ref 42), some (.int (1 : Int32)), none, none, none]) d_Push_pushOf_22 rfl (xst_r (Nat.le_of_ble_eq_true rfl) rfl rfl) ?_
    refine V2_iload_n (i := 3) d_Push_pushOf_23 rfl rfl ?_
    refine V2_if_eq (tgt := 36) d_Push_pushOf_24 rfl (fun c => (by first | exact absurd c (by decide) | exact absurd (by decide) c)) (fun _ => ?_)
    refine V2_aload_n (i := 0) d_Push_pushOf_27 rfl rfl ?_
    refine V2_getr (a := 7) d_Push_pushOf_28 fl_Push_13 (by decide) rfl (by decide) rfl ?_
    refine V2_iload_n (i := 1) d_Push_pushOf_31 rfl rfl ?_
    refine V2_ialoadJ (p) d_Push_pushOf_32 (by decide) rfl (xixA (n := p) rfl (by omega) (by decide)) (xixB (n := p) rfl (by omega)) rfl ?_
    refine V2_topi (fun v28 ev28 => ?_)
    refine V2_goto (tgt := 37) d_Push_pushOf_33 rfl ?_
    refine V2_istore (i := 4) (l' := [some (.ref 3), some (.int (nI p)), some (.ref 42), some (.int (1 : Int32)), some (.int v28), none, none]) d_Push_pushOf_37 (xst_i (Nat.le_of_ble_eq_true rfl) rfl rfl) ?_
    refine V2_iload_n (i := 3) d_Push_pushOf_39 rfl rfl ?_
    refine V2_if_eq (tgt := 54) d_Push_pushOf_40 rfl (fun c => (by first | exact absurd c (by decide) | exact absurd (by decide) c)) (fun _ => ?_)
    refine V2_aload_n (i := 0) d_Push_pushOf_43 rfl rfl ?_
    refine V2_getr (a := 7) d_Push_pushOf_44 fl_Push_13 (by decide) rfl (by decide) rfl ?_
    refine V2_iload_n (i := 1) d_Push_pushOf_47 rfl rfl ?_
    refine V2_ialoadJ (p) d_Push_pushOf_48 (by decide) rfl (xixA (n := p) rfl (by omega) (by decide)) (xixB (n := p) rfl (by omega)) rfl ?_
    refine V2_topi (fun v29 ev29 => ?_)
    refine V2_iconst (v := 2) d_Push_pushOf_49 rfl ?_
    refine V2_iadd d_Push_pushOf_50 ?_
    refine V2_topi (fun v30 ev30 => ?_)
    refine V2_goto (tgt := 55) d_Push_pushOf_51 rfl ?_
    refine V2_istore (i := 5) (l' := [some (.ref 3), some (.int (nI p)), some (.ref 42), some (.int (1 : Int32)), some (.int v28), some (.int v30), none]) d_Push_pushOf_55 (xst_i (Nat.le_of_ble_eq_true rfl) rfl rfl) ?_
    refine V2_aload_n (i := 2) d_Push_pushOf_57 rfl rfl ?_
    refine V2_get (v := F 42 5) d_Push_pushOf_58 fl_Push_45 (by decide) rfl (by decide) rfl rfl ?_
    refine V2_topi (fun v31 ev31 => ?_)
    refine V2_iconst (v := 2) d_Push_pushOf_61 rfl ?_
    refine V2_iremM d_Push_pushOf_62 (by decide) ?_
    refine V2_topi (fun v32 ev32 => ?_)
    refine V2_if_ne (tgt := 71) d_Push_pushOf_63 rfl (fun c33 => ?_) (fun c33 => ?_)
    · refine V2_iconst (v := 0) d_Push_pushOf_71 rfl ?_
      refine V2_istore (i := 6) (l' := [some (.ref 3), some (.int (nI p)), some (.ref 42), some (.int (1 : Int32)), some (.int v28), some (.int v30), some (.int (0 : Int32))]) d_Push_pushOf_72 (xst_i (Nat.le_of_ble_eq_true rfl) rfl rfl) ?_
      refine V2_aload_n (i := 0) d_Push_pushOf_74 rfl rfl ?_
      refine V2_getr (a := 5) d_Push_pushOf_75 fl_Push_9 (by decide) rfl (by decide) rfl ?_
      refine V2_iload_n (i := 1) d_Push_pushOf_78 rfl rfl ?_
      refine V2_ialoadJ (p) d_Push_pushOf_79 (by decide) rfl (xixA (n := p) rfl (by omega) (by decide)) (xixB (n := p) rfl (by omega)) rfl ?_
      refine V2_topi (fun v34 ev34 => ?_)
      by_cases c35_1 : v34 = 1
      · refine V2_tableIn (tgt := 120) (off := 40) d_Push_pushOf_80 (by rw [c35_1]; decide) (by rw [c35_1]; decide) (by rw [c35_1]; decide) rfl ?_
        refine V2_iload (i := 5) d_Push_pushOf_120 rfl ?_
        refine V2_ireturn d_Push_pushOf_122 rfl ?_
        exact xQi hQ (by subst ev34 ev32 ev31 ev30 ev29 ev28 ev3 ev1; first | (simp_all [pushK]; done) | (rw [xmx0]; simp_all [pushK]; done)) rfl
      by_cases c35_2 : v34 = 2
      · refine V2_tableIn (tgt := 123) (off := 43) d_Push_pushOf_80 (by rw [c35_2]; decide) (by rw [c35_2]; decide) (by rw [c35_2]; decide) rfl ?_
        refine V2_iload (i := 6) d_Push_pushOf_123 rfl ?_
        refine V2_ireturn d_Push_pushOf_125 rfl ?_
        exact xQi hQ (by subst ev34 ev32 ev31 ev30 ev29 ev28 ev3 ev1; first | (simp_all [pushK]; done) | (rw [xmx0]; simp_all [pushK]; done)) rfl
      by_cases c35_3 : v34 = 3
      · refine V2_tableIn (tgt := 126) (off := 46) d_Push_pushOf_80 (by rw [c35_3]; decide) (by rw [c35_3]; decide) (by rw [c35_3]; decide) rfl ?_
        refine V2_iload_n (i := 3) d_Push_pushOf_126 rfl rfl ?_
        refine V2_if_eq (tgt := 134) d_Push_pushOf_127 rfl (fun c => (by first | exact absurd c (by decide) | exact absurd (by decide) c)) (fun _ => ?_)
        refine V2_iconst (v := 0) d_Push_pushOf_130 rfl ?_
        refine V2_goto (tgt := 140) d_Push_pushOf_131 rfl ?_
        refine V2_ireturn d_Push_pushOf_140 rfl ?_
        exact xQi hQ (by subst ev34 ev32 ev31 ev30 ev29 ev28 ev3 ev1; first | (simp_all [pushK]; done) | (rw [xmx0]; simp_all [pushK]; done)) rfl
      by_cases c35_4 : v34 = 4
      · refine V2_tableIn (tgt := 141) (off := 61) d_Push_pushOf_80 (by rw [c35_4]; decide) (by rw [c35_4]; decide) (by rw [c35_4]; decide) rfl ?_
        refine V2_iload (i := 5) d_Push_pushOf_141 rfl ?_
        refine V2_aload_n (i := 2) d_Push_pushOf_143 rfl rfl ?_
        refine V2_get (v := F 42 2) d_Push_pushOf_144 fl_Push_48 (by decide) rfl (by decide) rfl rfl ?_
        refine V2_topi (fun v36 ev36 => ?_)
        refine V2_bipush (v := 8) d_Push_pushOf_147 rfl ?_
        refine V2_idiv d_Push_pushOf_149 (by decide) ?_
        refine V2_topi (fun v37 ev37 => ?_)
        refine V2_iadd d_Push_pushOf_150 ?_
        refine V2_topi (fun v38 ev38 => ?_)
        refine V2_ireturn d_Push_pushOf_151 rfl ?_
        exact xQi hQ (by subst ev38 ev37 ev36 ev34 ev32 ev31 ev30 ev29 ev28 ev3 ev1; first | (simp_all [pushK]; done) | (rw [xmx0]; simp_all [pushK]; done)) rfl
      by_cases c35_5 : v34 = 5
      · refine V2_tableIn (tgt := 152) (off := 72) d_Push_pushOf_80 (by rw [c35_5]; decide) (by rw [c35_5]; decide) (by rw [c35_5]; decide) rfl ?_
        refine V2_iconst (v := 0) d_Push_pushOf_152 rfl ?_
        refine V2_iload (i := 6) d_Push_pushOf_153 rfl ?_
        refine V2_aload_n (i := 2) d_Push_pushOf_155 rfl rfl ?_
        refine V2_get (v := F 42 5) d_Push_pushOf_156 fl_Push_45 (by decide) rfl (by decide) rfl rfl ?_
        refine V2_topi (fun v39 ev39 => ?_)
        refine V2_bipush (v := 8) d_Push_pushOf_159 rfl ?_
        refine V2_idiv d_Push_pushOf_161 (by decide) ?_
        refine V2_topi (fun v40 ev40 => ?_)
        refine V2_isub d_Push_pushOf_162 ?_
        refine V2_topi (fun v41 ev41 => ?_)
        refine V2_mmax d_Push_pushOf_163 lz_Push_32 (Nat.le_of_ble_eq_true rfl) ?_
        refine V2_topi (fun v42 ev42 => ?_)
        refine V2_ireturn d_Push_pushOf_166 rfl ?_
        exact xQi hQ (by subst ev42 ev41 ev40 ev39 ev34 ev32 ev31 ev30 ev29 ev28 ev3 ev1; first | (simp_all [pushK]; done) | (rw [xmx0]; simp_all [pushK]; done)) rfl
      by_cases c35_6 : v34 = 6
      · refine V2_tableIn (tgt := 167) (off := 87) d_Push_pushOf_80 (by rw [c35_6]; decide) (by rw [c35_6]; decide) (by rw [c35_6]; decide) rfl ?_
        refine V2_iconst (v := 0) d_Push_pushOf_167 rfl ?_
        refine V2_ireturn d_Push_pushOf_168 rfl ?_
        exact xQi hQ (by subst ev34 ev32 ev31 ev30 ev29 ev28 ev3 ev1; first | (simp_all [pushK]; done) | (rw [xmx0]; simp_all [pushK]; done)) rfl
      refine V2_tableOut (tgt := 169) d_Push_pushOf_80 (by have := lv_neT (a := 1) c35_1 rfl; have := lv_neT (a := 2) c35_2 rfl; have := lv_neT (a := 3) c35_3 rfl; have := lv_neT (a := 4) c35_4 rfl; have := lv_neT (a := 5) c35_5 rfl; have := lv_neT (a := 6) c35_6 rfl; omega) rfl ?_
      refine V2_iload (i := 4) d_Push_pushOf_169 rfl ?_
      refine V2_ireturn d_Push_pushOf_171 rfl ?_
      exact xQi hQ (by subst ev34 ev32 ev31 ev30 ev29 ev28 ev3 ev1; first | (simp_all [pushK]; done) | (rw [xmx0]; simp_all [pushK]; done)) rfl
    · refine V2_iload (i := 4) d_Push_pushOf_66 rfl ?_
      refine V2_goto (tgt := 72) d_Push_pushOf_68 rfl ?_
      refine V2_istore (i := 6) (l' := [some (.ref 3), some (.int (nI p)), some (.ref 42), some (.int (1 : Int32)), some (.int v28), some (.int v30), some (.int v28)]) d_Push_pushOf_72 (xst_i (Nat.le_of_ble_eq_true rfl) rfl rfl) ?_
      refine V2_aload_n (i := 0) d_Push_pushOf_74 rfl rfl ?_
      refine V2_getr (a := 5) d_Push_pushOf_75 fl_Push_9 (by decide) rfl (by decide) rfl ?_
      refine V2_iload_n (i := 1) d_Push_pushOf_78 rfl rfl ?_
      refine V2_ialoadJ (p) d_Push_pushOf_79 (by decide) rfl (xixA (n := p) rfl (by omega) (by decide)) (xixB (n := p) rfl (by omega)) rfl ?_
      refine V2_topi (fun v43 ev43 => ?_)
      by_cases c44_1 : v43 = 1
      · refine V2_tableIn (tgt := 120) (off := 40) d_Push_pushOf_80 (by rw [c44_1]; decide) (by rw [c44_1]; decide) (by rw [c44_1]; decide) rfl ?_
        refine V2_iload (i := 5) d_Push_pushOf_120 rfl ?_
        refine V2_ireturn d_Push_pushOf_122 rfl ?_
        exact xQi hQ (by subst ev43 ev32 ev31 ev30 ev29 ev28 ev3 ev1; first | (simp_all [pushK]; done) | (rw [xmx0]; simp_all [pushK]; done)) rfl
      by_cases c44_2 : v43 = 2
      · refine V2_tableIn (tgt := 123) (off := 43) d_Push_pushOf_80 (by rw [c44_2]; decide) (by rw [c44_2]; decide) (by rw [c44_2]; decide) rfl ?_
        refine V2_iload (i := 6) d_Push_pushOf_123 rfl ?_
        refine V2_ireturn d_Push_pushOf_125 rfl ?_
        exact xQi hQ (by subst ev43 ev32 ev31 ev30 ev29 ev28 ev3 ev1; first | (simp_all [pushK]; done) | (rw [xmx0]; simp_all [pushK]; done)) rfl
      by_cases c44_3 : v43 = 3
      · refine V2_tableIn (tgt := 126) (off := 46) d_Push_pushOf_80 (by rw [c44_3]; decide) (by rw [c44_3]; decide) (by rw [c44_3]; decide) rfl ?_
        refine V2_iload_n (i := 3) d_Push_pushOf_126 rfl rfl ?_
        refine V2_if_eq (tgt := 134) d_Push_pushOf_127 rfl (fun c => (by first | exact absurd c (by decide) | exact absurd (by decide) c)) (fun _ => ?_)
        refine V2_iconst (v := 0) d_Push_pushOf_130 rfl ?_
        refine V2_goto (tgt := 140) d_Push_pushOf_131 rfl ?_
        refine V2_ireturn d_Push_pushOf_140 rfl ?_
        exact xQi hQ (by subst ev43 ev32 ev31 ev30 ev29 ev28 ev3 ev1; first | (simp_all [pushK]; done) | (rw [xmx0]; simp_all [pushK]; done)) rfl
      by_cases c44_4 : v43 = 4
      · refine V2_tableIn (tgt := 141) (off := 61) d_Push_pushOf_80 (by rw [c44_4]; decide) (by rw [c44_4]; decide) (by rw [c44_4]; decide) rfl ?_
        refine V2_iload (i := 5) d_Push_pushOf_141 rfl ?_
        refine V2_aload_n (i := 2) d_Push_pushOf_143 rfl rfl ?_
        refine V2_get (v := F 42 2) d_Push_pushOf_144 fl_Push_48 (by decide) rfl (by decide) rfl rfl ?_
        refine V2_topi (fun v45 ev45 => ?_)
        refine V2_bipush (v := 8) d_Push_pushOf_147 rfl ?_
        refine V2_idiv d_Push_pushOf_149 (by decide) ?_
        refine V2_topi (fun v46 ev46 => ?_)
        refine V2_iadd d_Push_pushOf_150 ?_
        refine V2_topi (fun v47 ev47 => ?_)
        refine V2_ireturn d_Push_pushOf_151 rfl ?_
        exact xQi hQ (by subst ev47 ev46 ev45 ev43 ev32 ev31 ev30 ev29 ev28 ev3 ev1; first | (simp_all [pushK]; done) | (rw [xmx0]; simp_all [pushK]; done)) rfl
      by_cases c44_5 : v43 = 5
      · refine V2_tableIn (tgt := 152) (off := 72) d_Push_pushOf_80 (by rw [c44_5]; decide) (by rw [c44_5]; decide) (by rw [c44_5]; decide) rfl ?_
        refine V2_iconst (v := 0) d_Push_pushOf_152 rfl ?_
        refine V2_iload (i := 6) d_Push_pushOf_153 rfl ?_
        refine V2_aload_n (i := 2) d_Push_pushOf_155 rfl rfl ?_
        refine V2_get (v := F 42 5) d_Push_pushOf_156 fl_Push_45 (by decide) rfl (by decide) rfl rfl ?_
        refine V2_topi (fun v48 ev48 => ?_)
        refine V2_bipush (v := 8) d_Push_pushOf_159 rfl ?_
        refine V2_idiv d_Push_pushOf_161 (by decide) ?_
        refine V2_topi (fun v49 ev49 => ?_)
        refine V2_isub d_Push_pushOf_162 ?_
        refine V2_topi (fun v50 ev50 => ?_)
        refine V2_mmax d_Push_pushOf_163 lz_Push_32 (Nat.le_of_ble_eq_true rfl) ?_
        refine V2_topi (fun v51 ev51 => ?_)
        refine V2_ireturn d_Push_pushOf_166 rfl ?_
        exact xQi hQ (by subst ev51 ev50 ev49 ev48 ev43 ev32 ev31 ev30 ev29 ev28 ev3 ev1; first | (simp_all [pushK]; done) | (rw [xmx0]; simp_all [pushK]; done)) rfl
      by_cases c44_6 : v43 = 6
      · refine V2_tableIn (tgt := 167) (off := 87) d_Push_pushOf_80 (by rw [c44_6]; decide) (by rw [c44_6]; decide) (by rw [c44_6]; decide) rfl ?_
        refine V2_iconst (v := 0) d_Push_pushOf_167 rfl ?_
        refine V2_ireturn d_Push_pushOf_168 rfl ?_
        exact xQi hQ (by subst ev43 ev32 ev31 ev30 ev29 ev28 ev3 ev1; first | (simp_all [pushK]; done) | (rw [xmx0]; simp_all [pushK]; done)) rfl
      refine V2_tableOut (tgt := 169) d_Push_pushOf_80 (by have := lv_neT (a := 1) c44_1 rfl; have := lv_neT (a := 2) c44_2 rfl; have := lv_neT (a := 3) c44_3 rfl; have := lv_neT (a := 4) c44_4 rfl; have := lv_neT (a := 5) c44_5 rfl; have := lv_neT (a := 6) c44_6 rfl; omega) rfl ?_
      refine V2_iload (i := 4) d_Push_pushOf_169 rfl ?_
      refine V2_ireturn d_Push_pushOf_171 rfl ?_
      exact xQi hQ (by subst ev43 ev32 ev31 ev30 ev29 ev28 ev3 ev1; first | (simp_all [pushK]; done) | (rw [xmx0]; simp_all [pushK]; done)) rfl
theorem c_Push_pushOfSet_42_loop {L : Nat} {xs : Nat → Int32} {d : Nat} {Q : Option Value → xF → Prop} {F : xF} {P : Nat} {set : Int32} (hP : F 3 2 = nI P) (hP2 : F 3 2 = nI P) (hl : P ≤ 6) : ∀ (n : Nat) (p : Nat) (v : Int32), p ≤ P → P < n + p → v = sumTo (fun p => @ite _ (inSet set p) (Classical.propDecidable _) (pushK (F 5 p) (F 7 p) (F 42 3) (F 42 2) (F 42 5)) 0) p → (Q (some (.int (sumTo (fun p => @ite _ (inSet set p) (Classical.propDecidable _) (pushK (F 5 p) (F 7 p) (F 42 3) (F 42 2) (F 42 5)) 0) P))) F) → V2 L xs (d + 4) m_Push_pushOfSet 5 [some (.ref 3), some (.int set), some (.ref 42), some (.int v), some (.int (nI p))] [] F Q := by
  intro n
  induction n with
  | zero => exact fun p v h1 h2 => absurd h2 (by omega)
  | succ n ih =>
    intro p v h1 h2 h3 hQ
    refine V2_iload (i := 4) d_Push_pushOfSet_5 rfl ?_
    refine V2_aload_n (i := 0) d_Push_pushOfSet_7 rfl rfl ?_
    refine V2_get (v := F 3 2) d_Push_pushOfSet_8 fl_Push_16 (by decide) rfl (by decide) rfl rfl ?_
    refine V2_topi (fun v1 ev1 => ?_)
    have eN : v1 = nI P := by
      subst ev1
      exact hP
    rw [eN]
    refine V2_icmp_ge (tgt := 43) d_Push_pushOfSet_11 rfl (fun c2 => ?_) (fun c2 => ?_)
    · refine V2_iload_n (i := 3) d_Push_pushOfSet_43 rfl rfl ?_
      refine V2_ireturn d_Push_pushOfSet_44 rfl ?_
      have hpp : p = P := by
        subst ev1
        exact Nat.le_antisymm h1 ((nI_leI (by omega) (by omega)).mp c2)
      subst hpp
      exact xQi hQ h3 rfl
    · have hp : p < P := Nat.not_le.mp (fun hh => c2 ((nI_leI (by omega) (by omega)).mpr hh))
      refine V2_iload_n (i := 3) d_Push_pushOfSet_14 rfl rfl ?_
      refine V2_iload_n (i := 1) d_Push_pushOfSet_15 rfl rfl ?_
      refine V2_iload (i := 4) d_Push_pushOfSet_16 rfl ?_
      refine V2_callS [.int set, .int (nI p)] d_Push_pushOfSet_18 rfl rfl lk_Push_51 mo_Push_isIn (Nat.le_of_ble_eq_true rfl) (Nat.le_of_ble_eq_true rfl) ?_
      refine c_Push_isIn ?_
      refine V2_topi (fun v3 ev3 => ?_)
      refine V2_if_eq (tgt := 34) d_Push_pushOfSet_21 rfl (fun c4 => ?_) (fun c4 => ?_)
      · refine V2_iconst (v := 0) d_Push_pushOfSet_34 rfl ?_
        refine V2_iadd d_Push_pushOfSet_35 ?_
        refine V2_topi (fun v5 ev5 => ?_)
        refine V2_istore_n (i := 3) (l' := [some (.ref 3), some (.int set), some (.ref 42), some (.int v5), some (.int (nI p))]) d_Push_pushOfSet_36 rfl (xst_r (Nat.le_of_ble_eq_true rfl) rfl rfl) ?_
        obtain ⟨v6, ev6⟩ : ∃ y : Int32, y = nI p + 1 := ⟨_, rfl⟩
        refine V2_iinc (i := 4) (v := v6) (l' := [some (.ref 3), some (.int set), some (.ref 42), some (.int v5), some (.int v6)]) d_Push_pushOfSet_37 rfl (by rw [ev6]; rfl) (xst_i (Nat.le_of_ble_eq_true rfl) rfl rfl) ?_
        refine V2_goto (tgt := 5) d_Push_pushOfSet_40 rfl ?_
        exact V2.to (ih (p + 1) v5 (by omega) (by omega) (by subst ev6 ev5 ev3 ev1; rw [h3]; exact (sum_out (f := (fun p => pushK (F 5 p) (F 7 p) (F 42 3) (F 42 2) (F 42 5))) (set := set) (xin_f c4)).symm) hQ) rfl (by rw [ev6, nI_1]) rfl rfl
      · refine V2_aload_n (i := 0) d_Push_pushOfSet_24 rfl rfl ?_
        refine V2_iload (i := 4) d_Push_pushOfSet_25 rfl ?_
        refine V2_aload_n (i := 2) d_Push_pushOfSet_27 rfl rfl ?_
        refine V2_callV [.int (nI p), .ref 42] d_Push_pushOfSet_28 rfl rfl lk_Push_59 mo_Push_pushOf (by decide) rfl rfl rfl (Nat.le_of_ble_eq_true rfl) (Nat.le_of_ble_eq_true rfl) ?_
        refine c_Push_pushOf_42 hP hP2 hl hp ?_
        refine V2_topi (fun v7 ev7 => ?_)
        refine V2_goto (tgt := 35) d_Push_pushOfSet_31 rfl ?_
        refine V2_iadd d_Push_pushOfSet_35 ?_
        refine V2_topi (fun v8 ev8 => ?_)
        refine V2_istore_n (i := 3) (l' := [some (.ref 3), some (.int set), some (.ref 42), some (.int v8), some (.int (nI p))]) d_Push_pushOfSet_36 rfl (xst_r (Nat.le_of_ble_eq_true rfl) rfl rfl) ?_
        obtain ⟨v9, ev9⟩ : ∃ y : Int32, y = nI p + 1 := ⟨_, rfl⟩
        refine V2_iinc (i := 4) (v := v9) (l' := [some (.ref 3), some (.int set), some (.ref 42), some (.int v8), some (.int v9)]) d_Push_pushOfSet_37 rfl (by rw [ev9]; rfl) (xst_i (Nat.le_of_ble_eq_true rfl) rfl rfl) ?_
        refine V2_goto (tgt := 5) d_Push_pushOfSet_40 rfl ?_
        exact V2.to (ih (p + 1) v8 (by omega) (by omega) (by subst ev9 ev8 ev7 ev3 ev1; rw [h3]; exact (sum_in (f := (fun p => pushK (F 5 p) (F 7 p) (F 42 3) (F 42 2) (F 42 5))) (set := set) (xin_t c4)).symm) hQ) rfl (by rw [ev9, nI_1]) rfl rfl
theorem c_Push_pushOfSet_42 {L : Nat} {xs : Nat → Int32} {d : Nat} {Q : Option Value → xF → Prop} {F : xF} {P : Nat} {set : Int32} (hP : F 3 2 = nI P) (hP2 : F 3 2 = nI P) (hl : P ≤ 6) (hQ : Q (some (.int (sumTo (fun p => @ite _ (inSet set p) (Classical.propDecidable _) (pushK (F 5 p) (F 7 p) (F 42 3) (F 42 2) (F 42 5)) 0) P))) F) : V2 L xs (d + 4) m_Push_pushOfSet 0 (xEntry [.ref 3, .int set, .ref 42] 5) [] F Q := by
  refine V2.to (l' := [some (.ref 3), some (.int set), some (.ref 42), none, none]) ?_ rfl rfl rfl rfl
  refine V2_iconst (v := 0) d_Push_pushOfSet_0 rfl ?_
  refine V2_istore_n (i := 3) (l' := [some (.ref 3), some (.int set), some (.ref 42), some (.int (0 : Int32)), none]) d_Push_pushOfSet_1 rfl (xst_r (Nat.le_of_ble_eq_true rfl) rfl rfl) ?_
  refine V2_iconst (v := 0) d_Push_pushOfSet_2 rfl ?_
  refine V2_istore (i := 4) (l' := [some (.ref 3), some (.int set), some (.ref 42), some (.int (0 : Int32)), some (.int (0 : Int32))]) d_Push_pushOfSet_3 (xst_i (Nat.le_of_ble_eq_true rfl) rfl rfl) ?_
  exact c_Push_pushOfSet_42_loop hP hP2 hl (P + 1) 0 0 (by omega) (by omega) rfl hQ
theorem c_Push_pushOf_43 {L : Nat} {xs : Nat → Int32} {d : Nat} {Q : Option Value → xF → Prop} {F : xF} {p P : Nat} (hP : F 3 2 = nI P) (hP2 : F 3 2 = nI P) (hl : P ≤ 6) (hp : p < P) (hQ : Q (some (.int (pushK (F 5 p) (F 7 p) (F 43 3) (F 43 2) (F 43 5)))) F) : V2 L xs (d + 3) m_Push_pushOf 0 (xEntry [.ref 3, .int (nI p), .ref 43] 7) [] F Q := by
  refine V2.to (l' := [some (.ref 3), some (.int (nI p)), some (.ref 43), none, none, none, none]) ?_ rfl rfl rfl rfl
  refine V2_aload_n (i := 0) d_Push_pushOf_0 rfl rfl ?_
  refine V2_iload_n (i := 1) d_Push_pushOf_1 rfl rfl ?_
  refine V2_callV [.int (nI p)] d_Push_pushOf_2 rfl rfl lk_Push_28 mo_Push_has (by decide) rfl rfl rfl (Nat.le_of_ble_eq_true rfl) (Nat.le_of_ble_eq_true rfl) ?_
  refine c_Push_has hP hl ?_
  refine V2_topi (fun v1 ev1 => ?_)
  refine V2_if_ne (tgt := 10) d_Push_pushOf_5 rfl (fun c2 => ?_) (fun c2 => (by first | exact absurd (show ¬ v1 = 0 from by subst ev1; rw [xb_1 ⟨nI_pos' (by omega), by rw [hP]; exact nI_lt hp (by omega)⟩]; decide) c2 | exact absurd c2 (show ¬ v1 = 0 from by subst ev1; rw [xb_1 ⟨nI_pos' (by omega), by rw [hP]; exact nI_lt hp (by omega)⟩]; decide)))
  refine V2_aload_n (i := 2) d_Push_pushOf_10 rfl rfl ?_
  refine V2_get (v := F 43 3) d_Push_pushOf_11 fl_Push_40 (by decide) rfl (by decide) rfl rfl ?_
  refine V2_topi (fun v3 ev3 => ?_)
  refine V2_if_ne (tgt := 21) d_Push_pushOf_14 rfl (fun c4 => ?_) (fun c4 => ?_)
  · refine V2_iconst (v := 0) d_Push_pushOf_21 rfl ?_
    refine V2_istore_n (i := 3) (l' := [some (.ref 3), some (.int (nI p)), some (.ref 43), some (.int (0 : Int32)), none, none, none]) d_Push_pushOf_22 rfl (xst_r (Nat.le_of_ble_eq_true rfl) rfl rfl) ?_
    refine V2_iload_n (i := 3) d_Push_pushOf_23 rfl rfl ?_
    refine V2_if_eq (tgt := 36) d_Push_pushOf_24 rfl (fun _ => ?_) (fun c => (by first | exact absurd c (by decide) | exact absurd (by decide) c))
    refine V2_iconst (v := 0) d_Push_pushOf_36 rfl ?_
    refine V2_istore (i := 4) (l' := [some (.ref 3), some (.int (nI p)), some (.ref 43), some (.int (0 : Int32)), some (.int (0 : Int32)), none, none]) d_Push_pushOf_37 (xst_i (Nat.le_of_ble_eq_true rfl) rfl rfl) ?_
    refine V2_iload_n (i := 3) d_Push_pushOf_39 rfl rfl ?_
    refine V2_if_eq (tgt := 54) d_Push_pushOf_40 rfl (fun _ => ?_) (fun c => (by first | exact absurd c (by decide) | exact absurd (by decide) c))
    refine V2_iconst (v := 0) d_Push_pushOf_54 rfl ?_
    refine V2_istore (i := 5) (l' := [some (.ref 3), some (.int (nI p)), some (.ref 43), some (.int (0 : Int32)), some (.int (0 : Int32)), some (.int (0 : Int32)), none]) d_Push_pushOf_55 (xst_i (Nat.le_of_ble_eq_true rfl) rfl rfl) ?_
    refine V2_aload_n (i := 2) d_Push_pushOf_57 rfl rfl ?_
    refine V2_get (v := F 43 5) d_Push_pushOf_58 fl_Push_45 (by decide) rfl (by decide) rfl rfl ?_
    refine V2_topi (fun v5 ev5 => ?_)
    refine V2_iconst (v := 2) d_Push_pushOf_61 rfl ?_
    refine V2_iremM d_Push_pushOf_62 (by decide) ?_
    refine V2_topi (fun v6 ev6 => ?_)
    refine V2_if_ne (tgt := 71) d_Push_pushOf_63 rfl (fun c7 => ?_) (fun c7 => ?_)
    · refine V2_iconst (v := 0) d_Push_pushOf_71 rfl ?_
      refine V2_istore (i := 6) (l' := [some (.ref 3), some (.int (nI p)), some (.ref 43), some (.int (0 : Int32)), some (.int (0 : Int32)), some (.int (0 : Int32)), some (.int (0 : Int32))]) d_Push_pushOf_72 (xst_i (Nat.le_of_ble_eq_true rfl) rfl rfl) ?_
      refine V2_aload_n (i := 0) d_Push_pushOf_74 rfl rfl ?_
      refine V2_getr (a := 5) d_Push_pushOf_75 fl_Push_9 (by decide) rfl (by decide) rfl ?_
      refine V2_iload_n (i := 1) d_Push_pushOf_78 rfl rfl ?_
      refine V2_ialoadJ (p) d_Push_pushOf_79 (by decide) rfl (xixA (n := p) rfl (by omega) (by decide)) (xixB (n := p) rfl (by omega)) rfl ?_
      refine V2_topi (fun v8 ev8 => ?_)
      by_cases c9_1 : v8 = 1
      · refine V2_tableIn (tgt := 120) (off := 40) d_Push_pushOf_80 (by rw [c9_1]; decide) (by rw [c9_1]; decide) (by rw [c9_1]; decide) rfl ?_
        refine V2_iload (i := 5) d_Push_pushOf_120 rfl ?_
        refine V2_ireturn d_Push_pushOf_122 rfl ?_
        exact xQi hQ (by subst ev8 ev6 ev5 ev3 ev1; first | (simp_all [pushK]; done) | (rw [xmx0]; simp_all [pushK]; done)) rfl
      by_cases c9_2 : v8 = 2
      · refine V2_tableIn (tgt := 123) (off := 43) d_Push_pushOf_80 (by rw [c9_2]; decide) (by rw [c9_2]; decide) (by rw [c9_2]; decide) rfl ?_
        refine V2_iload (i := 6) d_Push_pushOf_123 rfl ?_
        refine V2_ireturn d_Push_pushOf_125 rfl ?_
        exact xQi hQ (by subst ev8 ev6 ev5 ev3 ev1; first | (simp_all [pushK]; done) | (rw [xmx0]; simp_all [pushK]; done)) rfl
      by_cases c9_3 : v8 = 3
      · refine V2_tableIn (tgt := 126) (off := 46) d_Push_pushOf_80 (by rw [c9_3]; decide) (by rw [c9_3]; decide) (by rw [c9_3]; decide) rfl ?_
        refine V2_iload_n (i := 3) d_Push_pushOf_126 rfl rfl ?_
        refine V2_if_eq (tgt := 134) d_Push_pushOf_127 rfl (fun _ => ?_) (fun c => (by first | exact absurd c (by decide) | exact absurd (by decide) c))
        refine V2_aload_n (i := 0) d_Push_pushOf_134 rfl rfl ?_
        refine V2_getr (a := 7) d_Push_pushOf_135 fl_Push_13 (by decide) rfl (by decide) rfl ?_
        refine V2_iload_n (i := 1) d_Push_pushOf_138 rfl rfl ?_
        refine V2_ialoadJ (p) d_Push_pushOf_139 (by decide) rfl (xixA (n := p) rfl (by omega) (by decide)) (xixB (n := p) rfl (by omega)) rfl ?_
        refine V2_topi (fun v10 ev10 => ?_)
        refine V2_ireturn d_Push_pushOf_140 rfl ?_
        exact xQi hQ (by subst ev10 ev8 ev6 ev5 ev3 ev1; first | (simp_all [pushK]; done) | (rw [xmx0]; simp_all [pushK]; done)) rfl
      by_cases c9_4 : v8 = 4
      · refine V2_tableIn (tgt := 141) (off := 61) d_Push_pushOf_80 (by rw [c9_4]; decide) (by rw [c9_4]; decide) (by rw [c9_4]; decide) rfl ?_
        refine V2_iload (i := 5) d_Push_pushOf_141 rfl ?_
        refine V2_aload_n (i := 2) d_Push_pushOf_143 rfl rfl ?_
        refine V2_get (v := F 43 2) d_Push_pushOf_144 fl_Push_48 (by decide) rfl (by decide) rfl rfl ?_
        refine V2_topi (fun v11 ev11 => ?_)
        refine V2_bipush (v := 8) d_Push_pushOf_147 rfl ?_
        refine V2_idiv d_Push_pushOf_149 (by decide) ?_
        refine V2_topi (fun v12 ev12 => ?_)
        refine V2_iadd d_Push_pushOf_150 ?_
        refine V2_topi (fun v13 ev13 => ?_)
        refine V2_ireturn d_Push_pushOf_151 rfl ?_
        exact xQi hQ (by subst ev13 ev12 ev11 ev8 ev6 ev5 ev3 ev1; first | (simp_all [pushK]; done) | (rw [xmx0]; simp_all [pushK]; done)) rfl
      by_cases c9_5 : v8 = 5
      · refine V2_tableIn (tgt := 152) (off := 72) d_Push_pushOf_80 (by rw [c9_5]; decide) (by rw [c9_5]; decide) (by rw [c9_5]; decide) rfl ?_
        refine V2_iconst (v := 0) d_Push_pushOf_152 rfl ?_
        refine V2_iload (i := 6) d_Push_pushOf_153 rfl ?_
        refine V2_aload_n (i := 2) d_Push_pushOf_155 rfl rfl ?_
        refine V2_get (v := F 43 5) d_Push_pushOf_156 fl_Push_45 (by decide) rfl (by decide) rfl rfl ?_
        refine V2_topi (fun v14 ev14 => ?_)
        refine V2_bipush (v := 8) d_Push_pushOf_159 rfl ?_
        refine V2_idiv d_Push_pushOf_161 (by decide) ?_
        refine V2_topi (fun v15 ev15 => ?_)
        refine V2_isub d_Push_pushOf_162 ?_
        refine V2_topi (fun v16 ev16 => ?_)
        refine V2_mmax d_Push_pushOf_163 lz_Push_32 (Nat.le_of_ble_eq_true rfl) ?_
        refine V2_topi (fun v17 ev17 => ?_)
        refine V2_ireturn d_Push_pushOf_166 rfl ?_
        exact xQi hQ (by subst ev17 ev16 ev15 ev14 ev8 ev6 ev5 ev3 ev1; first | (simp_all [pushK]; done) | (rw [xmx0]; simp_all [pushK]; done)) rfl
      by_cases c9_6 : v8 = 6
      · refine V2_tableIn (tgt := 167) (off := 87) d_Push_pushOf_80 (by rw [c9_6]; decide) (by rw [c9_6]; decide) (by rw [c9_6]; decide) rfl ?_
        refine V2_iconst (v := 0) d_Push_pushOf_167 rfl ?_
        refine V2_ireturn d_Push_pushOf_168 rfl ?_
        exact xQi hQ (by subst ev8 ev6 ev5 ev3 ev1; first | (simp_all [pushK]; done) | (rw [xmx0]; simp_all [pushK]; done)) rfl
      refine V2_tableOut (tgt := 169) d_Push_pushOf_80 (by have := lv_neT (a := 1) c9_1 rfl; have := lv_neT (a := 2) c9_2 rfl; have := lv_neT (a := 3) c9_3 rfl; have := lv_neT (a := 4) c9_4 rfl; have := lv_neT (a := 5) c9_5 rfl; have := lv_neT (a := 6) c9_6 rfl; omega) rfl ?_
      refine V2_iload (i := 4) d_Push_pushOf_169 rfl ?_
      refine V2_ireturn d_Push_pushOf_171 rfl ?_
      exact xQi hQ (by subst ev8 ev6 ev5 ev3 ev1; first | (simp_all [pushK]; done) | (rw [xmx0]; simp_all [pushK]; done)) rfl
    · refine V2_iload (i := 4) d_Push_pushOf_66 rfl ?_
      refine V2_goto (tgt := 72) d_Push_pushOf_68 rfl ?_
      refine V2_istore (i := 6) (l' := [some (.ref 3), some (.int (nI p)), some (.ref 43), some (.int (0 : Int32)), some (.int (0 : Int32)), some (.int (0 : Int32)), some (.int (0 : Int32))]) d_Push_pushOf_72 (xst_i (Nat.le_of_ble_eq_true rfl) rfl rfl) ?_
      refine V2_aload_n (i := 0) d_Push_pushOf_74 rfl rfl ?_
      refine V2_getr (a := 5) d_Push_pushOf_75 fl_Push_9 (by decide) rfl (by decide) rfl ?_
      refine V2_iload_n (i := 1) d_Push_pushOf_78 rfl rfl ?_
      refine V2_ialoadJ (p) d_Push_pushOf_79 (by decide) rfl (xixA (n := p) rfl (by omega) (by decide)) (xixB (n := p) rfl (by omega)) rfl ?_
      refine V2_topi (fun v18 ev18 => ?_)
      by_cases c19_1 : v18 = 1
      · refine V2_tableIn (tgt := 120) (off := 40) d_Push_pushOf_80 (by rw [c19_1]; decide) (by rw [c19_1]; decide) (by rw [c19_1]; decide) rfl ?_
        refine V2_iload (i := 5) d_Push_pushOf_120 rfl ?_
        refine V2_ireturn d_Push_pushOf_122 rfl ?_
        exact xQi hQ (by subst ev18 ev6 ev5 ev3 ev1; first | (simp_all [pushK]; done) | (rw [xmx0]; simp_all [pushK]; done)) rfl
      by_cases c19_2 : v18 = 2
      · refine V2_tableIn (tgt := 123) (off := 43) d_Push_pushOf_80 (by rw [c19_2]; decide) (by rw [c19_2]; decide) (by rw [c19_2]; decide) rfl ?_
        refine V2_iload (i := 6) d_Push_pushOf_123 rfl ?_
        refine V2_ireturn d_Push_pushOf_125 rfl ?_
        exact xQi hQ (by subst ev18 ev6 ev5 ev3 ev1; first | (simp_all [pushK]; done) | (rw [xmx0]; simp_all [pushK]; done)) rfl
      by_cases c19_3 : v18 = 3
      · refine V2_tableIn (tgt := 126) (off := 46) d_Push_pushOf_80 (by rw [c19_3]; decide) (by rw [c19_3]; decide) (by rw [c19_3]; decide) rfl ?_
        refine V2_iload_n (i := 3) d_Push_pushOf_126 rfl rfl ?_
        refine V2_if_eq (tgt := 134) d_Push_pushOf_127 rfl (fun _ => ?_) (fun c => (by first | exact absurd c (by decide) | exact absurd (by decide) c))
        refine V2_aload_n (i := 0) d_Push_pushOf_134 rfl rfl ?_
        refine V2_getr (a := 7) d_Push_pushOf_135 fl_Push_13 (by decide) rfl (by decide) rfl ?_
        refine V2_iload_n (i := 1) d_Push_pushOf_138 rfl rfl ?_
        refine V2_ialoadJ (p) d_Push_pushOf_139 (by decide) rfl (xixA (n := p) rfl (by omega) (by decide)) (xixB (n := p) rfl (by omega)) rfl ?_
        refine V2_topi (fun v20 ev20 => ?_)
        refine V2_ireturn d_Push_pushOf_140 rfl ?_
        exact xQi hQ (by subst ev20 ev18 ev6 ev5 ev3 ev1; first | (simp_all [pushK]; done) | (rw [xmx0]; simp_all [pushK]; done)) rfl
      by_cases c19_4 : v18 = 4
      · refine V2_tableIn (tgt := 141) (off := 61) d_Push_pushOf_80 (by rw [c19_4]; decide) (by rw [c19_4]; decide) (by rw [c19_4]; decide) rfl ?_
        refine V2_iload (i := 5) d_Push_pushOf_141 rfl ?_
        refine V2_aload_n (i := 2) d_Push_pushOf_143 rfl rfl ?_
        refine V2_get (v := F 43 2) d_Push_pushOf_144 fl_Push_48 (by decide) rfl (by decide) rfl rfl ?_
        refine V2_topi (fun v21 ev21 => ?_)
        refine V2_bipush (v := 8) d_Push_pushOf_147 rfl ?_
        refine V2_idiv d_Push_pushOf_149 (by decide) ?_
        refine V2_topi (fun v22 ev22 => ?_)
        refine V2_iadd d_Push_pushOf_150 ?_
        refine V2_topi (fun v23 ev23 => ?_)
        refine V2_ireturn d_Push_pushOf_151 rfl ?_
        exact xQi hQ (by subst ev23 ev22 ev21 ev18 ev6 ev5 ev3 ev1; first | (simp_all [pushK]; done) | (rw [xmx0]; simp_all [pushK]; done)) rfl
      by_cases c19_5 : v18 = 5
      · refine V2_tableIn (tgt := 152) (off := 72) d_Push_pushOf_80 (by rw [c19_5]; decide) (by rw [c19_5]; decide) (by rw [c19_5]; decide) rfl ?_
        refine V2_iconst (v := 0) d_Push_pushOf_152 rfl ?_
        refine V2_iload (i := 6) d_Push_pushOf_153 rfl ?_
        refine V2_aload_n (i := 2) d_Push_pushOf_155 rfl rfl ?_
        refine V2_get (v := F 43 5) d_Push_pushOf_156 fl_Push_45 (by decide) rfl (by decide) rfl rfl ?_
        refine V2_topi (fun v24 ev24 => ?_)
        refine V2_bipush (v := 8) d_Push_pushOf_159 rfl ?_
        refine V2_idiv d_Push_pushOf_161 (by decide) ?_
        refine V2_topi (fun v25 ev25 => ?_)
        refine V2_isub d_Push_pushOf_162 ?_
        refine V2_topi (fun v26 ev26 => ?_)
        refine V2_mmax d_Push_pushOf_163 lz_Push_32 (Nat.le_of_ble_eq_true rfl) ?_
        refine V2_topi (fun v27 ev27 => ?_)
        refine V2_ireturn d_Push_pushOf_166 rfl ?_
        exact xQi hQ (by subst ev27 ev26 ev25 ev24 ev18 ev6 ev5 ev3 ev1; first | (simp_all [pushK]; done) | (rw [xmx0]; simp_all [pushK]; done)) rfl
      by_cases c19_6 : v18 = 6
      · refine V2_tableIn (tgt := 167) (off := 87) d_Push_pushOf_80 (by rw [c19_6]; decide) (by rw [c19_6]; decide) (by rw [c19_6]; decide) rfl ?_
        refine V2_iconst (v := 0) d_Push_pushOf_167 rfl ?_
        refine V2_ireturn d_Push_pushOf_168 rfl ?_
        exact xQi hQ (by subst ev18 ev6 ev5 ev3 ev1; first | (simp_all [pushK]; done) | (rw [xmx0]; simp_all [pushK]; done)) rfl
      refine V2_tableOut (tgt := 169) d_Push_pushOf_80 (by have := lv_neT (a := 1) c19_1 rfl; have := lv_neT (a := 2) c19_2 rfl; have := lv_neT (a := 3) c19_3 rfl; have := lv_neT (a := 4) c19_4 rfl; have := lv_neT (a := 5) c19_5 rfl; have := lv_neT (a := 6) c19_6 rfl; omega) rfl ?_
      refine V2_iload (i := 4) d_Push_pushOf_169 rfl ?_
      refine V2_ireturn d_Push_pushOf_171 rfl ?_
      exact xQi hQ (by subst ev18 ev6 ev5 ev3 ev1; first | (simp_all [pushK]; done) | (rw [xmx0]; simp_all [pushK]; done)) rfl
  · refine V2_iconst (v := 1) d_Push_pushOf_17 rfl ?_
    refine V2_goto (tgt := 22) d_Push_pushOf_18 rfl ?_
    refine V2_istore_n (i := 3) (l' := [some (.ref 3), some (.int (nI p)), some (.ref 43), some (.int (1 : Int32)), none, none, none]) d_Push_pushOf_22 rfl (xst_r (Nat.le_of_ble_eq_true rfl) rfl rfl) ?_
    refine V2_iload_n (i := 3) d_Push_pushOf_23 rfl rfl ?_
    refine V2_if_eq (tgt := 36) d_Push_pushOf_24 rfl (fun c => (by first | exact absurd c (by decide) | exact absurd (by decide) c)) (fun _ => ?_)
    refine V2_aload_n (i := 0) d_Push_pushOf_27 rfl rfl ?_
    refine V2_getr (a := 7) d_Push_pushOf_28 fl_Push_13 (by decide) rfl (by decide) rfl ?_
    refine V2_iload_n (i := 1) d_Push_pushOf_31 rfl rfl ?_
    refine V2_ialoadJ (p) d_Push_pushOf_32 (by decide) rfl (xixA (n := p) rfl (by omega) (by decide)) (xixB (n := p) rfl (by omega)) rfl ?_
    refine V2_topi (fun v28 ev28 => ?_)
    refine V2_goto (tgt := 37) d_Push_pushOf_33 rfl ?_
    refine V2_istore (i := 4) (l' := [some (.ref 3), some (.int (nI p)), some (.ref 43), some (.int (1 : Int32)), some (.int v28), none, none]) d_Push_pushOf_37 (xst_i (Nat.le_of_ble_eq_true rfl) rfl rfl) ?_
    refine V2_iload_n (i := 3) d_Push_pushOf_39 rfl rfl ?_
    refine V2_if_eq (tgt := 54) d_Push_pushOf_40 rfl (fun c => (by first | exact absurd c (by decide) | exact absurd (by decide) c)) (fun _ => ?_)
    refine V2_aload_n (i := 0) d_Push_pushOf_43 rfl rfl ?_
    refine V2_getr (a := 7) d_Push_pushOf_44 fl_Push_13 (by decide) rfl (by decide) rfl ?_
    refine V2_iload_n (i := 1) d_Push_pushOf_47 rfl rfl ?_
    refine V2_ialoadJ (p) d_Push_pushOf_48 (by decide) rfl (xixA (n := p) rfl (by omega) (by decide)) (xixB (n := p) rfl (by omega)) rfl ?_
    refine V2_topi (fun v29 ev29 => ?_)
    refine V2_iconst (v := 2) d_Push_pushOf_49 rfl ?_
    refine V2_iadd d_Push_pushOf_50 ?_
    refine V2_topi (fun v30 ev30 => ?_)
    refine V2_goto (tgt := 55) d_Push_pushOf_51 rfl ?_
    refine V2_istore (i := 5) (l' := [some (.ref 3), some (.int (nI p)), some (.ref 43), some (.int (1 : Int32)), some (.int v28), some (.int v30), none]) d_Push_pushOf_55 (xst_i (Nat.le_of_ble_eq_true rfl) rfl rfl) ?_
    refine V2_aload_n (i := 2) d_Push_pushOf_57 rfl rfl ?_
    refine V2_get (v := F 43 5) d_Push_pushOf_58 fl_Push_45 (by decide) rfl (by decide) rfl rfl ?_
    refine V2_topi (fun v31 ev31 => ?_)
    refine V2_iconst (v := 2) d_Push_pushOf_61 rfl ?_
    refine V2_iremM d_Push_pushOf_62 (by decide) ?_
    refine V2_topi (fun v32 ev32 => ?_)
    refine V2_if_ne (tgt := 71) d_Push_pushOf_63 rfl (fun c33 => ?_) (fun c33 => ?_)
    · refine V2_iconst (v := 0) d_Push_pushOf_71 rfl ?_
      refine V2_istore (i := 6) (l' := [some (.ref 3), some (.int (nI p)), some (.ref 43), some (.int (1 : Int32)), some (.int v28), some (.int v30), some (.int (0 : Int32))]) d_Push_pushOf_72 (xst_i (Nat.le_of_ble_eq_true rfl) rfl rfl) ?_
      refine V2_aload_n (i := 0) d_Push_pushOf_74 rfl rfl ?_
      refine V2_getr (a := 5) d_Push_pushOf_75 fl_Push_9 (by decide) rfl (by decide) rfl ?_
      refine V2_iload_n (i := 1) d_Push_pushOf_78 rfl rfl ?_
      refine V2_ialoadJ (p) d_Push_pushOf_79 (by decide) rfl (xixA (n := p) rfl (by omega) (by decide)) (xixB (n := p) rfl (by omega)) rfl ?_
      refine V2_topi (fun v34 ev34 => ?_)
      by_cases c35_1 : v34 = 1
      · refine V2_tableIn (tgt := 120) (off := 40) d_Push_pushOf_80 (by rw [c35_1]; decide) (by rw [c35_1]; decide) (by rw [c35_1]; decide) rfl ?_
        refine V2_iload (i := 5) d_Push_pushOf_120 rfl ?_
        refine V2_ireturn d_Push_pushOf_122 rfl ?_
        exact xQi hQ (by subst ev34 ev32 ev31 ev30 ev29 ev28 ev3 ev1; first | (simp_all [pushK]; done) | (rw [xmx0]; simp_all [pushK]; done)) rfl
      by_cases c35_2 : v34 = 2
      · refine V2_tableIn (tgt := 123) (off := 43) d_Push_pushOf_80 (by rw [c35_2]; decide) (by rw [c35_2]; decide) (by rw [c35_2]; decide) rfl ?_
        refine V2_iload (i := 6) d_Push_pushOf_123 rfl ?_
        refine V2_ireturn d_Push_pushOf_125 rfl ?_
        exact xQi hQ (by subst ev34 ev32 ev31 ev30 ev29 ev28 ev3 ev1; first | (simp_all [pushK]; done) | (rw [xmx0]; simp_all [pushK]; done)) rfl
      by_cases c35_3 : v34 = 3
      · refine V2_tableIn (tgt := 126) (off := 46) d_Push_pushOf_80 (by rw [c35_3]; decide) (by rw [c35_3]; decide) (by rw [c35_3]; decide) rfl ?_
        refine V2_iload_n (i := 3) d_Push_pushOf_126 rfl rfl ?_
        refine V2_if_eq (tgt := 134) d_Push_pushOf_127 rfl (fun c => (by first | exact absurd c (by decide) | exact absurd (by decide) c)) (fun _ => ?_)
        refine V2_iconst (v := 0) d_Push_pushOf_130 rfl ?_
        refine V2_goto (tgt := 140) d_Push_pushOf_131 rfl ?_
        refine V2_ireturn d_Push_pushOf_140 rfl ?_
        exact xQi hQ (by subst ev34 ev32 ev31 ev30 ev29 ev28 ev3 ev1; first | (simp_all [pushK]; done) | (rw [xmx0]; simp_all [pushK]; done)) rfl
      by_cases c35_4 : v34 = 4
      · refine V2_tableIn (tgt := 141) (off := 61) d_Push_pushOf_80 (by rw [c35_4]; decide) (by rw [c35_4]; decide) (by rw [c35_4]; decide) rfl ?_
        refine V2_iload (i := 5) d_Push_pushOf_141 rfl ?_
        refine V2_aload_n (i := 2) d_Push_pushOf_143 rfl rfl ?_
        refine V2_get (v := F 43 2) d_Push_pushOf_144 fl_Push_48 (by decide) rfl (by decide) rfl rfl ?_
        refine V2_topi (fun v36 ev36 => ?_)
        refine V2_bipush (v := 8) d_Push_pushOf_147 rfl ?_
        refine V2_idiv d_Push_pushOf_149 (by decide) ?_
        refine V2_topi (fun v37 ev37 => ?_)
        refine V2_iadd d_Push_pushOf_150 ?_
        refine V2_topi (fun v38 ev38 => ?_)
        refine V2_ireturn d_Push_pushOf_151 rfl ?_
        exact xQi hQ (by subst ev38 ev37 ev36 ev34 ev32 ev31 ev30 ev29 ev28 ev3 ev1; first | (simp_all [pushK]; done) | (rw [xmx0]; simp_all [pushK]; done)) rfl
      by_cases c35_5 : v34 = 5
      · refine V2_tableIn (tgt := 152) (off := 72) d_Push_pushOf_80 (by rw [c35_5]; decide) (by rw [c35_5]; decide) (by rw [c35_5]; decide) rfl ?_
        refine V2_iconst (v := 0) d_Push_pushOf_152 rfl ?_
        refine V2_iload (i := 6) d_Push_pushOf_153 rfl ?_
        refine V2_aload_n (i := 2) d_Push_pushOf_155 rfl rfl ?_
        refine V2_get (v := F 43 5) d_Push_pushOf_156 fl_Push_45 (by decide) rfl (by decide) rfl rfl ?_
        refine V2_topi (fun v39 ev39 => ?_)
        refine V2_bipush (v := 8) d_Push_pushOf_159 rfl ?_
        refine V2_idiv d_Push_pushOf_161 (by decide) ?_
        refine V2_topi (fun v40 ev40 => ?_)
        refine V2_isub d_Push_pushOf_162 ?_
        refine V2_topi (fun v41 ev41 => ?_)
        refine V2_mmax d_Push_pushOf_163 lz_Push_32 (Nat.le_of_ble_eq_true rfl) ?_
        refine V2_topi (fun v42 ev42 => ?_)
        refine V2_ireturn d_Push_pushOf_166 rfl ?_
        exact xQi hQ (by subst ev42 ev41 ev40 ev39 ev34 ev32 ev31 ev30 ev29 ev28 ev3 ev1; first | (simp_all [pushK]; done) | (rw [xmx0]; simp_all [pushK]; done)) rfl
      by_cases c35_6 : v34 = 6
      · refine V2_tableIn (tgt := 167) (off := 87) d_Push_pushOf_80 (by rw [c35_6]; decide) (by rw [c35_6]; decide) (by rw [c35_6]; decide) rfl ?_
        refine V2_iconst (v := 0) d_Push_pushOf_167 rfl ?_
        refine V2_ireturn d_Push_pushOf_168 rfl ?_
        exact xQi hQ (by subst ev34 ev32 ev31 ev30 ev29 ev28 ev3 ev1; first | (simp_all [pushK]; done) | (rw [xmx0]; simp_all [pushK]; done)) rfl
      refine V2_tableOut (tgt := 169) d_Push_pushOf_80 (by have := lv_neT (a := 1) c35_1 rfl; have := lv_neT (a := 2) c35_2 rfl; have := lv_neT (a := 3) c35_3 rfl; have := lv_neT (a := 4) c35_4 rfl; have := lv_neT (a := 5) c35_5 rfl; have := lv_neT (a := 6) c35_6 rfl; omega) rfl ?_
      refine V2_iload (i := 4) d_Push_pushOf_169 rfl ?_
      refine V2_ireturn d_Push_pushOf_171 rfl ?_
      exact xQi hQ (by subst ev34 ev32 ev31 ev30 ev29 ev28 ev3 ev1; first | (simp_all [pushK]; done) | (rw [xmx0]; simp_all [pushK]; done)) rfl
    · refine V2_iload (i := 4) d_Push_pushOf_66 rfl ?_
      refine V2_goto (tgt := 72) d_Push_pushOf_68 rfl ?_
      refine V2_istore (i := 6) (l' := [some (.ref 3), some (.int (nI p)), some (.ref 43), some (.int (1 : Int32)), some (.int v28), some (.int v30), some (.int v28)]) d_Push_pushOf_72 (xst_i (Nat.le_of_ble_eq_true rfl) rfl rfl) ?_
      refine V2_aload_n (i := 0) d_Push_pushOf_74 rfl rfl ?_
      refine V2_getr (a := 5) d_Push_pushOf_75 fl_Push_9 (by decide) rfl (by decide) rfl ?_
      refine V2_iload_n (i := 1) d_Push_pushOf_78 rfl rfl ?_
      refine V2_ialoadJ (p) d_Push_pushOf_79 (by decide) rfl (xixA (n := p) rfl (by omega) (by decide)) (xixB (n := p) rfl (by omega)) rfl ?_
      refine V2_topi (fun v43 ev43 => ?_)
      by_cases c44_1 : v43 = 1
      · refine V2_tableIn (tgt := 120) (off := 40) d_Push_pushOf_80 (by rw [c44_1]; decide) (by rw [c44_1]; decide) (by rw [c44_1]; decide) rfl ?_
        refine V2_iload (i := 5) d_Push_pushOf_120 rfl ?_
        refine V2_ireturn d_Push_pushOf_122 rfl ?_
        exact xQi hQ (by subst ev43 ev32 ev31 ev30 ev29 ev28 ev3 ev1; first | (simp_all [pushK]; done) | (rw [xmx0]; simp_all [pushK]; done)) rfl
      by_cases c44_2 : v43 = 2
      · refine V2_tableIn (tgt := 123) (off := 43) d_Push_pushOf_80 (by rw [c44_2]; decide) (by rw [c44_2]; decide) (by rw [c44_2]; decide) rfl ?_
        refine V2_iload (i := 6) d_Push_pushOf_123 rfl ?_
        refine V2_ireturn d_Push_pushOf_125 rfl ?_
        exact xQi hQ (by subst ev43 ev32 ev31 ev30 ev29 ev28 ev3 ev1; first | (simp_all [pushK]; done) | (rw [xmx0]; simp_all [pushK]; done)) rfl
      by_cases c44_3 : v43 = 3
      · refine V2_tableIn (tgt := 126) (off := 46) d_Push_pushOf_80 (by rw [c44_3]; decide) (by rw [c44_3]; decide) (by rw [c44_3]; decide) rfl ?_
        refine V2_iload_n (i := 3) d_Push_pushOf_126 rfl rfl ?_
        refine V2_if_eq (tgt := 134) d_Push_pushOf_127 rfl (fun c => (by first | exact absurd c (by decide) | exact absurd (by decide) c)) (fun _ => ?_)
        refine V2_iconst (v := 0) d_Push_pushOf_130 rfl ?_
        refine V2_goto (tgt := 140) d_Push_pushOf_131 rfl ?_
        refine V2_ireturn d_Push_pushOf_140 rfl ?_
        exact xQi hQ (by subst ev43 ev32 ev31 ev30 ev29 ev28 ev3 ev1; first | (simp_all [pushK]; done) | (rw [xmx0]; simp_all [pushK]; done)) rfl
      by_cases c44_4 : v43 = 4
      · refine V2_tableIn (tgt := 141) (off := 61) d_Push_pushOf_80 (by rw [c44_4]; decide) (by rw [c44_4]; decide) (by rw [c44_4]; decide) rfl ?_
        refine V2_iload (i := 5) d_Push_pushOf_141 rfl ?_
        refine V2_aload_n (i := 2) d_Push_pushOf_143 rfl rfl ?_
        refine V2_get (v := F 43 2) d_Push_pushOf_144 fl_Push_48 (by decide) rfl (by decide) rfl rfl ?_
        refine V2_topi (fun v45 ev45 => ?_)
        refine V2_bipush (v := 8) d_Push_pushOf_147 rfl ?_
        refine V2_idiv d_Push_pushOf_149 (by decide) ?_
        refine V2_topi (fun v46 ev46 => ?_)
        refine V2_iadd d_Push_pushOf_150 ?_
        refine V2_topi (fun v47 ev47 => ?_)
        refine V2_ireturn d_Push_pushOf_151 rfl ?_
        exact xQi hQ (by subst ev47 ev46 ev45 ev43 ev32 ev31 ev30 ev29 ev28 ev3 ev1; first | (simp_all [pushK]; done) | (rw [xmx0]; simp_all [pushK]; done)) rfl
      by_cases c44_5 : v43 = 5
      · refine V2_tableIn (tgt := 152) (off := 72) d_Push_pushOf_80 (by rw [c44_5]; decide) (by rw [c44_5]; decide) (by rw [c44_5]; decide) rfl ?_
        refine V2_iconst (v := 0) d_Push_pushOf_152 rfl ?_
        refine V2_iload (i := 6) d_Push_pushOf_153 rfl ?_
        refine V2_aload_n (i := 2) d_Push_pushOf_155 rfl rfl ?_
        refine V2_get (v := F 43 5) d_Push_pushOf_156 fl_Push_45 (by decide) rfl (by decide) rfl rfl ?_
        refine V2_topi (fun v48 ev48 => ?_)
        refine V2_bipush (v := 8) d_Push_pushOf_159 rfl ?_
        refine V2_idiv d_Push_pushOf_161 (by decide) ?_
        refine V2_topi (fun v49 ev49 => ?_)
        refine V2_isub d_Push_pushOf_162 ?_
        refine V2_topi (fun v50 ev50 => ?_)
        refine V2_mmax d_Push_pushOf_163 lz_Push_32 (Nat.le_of_ble_eq_true rfl) ?_
        refine V2_topi (fun v51 ev51 => ?_)
        refine V2_ireturn d_Push_pushOf_166 rfl ?_
        exact xQi hQ (by subst ev51 ev50 ev49 ev48 ev43 ev32 ev31 ev30 ev29 ev28 ev3 ev1; first | (simp_all [pushK]; done) | (rw [xmx0]; simp_all [pushK]; done)) rfl
      by_cases c44_6 : v43 = 6
      · refine V2_tableIn (tgt := 167) (off := 87) d_Push_pushOf_80 (by rw [c44_6]; decide) (by rw [c44_6]; decide) (by rw [c44_6]; decide) rfl ?_
        refine V2_iconst (v := 0) d_Push_pushOf_167 rfl ?_
        refine V2_ireturn d_Push_pushOf_168 rfl ?_
        exact xQi hQ (by subst ev43 ev32 ev31 ev30 ev29 ev28 ev3 ev1; first | (simp_all [pushK]; done) | (rw [xmx0]; simp_all [pushK]; done)) rfl
      refine V2_tableOut (tgt := 169) d_Push_pushOf_80 (by have := lv_neT (a := 1) c44_1 rfl; have := lv_neT (a := 2) c44_2 rfl; have := lv_neT (a := 3) c44_3 rfl; have := lv_neT (a := 4) c44_4 rfl; have := lv_neT (a := 5) c44_5 rfl; have := lv_neT (a := 6) c44_6 rfl; omega) rfl ?_
      refine V2_iload (i := 4) d_Push_pushOf_169 rfl ?_
      refine V2_ireturn d_Push_pushOf_171 rfl ?_
      exact xQi hQ (by subst ev43 ev32 ev31 ev30 ev29 ev28 ev3 ev1; first | (simp_all [pushK]; done) | (rw [xmx0]; simp_all [pushK]; done)) rfl
theorem c_Push_pushOfSet_43_loop {L : Nat} {xs : Nat → Int32} {d : Nat} {Q : Option Value → xF → Prop} {F : xF} {P : Nat} {set : Int32} (hP : F 3 2 = nI P) (hP2 : F 3 2 = nI P) (hl : P ≤ 6) : ∀ (n : Nat) (p : Nat) (v : Int32), p ≤ P → P < n + p → v = sumTo (fun p => @ite _ (inSet set p) (Classical.propDecidable _) (pushK (F 5 p) (F 7 p) (F 43 3) (F 43 2) (F 43 5)) 0) p → (Q (some (.int (sumTo (fun p => @ite _ (inSet set p) (Classical.propDecidable _) (pushK (F 5 p) (F 7 p) (F 43 3) (F 43 2) (F 43 5)) 0) P))) F) → V2 L xs (d + 4) m_Push_pushOfSet 5 [some (.ref 3), some (.int set), some (.ref 43), some (.int v), some (.int (nI p))] [] F Q := by
  intro n
  induction n with
  | zero => exact fun p v h1 h2 => absurd h2 (by omega)
  | succ n ih =>
    intro p v h1 h2 h3 hQ
    refine V2_iload (i := 4) d_Push_pushOfSet_5 rfl ?_
    refine V2_aload_n (i := 0) d_Push_pushOfSet_7 rfl rfl ?_
    refine V2_get (v := F 3 2) d_Push_pushOfSet_8 fl_Push_16 (by decide) rfl (by decide) rfl rfl ?_
    refine V2_topi (fun v1 ev1 => ?_)
    have eN : v1 = nI P := by
      subst ev1
      exact hP
    rw [eN]
    refine V2_icmp_ge (tgt := 43) d_Push_pushOfSet_11 rfl (fun c2 => ?_) (fun c2 => ?_)
    · refine V2_iload_n (i := 3) d_Push_pushOfSet_43 rfl rfl ?_
      refine V2_ireturn d_Push_pushOfSet_44 rfl ?_
      have hpp : p = P := by
        subst ev1
        exact Nat.le_antisymm h1 ((nI_leI (by omega) (by omega)).mp c2)
      subst hpp
      exact xQi hQ h3 rfl
    · have hp : p < P := Nat.not_le.mp (fun hh => c2 ((nI_leI (by omega) (by omega)).mpr hh))
      refine V2_iload_n (i := 3) d_Push_pushOfSet_14 rfl rfl ?_
      refine V2_iload_n (i := 1) d_Push_pushOfSet_15 rfl rfl ?_
      refine V2_iload (i := 4) d_Push_pushOfSet_16 rfl ?_
      refine V2_callS [.int set, .int (nI p)] d_Push_pushOfSet_18 rfl rfl lk_Push_51 mo_Push_isIn (Nat.le_of_ble_eq_true rfl) (Nat.le_of_ble_eq_true rfl) ?_
      refine c_Push_isIn ?_
      refine V2_topi (fun v3 ev3 => ?_)
      refine V2_if_eq (tgt := 34) d_Push_pushOfSet_21 rfl (fun c4 => ?_) (fun c4 => ?_)
      · refine V2_iconst (v := 0) d_Push_pushOfSet_34 rfl ?_
        refine V2_iadd d_Push_pushOfSet_35 ?_
        refine V2_topi (fun v5 ev5 => ?_)
        refine V2_istore_n (i := 3) (l' := [some (.ref 3), some (.int set), some (.ref 43), some (.int v5), some (.int (nI p))]) d_Push_pushOfSet_36 rfl (xst_r (Nat.le_of_ble_eq_true rfl) rfl rfl) ?_
        obtain ⟨v6, ev6⟩ : ∃ y : Int32, y = nI p + 1 := ⟨_, rfl⟩
        refine V2_iinc (i := 4) (v := v6) (l' := [some (.ref 3), some (.int set), some (.ref 43), some (.int v5), some (.int v6)]) d_Push_pushOfSet_37 rfl (by rw [ev6]; rfl) (xst_i (Nat.le_of_ble_eq_true rfl) rfl rfl) ?_
        refine V2_goto (tgt := 5) d_Push_pushOfSet_40 rfl ?_
        exact V2.to (ih (p + 1) v5 (by omega) (by omega) (by subst ev6 ev5 ev3 ev1; rw [h3]; exact (sum_out (f := (fun p => pushK (F 5 p) (F 7 p) (F 43 3) (F 43 2) (F 43 5))) (set := set) (xin_f c4)).symm) hQ) rfl (by rw [ev6, nI_1]) rfl rfl
      · refine V2_aload_n (i := 0) d_Push_pushOfSet_24 rfl rfl ?_
        refine V2_iload (i := 4) d_Push_pushOfSet_25 rfl ?_
        refine V2_aload_n (i := 2) d_Push_pushOfSet_27 rfl rfl ?_
        refine V2_callV [.int (nI p), .ref 43] d_Push_pushOfSet_28 rfl rfl lk_Push_59 mo_Push_pushOf (by decide) rfl rfl rfl (Nat.le_of_ble_eq_true rfl) (Nat.le_of_ble_eq_true rfl) ?_
        refine c_Push_pushOf_43 hP hP2 hl hp ?_
        refine V2_topi (fun v7 ev7 => ?_)
        refine V2_goto (tgt := 35) d_Push_pushOfSet_31 rfl ?_
        refine V2_iadd d_Push_pushOfSet_35 ?_
        refine V2_topi (fun v8 ev8 => ?_)
        refine V2_istore_n (i := 3) (l' := [some (.ref 3), some (.int set), some (.ref 43), some (.int v8), some (.int (nI p))]) d_Push_pushOfSet_36 rfl (xst_r (Nat.le_of_ble_eq_true rfl) rfl rfl) ?_
        obtain ⟨v9, ev9⟩ : ∃ y : Int32, y = nI p + 1 := ⟨_, rfl⟩
        refine V2_iinc (i := 4) (v := v9) (l' := [some (.ref 3), some (.int set), some (.ref 43), some (.int v8), some (.int v9)]) d_Push_pushOfSet_37 rfl (by rw [ev9]; rfl) (xst_i (Nat.le_of_ble_eq_true rfl) rfl rfl) ?_
        refine V2_goto (tgt := 5) d_Push_pushOfSet_40 rfl ?_
        exact V2.to (ih (p + 1) v8 (by omega) (by omega) (by subst ev9 ev8 ev7 ev3 ev1; rw [h3]; exact (sum_in (f := (fun p => pushK (F 5 p) (F 7 p) (F 43 3) (F 43 2) (F 43 5))) (set := set) (xin_t c4)).symm) hQ) rfl (by rw [ev9, nI_1]) rfl rfl
theorem c_Push_pushOfSet_43 {L : Nat} {xs : Nat → Int32} {d : Nat} {Q : Option Value → xF → Prop} {F : xF} {P : Nat} {set : Int32} (hP : F 3 2 = nI P) (hP2 : F 3 2 = nI P) (hl : P ≤ 6) (hQ : Q (some (.int (sumTo (fun p => @ite _ (inSet set p) (Classical.propDecidable _) (pushK (F 5 p) (F 7 p) (F 43 3) (F 43 2) (F 43 5)) 0) P))) F) : V2 L xs (d + 4) m_Push_pushOfSet 0 (xEntry [.ref 3, .int set, .ref 43] 5) [] F Q := by
  refine V2.to (l' := [some (.ref 3), some (.int set), some (.ref 43), none, none]) ?_ rfl rfl rfl rfl
  refine V2_iconst (v := 0) d_Push_pushOfSet_0 rfl ?_
  refine V2_istore_n (i := 3) (l' := [some (.ref 3), some (.int set), some (.ref 43), some (.int (0 : Int32)), none]) d_Push_pushOfSet_1 rfl (xst_r (Nat.le_of_ble_eq_true rfl) rfl rfl) ?_
  refine V2_iconst (v := 0) d_Push_pushOfSet_2 rfl ?_
  refine V2_istore (i := 4) (l' := [some (.ref 3), some (.int set), some (.ref 43), some (.int (0 : Int32)), some (.int (0 : Int32))]) d_Push_pushOfSet_3 (xst_i (Nat.le_of_ble_eq_true rfl) rfl rfl) ?_
  exact c_Push_pushOfSet_43_loop hP hP2 hl (P + 1) 0 0 (by omega) (by omega) rfl hQ
theorem c_Push_pushOf_44 {L : Nat} {xs : Nat → Int32} {d : Nat} {Q : Option Value → xF → Prop} {F : xF} {p P : Nat} (hP : F 3 2 = nI P) (hP2 : F 3 2 = nI P) (hl : P ≤ 6) (hp : p < P) (hQ : Q (some (.int (pushK (F 5 p) (F 7 p) (F 44 3) (F 44 2) (F 44 5)))) F) : V2 L xs (d + 3) m_Push_pushOf 0 (xEntry [.ref 3, .int (nI p), .ref 44] 7) [] F Q := by
  refine V2.to (l' := [some (.ref 3), some (.int (nI p)), some (.ref 44), none, none, none, none]) ?_ rfl rfl rfl rfl
  refine V2_aload_n (i := 0) d_Push_pushOf_0 rfl rfl ?_
  refine V2_iload_n (i := 1) d_Push_pushOf_1 rfl rfl ?_
  refine V2_callV [.int (nI p)] d_Push_pushOf_2 rfl rfl lk_Push_28 mo_Push_has (by decide) rfl rfl rfl (Nat.le_of_ble_eq_true rfl) (Nat.le_of_ble_eq_true rfl) ?_
  refine c_Push_has hP hl ?_
  refine V2_topi (fun v1 ev1 => ?_)
  refine V2_if_ne (tgt := 10) d_Push_pushOf_5 rfl (fun c2 => ?_) (fun c2 => (by first | exact absurd (show ¬ v1 = 0 from by subst ev1; rw [xb_1 ⟨nI_pos' (by omega), by rw [hP]; exact nI_lt hp (by omega)⟩]; decide) c2 | exact absurd c2 (show ¬ v1 = 0 from by subst ev1; rw [xb_1 ⟨nI_pos' (by omega), by rw [hP]; exact nI_lt hp (by omega)⟩]; decide)))
  refine V2_aload_n (i := 2) d_Push_pushOf_10 rfl rfl ?_
  refine V2_get (v := F 44 3) d_Push_pushOf_11 fl_Push_40 (by decide) rfl (by decide) rfl rfl ?_
  refine V2_topi (fun v3 ev3 => ?_)
  refine V2_if_ne (tgt := 21) d_Push_pushOf_14 rfl (fun c4 => ?_) (fun c4 => ?_)
  · refine V2_iconst (v := 0) d_Push_pushOf_21 rfl ?_
    refine V2_istore_n (i := 3) (l' := [some (.ref 3), some (.int (nI p)), some (.ref 44), some (.int (0 : Int32)), none, none, none]) d_Push_pushOf_22 rfl (xst_r (Nat.le_of_ble_eq_true rfl) rfl rfl) ?_
    refine V2_iload_n (i := 3) d_Push_pushOf_23 rfl rfl ?_
    refine V2_if_eq (tgt := 36) d_Push_pushOf_24 rfl (fun _ => ?_) (fun c => (by first | exact absurd c (by decide) | exact absurd (by decide) c))
    refine V2_iconst (v := 0) d_Push_pushOf_36 rfl ?_
    refine V2_istore (i := 4) (l' := [some (.ref 3), some (.int (nI p)), some (.ref 44), some (.int (0 : Int32)), some (.int (0 : Int32)), none, none]) d_Push_pushOf_37 (xst_i (Nat.le_of_ble_eq_true rfl) rfl rfl) ?_
    refine V2_iload_n (i := 3) d_Push_pushOf_39 rfl rfl ?_
    refine V2_if_eq (tgt := 54) d_Push_pushOf_40 rfl (fun _ => ?_) (fun c => (by first | exact absurd c (by decide) | exact absurd (by decide) c))
    refine V2_iconst (v := 0) d_Push_pushOf_54 rfl ?_
    refine V2_istore (i := 5) (l' := [some (.ref 3), some (.int (nI p)), some (.ref 44), some (.int (0 : Int32)), some (.int (0 : Int32)), some (.int (0 : Int32)), none]) d_Push_pushOf_55 (xst_i (Nat.le_of_ble_eq_true rfl) rfl rfl) ?_
    refine V2_aload_n (i := 2) d_Push_pushOf_57 rfl rfl ?_
    refine V2_get (v := F 44 5) d_Push_pushOf_58 fl_Push_45 (by decide) rfl (by decide) rfl rfl ?_
    refine V2_topi (fun v5 ev5 => ?_)
    refine V2_iconst (v := 2) d_Push_pushOf_61 rfl ?_
    refine V2_iremM d_Push_pushOf_62 (by decide) ?_
    refine V2_topi (fun v6 ev6 => ?_)
    refine V2_if_ne (tgt := 71) d_Push_pushOf_63 rfl (fun c7 => ?_) (fun c7 => ?_)
    · refine V2_iconst (v := 0) d_Push_pushOf_71 rfl ?_
      refine V2_istore (i := 6) (l' := [some (.ref 3), some (.int (nI p)), some (.ref 44), some (.int (0 : Int32)), some (.int (0 : Int32)), some (.int (0 : Int32)), some (.int (0 : Int32))]) d_Push_pushOf_72 (xst_i (Nat.le_of_ble_eq_true rfl) rfl rfl) ?_
      refine V2_aload_n (i := 0) d_Push_pushOf_74 rfl rfl ?_
      refine V2_getr (a := 5) d_Push_pushOf_75 fl_Push_9 (by decide) rfl (by decide) rfl ?_
      refine V2_iload_n (i := 1) d_Push_pushOf_78 rfl rfl ?_
      refine V2_ialoadJ (p) d_Push_pushOf_79 (by decide) rfl (xixA (n := p) rfl (by omega) (by decide)) (xixB (n := p) rfl (by omega)) rfl ?_
      refine V2_topi (fun v8 ev8 => ?_)
      by_cases c9_1 : v8 = 1
      · refine V2_tableIn (tgt := 120) (off := 40) d_Push_pushOf_80 (by rw [c9_1]; decide) (by rw [c9_1]; decide) (by rw [c9_1]; decide) rfl ?_
        refine V2_iload (i := 5) d_Push_pushOf_120 rfl ?_
        refine V2_ireturn d_Push_pushOf_122 rfl ?_
        exact xQi hQ (by subst ev8 ev6 ev5 ev3 ev1; first | (simp_all [pushK]; done) | (rw [xmx0]; simp_all [pushK]; done)) rfl
      by_cases c9_2 : v8 = 2
      · refine V2_tableIn (tgt := 123) (off := 43) d_Push_pushOf_80 (by rw [c9_2]; decide) (by rw [c9_2]; decide) (by rw [c9_2]; decide) rfl ?_
        refine V2_iload (i := 6) d_Push_pushOf_123 rfl ?_
        refine V2_ireturn d_Push_pushOf_125 rfl ?_
        exact xQi hQ (by subst ev8 ev6 ev5 ev3 ev1; first | (simp_all [pushK]; done) | (rw [xmx0]; simp_all [pushK]; done)) rfl
      by_cases c9_3 : v8 = 3
      · refine V2_tableIn (tgt := 126) (off := 46) d_Push_pushOf_80 (by rw [c9_3]; decide) (by rw [c9_3]; decide) (by rw [c9_3]; decide) rfl ?_
        refine V2_iload_n (i := 3) d_Push_pushOf_126 rfl rfl ?_
        refine V2_if_eq (tgt := 134) d_Push_pushOf_127 rfl (fun _ => ?_) (fun c => (by first | exact absurd c (by decide) | exact absurd (by decide) c))
        refine V2_aload_n (i := 0) d_Push_pushOf_134 rfl rfl ?_
        refine V2_getr (a := 7) d_Push_pushOf_135 fl_Push_13 (by decide) rfl (by decide) rfl ?_
        refine V2_iload_n (i := 1) d_Push_pushOf_138 rfl rfl ?_
        refine V2_ialoadJ (p) d_Push_pushOf_139 (by decide) rfl (xixA (n := p) rfl (by omega) (by decide)) (xixB (n := p) rfl (by omega)) rfl ?_
        refine V2_topi (fun v10 ev10 => ?_)
        refine V2_ireturn d_Push_pushOf_140 rfl ?_
        exact xQi hQ (by subst ev10 ev8 ev6 ev5 ev3 ev1; first | (simp_all [pushK]; done) | (rw [xmx0]; simp_all [pushK]; done)) rfl
      by_cases c9_4 : v8 = 4
      · refine V2_tableIn (tgt := 141) (off := 61) d_Push_pushOf_80 (by rw [c9_4]; decide) (by rw [c9_4]; decide) (by rw [c9_4]; decide) rfl ?_
        refine V2_iload (i := 5) d_Push_pushOf_141 rfl ?_
        refine V2_aload_n (i := 2) d_Push_pushOf_143 rfl rfl ?_
        refine V2_get (v := F 44 2) d_Push_pushOf_144 fl_Push_48 (by decide) rfl (by decide) rfl rfl ?_
        refine V2_topi (fun v11 ev11 => ?_)
        refine V2_bipush (v := 8) d_Push_pushOf_147 rfl ?_
        refine V2_idiv d_Push_pushOf_149 (by decide) ?_
        refine V2_topi (fun v12 ev12 => ?_)
        refine V2_iadd d_Push_pushOf_150 ?_
        refine V2_topi (fun v13 ev13 => ?_)
        refine V2_ireturn d_Push_pushOf_151 rfl ?_
        exact xQi hQ (by subst ev13 ev12 ev11 ev8 ev6 ev5 ev3 ev1; first | (simp_all [pushK]; done) | (rw [xmx0]; simp_all [pushK]; done)) rfl
      by_cases c9_5 : v8 = 5
      · refine V2_tableIn (tgt := 152) (off := 72) d_Push_pushOf_80 (by rw [c9_5]; decide) (by rw [c9_5]; decide) (by rw [c9_5]; decide) rfl ?_
        refine V2_iconst (v := 0) d_Push_pushOf_152 rfl ?_
        refine V2_iload (i := 6) d_Push_pushOf_153 rfl ?_
        refine V2_aload_n (i := 2) d_Push_pushOf_155 rfl rfl ?_
        refine V2_get (v := F 44 5) d_Push_pushOf_156 fl_Push_45 (by decide) rfl (by decide) rfl rfl ?_
        refine V2_topi (fun v14 ev14 => ?_)
        refine V2_bipush (v := 8) d_Push_pushOf_159 rfl ?_
        refine V2_idiv d_Push_pushOf_161 (by decide) ?_
        refine V2_topi (fun v15 ev15 => ?_)
        refine V2_isub d_Push_pushOf_162 ?_
        refine V2_topi (fun v16 ev16 => ?_)
        refine V2_mmax d_Push_pushOf_163 lz_Push_32 (Nat.le_of_ble_eq_true rfl) ?_
        refine V2_topi (fun v17 ev17 => ?_)
        refine V2_ireturn d_Push_pushOf_166 rfl ?_
        exact xQi hQ (by subst ev17 ev16 ev15 ev14 ev8 ev6 ev5 ev3 ev1; first | (simp_all [pushK]; done) | (rw [xmx0]; simp_all [pushK]; done)) rfl
      by_cases c9_6 : v8 = 6
      · refine V2_tableIn (tgt := 167) (off := 87) d_Push_pushOf_80 (by rw [c9_6]; decide) (by rw [c9_6]; decide) (by rw [c9_6]; decide) rfl ?_
        refine V2_iconst (v := 0) d_Push_pushOf_167 rfl ?_
        refine V2_ireturn d_Push_pushOf_168 rfl ?_
        exact xQi hQ (by subst ev8 ev6 ev5 ev3 ev1; first | (simp_all [pushK]; done) | (rw [xmx0]; simp_all [pushK]; done)) rfl
      refine V2_tableOut (tgt := 169) d_Push_pushOf_80 (by have := lv_neT (a := 1) c9_1 rfl; have := lv_neT (a := 2) c9_2 rfl; have := lv_neT (a := 3) c9_3 rfl; have := lv_neT (a := 4) c9_4 rfl; have := lv_neT (a := 5) c9_5 rfl; have := lv_neT (a := 6) c9_6 rfl; omega) rfl ?_
      refine V2_iload (i := 4) d_Push_pushOf_169 rfl ?_
      refine V2_ireturn d_Push_pushOf_171 rfl ?_
      exact xQi hQ (by subst ev8 ev6 ev5 ev3 ev1; first | (simp_all [pushK]; done) | (rw [xmx0]; simp_all [pushK]; done)) rfl
    · refine V2_iload (i := 4) d_Push_pushOf_66 rfl ?_
      refine V2_goto (tgt := 72) d_Push_pushOf_68 rfl ?_
      refine V2_istore (i := 6) (l' := [some (.ref 3), some (.int (nI p)), some (.ref 44), some (.int (0 : Int32)), some (.int (0 : Int32)), some (.int (0 : Int32)), some (.int (0 : Int32))]) d_Push_pushOf_72 (xst_i (Nat.le_of_ble_eq_true rfl) rfl rfl) ?_
      refine V2_aload_n (i := 0) d_Push_pushOf_74 rfl rfl ?_
      refine V2_getr (a := 5) d_Push_pushOf_75 fl_Push_9 (by decide) rfl (by decide) rfl ?_
      refine V2_iload_n (i := 1) d_Push_pushOf_78 rfl rfl ?_
      refine V2_ialoadJ (p) d_Push_pushOf_79 (by decide) rfl (xixA (n := p) rfl (by omega) (by decide)) (xixB (n := p) rfl (by omega)) rfl ?_
      refine V2_topi (fun v18 ev18 => ?_)
      by_cases c19_1 : v18 = 1
      · refine V2_tableIn (tgt := 120) (off := 40) d_Push_pushOf_80 (by rw [c19_1]; decide) (by rw [c19_1]; decide) (by rw [c19_1]; decide) rfl ?_
        refine V2_iload (i := 5) d_Push_pushOf_120 rfl ?_
        refine V2_ireturn d_Push_pushOf_122 rfl ?_
        exact xQi hQ (by subst ev18 ev6 ev5 ev3 ev1; first | (simp_all [pushK]; done) | (rw [xmx0]; simp_all [pushK]; done)) rfl
      by_cases c19_2 : v18 = 2
      · refine V2_tableIn (tgt := 123) (off := 43) d_Push_pushOf_80 (by rw [c19_2]; decide) (by rw [c19_2]; decide) (by rw [c19_2]; decide) rfl ?_
        refine V2_iload (i := 6) d_Push_pushOf_123 rfl ?_
        refine V2_ireturn d_Push_pushOf_125 rfl ?_
        exact xQi hQ (by subst ev18 ev6 ev5 ev3 ev1; first | (simp_all [pushK]; done) | (rw [xmx0]; simp_all [pushK]; done)) rfl
      by_cases c19_3 : v18 = 3
      · refine V2_tableIn (tgt := 126) (off := 46) d_Push_pushOf_80 (by rw [c19_3]; decide) (by rw [c19_3]; decide) (by rw [c19_3]; decide) rfl ?_
        refine V2_iload_n (i := 3) d_Push_pushOf_126 rfl rfl ?_
        refine V2_if_eq (tgt := 134) d_Push_pushOf_127 rfl (fun _ => ?_) (fun c => (by first | exact absurd c (by decide) | exact absurd (by decide) c))
        refine V2_aload_n (i := 0) d_Push_pushOf_134 rfl rfl ?_
        refine V2_getr (a := 7) d_Push_pushOf_135 fl_Push_13 (by decide) rfl (by decide) rfl ?_
        refine V2_iload_n (i := 1) d_Push_pushOf_138 rfl rfl ?_
        refine V2_ialoadJ (p) d_Push_pushOf_139 (by decide) rfl (xixA (n := p) rfl (by omega) (by decide)) (xixB (n := p) rfl (by omega)) rfl ?_
        refine V2_topi (fun v20 ev20 => ?_)
        refine V2_ireturn d_Push_pushOf_140 rfl ?_
        exact xQi hQ (by subst ev20 ev18 ev6 ev5 ev3 ev1; first | (simp_all [pushK]; done) | (rw [xmx0]; simp_all [pushK]; done)) rfl
      by_cases c19_4 : v18 = 4
      · refine V2_tableIn (tgt := 141) (off := 61) d_Push_pushOf_80 (by rw [c19_4]; decide) (by rw [c19_4]; decide) (by rw [c19_4]; decide) rfl ?_
        refine V2_iload (i := 5) d_Push_pushOf_141 rfl ?_
        refine V2_aload_n (i := 2) d_Push_pushOf_143 rfl rfl ?_
        refine V2_get (v := F 44 2) d_Push_pushOf_144 fl_Push_48 (by decide) rfl (by decide) rfl rfl ?_
        refine V2_topi (fun v21 ev21 => ?_)
        refine V2_bipush (v := 8) d_Push_pushOf_147 rfl ?_
        refine V2_idiv d_Push_pushOf_149 (by decide) ?_
        refine V2_topi (fun v22 ev22 => ?_)
        refine V2_iadd d_Push_pushOf_150 ?_
        refine V2_topi (fun v23 ev23 => ?_)
        refine V2_ireturn d_Push_pushOf_151 rfl ?_
        exact xQi hQ (by subst ev23 ev22 ev21 ev18 ev6 ev5 ev3 ev1; first | (simp_all [pushK]; done) | (rw [xmx0]; simp_all [pushK]; done)) rfl
      by_cases c19_5 : v18 = 5
      · refine V2_tableIn (tgt := 152) (off := 72) d_Push_pushOf_80 (by rw [c19_5]; decide) (by rw [c19_5]; decide) (by rw [c19_5]; decide) rfl ?_
        refine V2_iconst (v := 0) d_Push_pushOf_152 rfl ?_
        refine V2_iload (i := 6) d_Push_pushOf_153 rfl ?_
        refine V2_aload_n (i := 2) d_Push_pushOf_155 rfl rfl ?_
        refine V2_get (v := F 44 5) d_Push_pushOf_156 fl_Push_45 (by decide) rfl (by decide) rfl rfl ?_
        refine V2_topi (fun v24 ev24 => ?_)
        refine V2_bipush (v := 8) d_Push_pushOf_159 rfl ?_
        refine V2_idiv d_Push_pushOf_161 (by decide) ?_
        refine V2_topi (fun v25 ev25 => ?_)
        refine V2_isub d_Push_pushOf_162 ?_
        refine V2_topi (fun v26 ev26 => ?_)
        refine V2_mmax d_Push_pushOf_163 lz_Push_32 (Nat.le_of_ble_eq_true rfl) ?_
        refine V2_topi (fun v27 ev27 => ?_)
        refine V2_ireturn d_Push_pushOf_166 rfl ?_
        exact xQi hQ (by subst ev27 ev26 ev25 ev24 ev18 ev6 ev5 ev3 ev1; first | (simp_all [pushK]; done) | (rw [xmx0]; simp_all [pushK]; done)) rfl
      by_cases c19_6 : v18 = 6
      · refine V2_tableIn (tgt := 167) (off := 87) d_Push_pushOf_80 (by rw [c19_6]; decide) (by rw [c19_6]; decide) (by rw [c19_6]; decide) rfl ?_
        refine V2_iconst (v := 0) d_Push_pushOf_167 rfl ?_
        refine V2_ireturn d_Push_pushOf_168 rfl ?_
        exact xQi hQ (by subst ev18 ev6 ev5 ev3 ev1; first | (simp_all [pushK]; done) | (rw [xmx0]; simp_all [pushK]; done)) rfl
      refine V2_tableOut (tgt := 169) d_Push_pushOf_80 (by have := lv_neT (a := 1) c19_1 rfl; have := lv_neT (a := 2) c19_2 rfl; have := lv_neT (a := 3) c19_3 rfl; have := lv_neT (a := 4) c19_4 rfl; have := lv_neT (a := 5) c19_5 rfl; have := lv_neT (a := 6) c19_6 rfl; omega) rfl ?_
      refine V2_iload (i := 4) d_Push_pushOf_169 rfl ?_
      refine V2_ireturn d_Push_pushOf_171 rfl ?_
      exact xQi hQ (by subst ev18 ev6 ev5 ev3 ev1; first | (simp_all [pushK]; done) | (rw [xmx0]; simp_all [pushK]; done)) rfl
  · refine V2_iconst (v := 1) d_Push_pushOf_17 rfl ?_
    refine V2_goto (tgt := 22) d_Push_pushOf_18 rfl ?_
    refine V2_istore_n (i := 3) (l' := [some (.ref 3), some (.int (nI p)), some (.ref 44), some (.int (1 : Int32)), none, none, none]) d_Push_pushOf_22 rfl (xst_r (Nat.le_of_ble_eq_true rfl) rfl rfl) ?_
    refine V2_iload_n (i := 3) d_Push_pushOf_23 rfl rfl ?_
    refine V2_if_eq (tgt := 36) d_Push_pushOf_24 rfl (fun c => (by first | exact absurd c (by decide) | exact absurd (by decide) c)) (fun _ => ?_)
    refine V2_aload_n (i := 0) d_Push_pushOf_27 rfl rfl ?_
    refine V2_getr (a := 7) d_Push_pushOf_28 fl_Push_13 (by decide) rfl (by decide) rfl ?_
    refine V2_iload_n (i := 1) d_Push_pushOf_31 rfl rfl ?_
    refine V2_ialoadJ (p) d_Push_pushOf_32 (by decide) rfl (xixA (n := p) rfl (by omega) (by decide)) (xixB (n := p) rfl (by omega)) rfl ?_
    refine V2_topi (fun v28 ev28 => ?_)
    refine V2_goto (tgt := 37) d_Push_pushOf_33 rfl ?_
    refine V2_istore (i := 4) (l' := [some (.ref 3), some (.int (nI p)), some (.ref 44), some (.int (1 : Int32)), some (.int v28), none, none]) d_Push_pushOf_37 (xst_i (Nat.le_of_ble_eq_true rfl) rfl rfl) ?_
    refine V2_iload_n (i := 3) d_Push_pushOf_39 rfl rfl ?_
    refine V2_if_eq (tgt := 54) d_Push_pushOf_40 rfl (fun c => (by first | exact absurd c (by decide) | exact absurd (by decide) c)) (fun _ => ?_)
    refine V2_aload_n (i := 0) d_Push_pushOf_43 rfl rfl ?_
    refine V2_getr (a := 7) d_Push_pushOf_44 fl_Push_13 (by decide) rfl (by decide) rfl ?_
    refine V2_iload_n (i := 1) d_Push_pushOf_47 rfl rfl ?_
    refine V2_ialoadJ (p) d_Push_pushOf_48 (by decide) rfl (xixA (n := p) rfl (by omega) (by decide)) (xixB (n := p) rfl (by omega)) rfl ?_
    refine V2_topi (fun v29 ev29 => ?_)
    refine V2_iconst (v := 2) d_Push_pushOf_49 rfl ?_
    refine V2_iadd d_Push_pushOf_50 ?_
    refine V2_topi (fun v30 ev30 => ?_)
    refine V2_goto (tgt := 55) d_Push_pushOf_51 rfl ?_
    refine V2_istore (i := 5) (l' := [some (.ref 3), some (.int (nI p)), some (.ref 44), some (.int (1 : Int32)), some (.int v28), some (.int v30), none]) d_Push_pushOf_55 (xst_i (Nat.le_of_ble_eq_true rfl) rfl rfl) ?_
    refine V2_aload_n (i := 2) d_Push_pushOf_57 rfl rfl ?_
    refine V2_get (v := F 44 5) d_Push_pushOf_58 fl_Push_45 (by decide) rfl (by decide) rfl rfl ?_
    refine V2_topi (fun v31 ev31 => ?_)
    refine V2_iconst (v := 2) d_Push_pushOf_61 rfl ?_
    refine V2_iremM d_Push_pushOf_62 (by decide) ?_
    refine V2_topi (fun v32 ev32 => ?_)
    refine V2_if_ne (tgt := 71) d_Push_pushOf_63 rfl (fun c33 => ?_) (fun c33 => ?_)
    · refine V2_iconst (v := 0) d_Push_pushOf_71 rfl ?_
      refine V2_istore (i := 6) (l' := [some (.ref 3), some (.int (nI p)), some (.ref 44), some (.int (1 : Int32)), some (.int v28), some (.int v30), some (.int (0 : Int32))]) d_Push_pushOf_72 (xst_i (Nat.le_of_ble_eq_true rfl) rfl rfl) ?_
      refine V2_aload_n (i := 0) d_Push_pushOf_74 rfl rfl ?_
      refine V2_getr (a := 5) d_Push_pushOf_75 fl_Push_9 (by decide) rfl (by decide) rfl ?_
      refine V2_iload_n (i := 1) d_Push_pushOf_78 rfl rfl ?_
      refine V2_ialoadJ (p) d_Push_pushOf_79 (by decide) rfl (xixA (n := p) rfl (by omega) (by decide)) (xixB (n := p) rfl (by omega)) rfl ?_
      refine V2_topi (fun v34 ev34 => ?_)
      by_cases c35_1 : v34 = 1
      · refine V2_tableIn (tgt := 120) (off := 40) d_Push_pushOf_80 (by rw [c35_1]; decide) (by rw [c35_1]; decide) (by rw [c35_1]; decide) rfl ?_
        refine V2_iload (i := 5) d_Push_pushOf_120 rfl ?_
        refine V2_ireturn d_Push_pushOf_122 rfl ?_
        exact xQi hQ (by subst ev34 ev32 ev31 ev30 ev29 ev28 ev3 ev1; first | (simp_all [pushK]; done) | (rw [xmx0]; simp_all [pushK]; done)) rfl
      by_cases c35_2 : v34 = 2
      · refine V2_tableIn (tgt := 123) (off := 43) d_Push_pushOf_80 (by rw [c35_2]; decide) (by rw [c35_2]; decide) (by rw [c35_2]; decide) rfl ?_
        refine V2_iload (i := 6) d_Push_pushOf_123 rfl ?_
        refine V2_ireturn d_Push_pushOf_125 rfl ?_
        exact xQi hQ (by subst ev34 ev32 ev31 ev30 ev29 ev28 ev3 ev1; first | (simp_all [pushK]; done) | (rw [xmx0]; simp_all [pushK]; done)) rfl
      by_cases c35_3 : v34 = 3
      · refine V2_tableIn (tgt := 126) (off := 46) d_Push_pushOf_80 (by rw [c35_3]; decide) (by rw [c35_3]; decide) (by rw [c35_3]; decide) rfl ?_
        refine V2_iload_n (i := 3) d_Push_pushOf_126 rfl rfl ?_
        refine V2_if_eq (tgt := 134) d_Push_pushOf_127 rfl (fun c => (by first | exact absurd c (by decide) | exact absurd (by decide) c)) (fun _ => ?_)
        refine V2_iconst (v := 0) d_Push_pushOf_130 rfl ?_
        refine V2_goto (tgt := 140) d_Push_pushOf_131 rfl ?_
        refine V2_ireturn d_Push_pushOf_140 rfl ?_
        exact xQi hQ (by subst ev34 ev32 ev31 ev30 ev29 ev28 ev3 ev1; first | (simp_all [pushK]; done) | (rw [xmx0]; simp_all [pushK]; done)) rfl
      by_cases c35_4 : v34 = 4
      · refine V2_tableIn (tgt := 141) (off := 61) d_Push_pushOf_80 (by rw [c35_4]; decide) (by rw [c35_4]; decide) (by rw [c35_4]; decide) rfl ?_
        refine V2_iload (i := 5) d_Push_pushOf_141 rfl ?_
        refine V2_aload_n (i := 2) d_Push_pushOf_143 rfl rfl ?_
        refine V2_get (v := F 44 2) d_Push_pushOf_144 fl_Push_48 (by decide) rfl (by decide) rfl rfl ?_
        refine V2_topi (fun v36 ev36 => ?_)
        refine V2_bipush (v := 8) d_Push_pushOf_147 rfl ?_
        refine V2_idiv d_Push_pushOf_149 (by decide) ?_
        refine V2_topi (fun v37 ev37 => ?_)
        refine V2_iadd d_Push_pushOf_150 ?_
        refine V2_topi (fun v38 ev38 => ?_)
        refine V2_ireturn d_Push_pushOf_151 rfl ?_
        exact xQi hQ (by subst ev38 ev37 ev36 ev34 ev32 ev31 ev30 ev29 ev28 ev3 ev1; first | (simp_all [pushK]; done) | (rw [xmx0]; simp_all [pushK]; done)) rfl
      by_cases c35_5 : v34 = 5
      · refine V2_tableIn (tgt := 152) (off := 72) d_Push_pushOf_80 (by rw [c35_5]; decide) (by rw [c35_5]; decide) (by rw [c35_5]; decide) rfl ?_
        refine V2_iconst (v := 0) d_Push_pushOf_152 rfl ?_
        refine V2_iload (i := 6) d_Push_pushOf_153 rfl ?_
        refine V2_aload_n (i := 2) d_Push_pushOf_155 rfl rfl ?_
        refine V2_get (v := F 44 5) d_Push_pushOf_156 fl_Push_45 (by decide) rfl (by decide) rfl rfl ?_
        refine V2_topi (fun v39 ev39 => ?_)
        refine V2_bipush (v := 8) d_Push_pushOf_159 rfl ?_
        refine V2_idiv d_Push_pushOf_161 (by decide) ?_
        refine V2_topi (fun v40 ev40 => ?_)
        refine V2_isub d_Push_pushOf_162 ?_
        refine V2_topi (fun v41 ev41 => ?_)
        refine V2_mmax d_Push_pushOf_163 lz_Push_32 (Nat.le_of_ble_eq_true rfl) ?_
        refine V2_topi (fun v42 ev42 => ?_)
        refine V2_ireturn d_Push_pushOf_166 rfl ?_
        exact xQi hQ (by subst ev42 ev41 ev40 ev39 ev34 ev32 ev31 ev30 ev29 ev28 ev3 ev1; first | (simp_all [pushK]; done) | (rw [xmx0]; simp_all [pushK]; done)) rfl
      by_cases c35_6 : v34 = 6
      · refine V2_tableIn (tgt := 167) (off := 87) d_Push_pushOf_80 (by rw [c35_6]; decide) (by rw [c35_6]; decide) (by rw [c35_6]; decide) rfl ?_
        refine V2_iconst (v := 0) d_Push_pushOf_167 rfl ?_
        refine V2_ireturn d_Push_pushOf_168 rfl ?_
        exact xQi hQ (by subst ev34 ev32 ev31 ev30 ev29 ev28 ev3 ev1; first | (simp_all [pushK]; done) | (rw [xmx0]; simp_all [pushK]; done)) rfl
      refine V2_tableOut (tgt := 169) d_Push_pushOf_80 (by have := lv_neT (a := 1) c35_1 rfl; have := lv_neT (a := 2) c35_2 rfl; have := lv_neT (a := 3) c35_3 rfl; have := lv_neT (a := 4) c35_4 rfl; have := lv_neT (a := 5) c35_5 rfl; have := lv_neT (a := 6) c35_6 rfl; omega) rfl ?_
      refine V2_iload (i := 4) d_Push_pushOf_169 rfl ?_
      refine V2_ireturn d_Push_pushOf_171 rfl ?_
      exact xQi hQ (by subst ev34 ev32 ev31 ev30 ev29 ev28 ev3 ev1; first | (simp_all [pushK]; done) | (rw [xmx0]; simp_all [pushK]; done)) rfl
    · refine V2_iload (i := 4) d_Push_pushOf_66 rfl ?_
      refine V2_goto (tgt := 72) d_Push_pushOf_68 rfl ?_
      refine V2_istore (i := 6) (l' := [some (.ref 3), some (.int (nI p)), some (.ref 44), some (.int (1 : Int32)), some (.int v28), some (.int v30), some (.int v28)]) d_Push_pushOf_72 (xst_i (Nat.le_of_ble_eq_true rfl) rfl rfl) ?_
      refine V2_aload_n (i := 0) d_Push_pushOf_74 rfl rfl ?_
      refine V2_getr (a := 5) d_Push_pushOf_75 fl_Push_9 (by decide) rfl (by decide) rfl ?_
      refine V2_iload_n (i := 1) d_Push_pushOf_78 rfl rfl ?_
      refine V2_ialoadJ (p) d_Push_pushOf_79 (by decide) rfl (xixA (n := p) rfl (by omega) (by decide)) (xixB (n := p) rfl (by omega)) rfl ?_
      refine V2_topi (fun v43 ev43 => ?_)
      by_cases c44_1 : v43 = 1
      · refine V2_tableIn (tgt := 120) (off := 40) d_Push_pushOf_80 (by rw [c44_1]; decide) (by rw [c44_1]; decide) (by rw [c44_1]; decide) rfl ?_
        refine V2_iload (i := 5) d_Push_pushOf_120 rfl ?_
        refine V2_ireturn d_Push_pushOf_122 rfl ?_
        exact xQi hQ (by subst ev43 ev32 ev31 ev30 ev29 ev28 ev3 ev1; first | (simp_all [pushK]; done) | (rw [xmx0]; simp_all [pushK]; done)) rfl
      by_cases c44_2 : v43 = 2
      · refine V2_tableIn (tgt := 123) (off := 43) d_Push_pushOf_80 (by rw [c44_2]; decide) (by rw [c44_2]; decide) (by rw [c44_2]; decide) rfl ?_
        refine V2_iload (i := 6) d_Push_pushOf_123 rfl ?_
        refine V2_ireturn d_Push_pushOf_125 rfl ?_
        exact xQi hQ (by subst ev43 ev32 ev31 ev30 ev29 ev28 ev3 ev1; first | (simp_all [pushK]; done) | (rw [xmx0]; simp_all [pushK]; done)) rfl
      by_cases c44_3 : v43 = 3
      · refine V2_tableIn (tgt := 126) (off := 46) d_Push_pushOf_80 (by rw [c44_3]; decide) (by rw [c44_3]; decide) (by rw [c44_3]; decide) rfl ?_
        refine V2_iload_n (i := 3) d_Push_pushOf_126 rfl rfl ?_
        refine V2_if_eq (tgt := 134) d_Push_pushOf_127 rfl (fun c => (by first | exact absurd c (by decide) | exact absurd (by decide) c)) (fun _ => ?_)
        refine V2_iconst (v := 0) d_Push_pushOf_130 rfl ?_
        refine V2_goto (tgt := 140) d_Push_pushOf_131 rfl ?_
        refine V2_ireturn d_Push_pushOf_140 rfl ?_
        exact xQi hQ (by subst ev43 ev32 ev31 ev30 ev29 ev28 ev3 ev1; first | (simp_all [pushK]; done) | (rw [xmx0]; simp_all [pushK]; done)) rfl
      by_cases c44_4 : v43 = 4
      · refine V2_tableIn (tgt := 141) (off := 61) d_Push_pushOf_80 (by rw [c44_4]; decide) (by rw [c44_4]; decide) (by rw [c44_4]; decide) rfl ?_
        refine V2_iload (i := 5) d_Push_pushOf_141 rfl ?_
        refine V2_aload_n (i := 2) d_Push_pushOf_143 rfl rfl ?_
        refine V2_get (v := F 44 2) d_Push_pushOf_144 fl_Push_48 (by decide) rfl (by decide) rfl rfl ?_
        refine V2_topi (fun v45 ev45 => ?_)
        refine V2_bipush (v := 8) d_Push_pushOf_147 rfl ?_
        refine V2_idiv d_Push_pushOf_149 (by decide) ?_
        refine V2_topi (fun v46 ev46 => ?_)
        refine V2_iadd d_Push_pushOf_150 ?_
        refine V2_topi (fun v47 ev47 => ?_)
        refine V2_ireturn d_Push_pushOf_151 rfl ?_
        exact xQi hQ (by subst ev47 ev46 ev45 ev43 ev32 ev31 ev30 ev29 ev28 ev3 ev1; first | (simp_all [pushK]; done) | (rw [xmx0]; simp_all [pushK]; done)) rfl
      by_cases c44_5 : v43 = 5
      · refine V2_tableIn (tgt := 152) (off := 72) d_Push_pushOf_80 (by rw [c44_5]; decide) (by rw [c44_5]; decide) (by rw [c44_5]; decide) rfl ?_
        refine V2_iconst (v := 0) d_Push_pushOf_152 rfl ?_
        refine V2_iload (i := 6) d_Push_pushOf_153 rfl ?_
        refine V2_aload_n (i := 2) d_Push_pushOf_155 rfl rfl ?_
        refine V2_get (v := F 44 5) d_Push_pushOf_156 fl_Push_45 (by decide) rfl (by decide) rfl rfl ?_
        refine V2_topi (fun v48 ev48 => ?_)
        refine V2_bipush (v := 8) d_Push_pushOf_159 rfl ?_
        refine V2_idiv d_Push_pushOf_161 (by decide) ?_
        refine V2_topi (fun v49 ev49 => ?_)
        refine V2_isub d_Push_pushOf_162 ?_
        refine V2_topi (fun v50 ev50 => ?_)
        refine V2_mmax d_Push_pushOf_163 lz_Push_32 (Nat.le_of_ble_eq_true rfl) ?_
        refine V2_topi (fun v51 ev51 => ?_)
        refine V2_ireturn d_Push_pushOf_166 rfl ?_
        exact xQi hQ (by subst ev51 ev50 ev49 ev48 ev43 ev32 ev31 ev30 ev29 ev28 ev3 ev1; first | (simp_all [pushK]; done) | (rw [xmx0]; simp_all [pushK]; done)) rfl
      by_cases c44_6 : v43 = 6
      · refine V2_tableIn (tgt := 167) (off := 87) d_Push_pushOf_80 (by rw [c44_6]; decide) (by rw [c44_6]; decide) (by rw [c44_6]; decide) rfl ?_
        refine V2_iconst (v := 0) d_Push_pushOf_167 rfl ?_
        refine V2_ireturn d_Push_pushOf_168 rfl ?_
        exact xQi hQ (by subst ev43 ev32 ev31 ev30 ev29 ev28 ev3 ev1; first | (simp_all [pushK]; done) | (rw [xmx0]; simp_all [pushK]; done)) rfl
      refine V2_tableOut (tgt := 169) d_Push_pushOf_80 (by have := lv_neT (a := 1) c44_1 rfl; have := lv_neT (a := 2) c44_2 rfl; have := lv_neT (a := 3) c44_3 rfl; have := lv_neT (a := 4) c44_4 rfl; have := lv_neT (a := 5) c44_5 rfl; have := lv_neT (a := 6) c44_6 rfl; omega) rfl ?_
      refine V2_iload (i := 4) d_Push_pushOf_169 rfl ?_
      refine V2_ireturn d_Push_pushOf_171 rfl ?_
      exact xQi hQ (by subst ev43 ev32 ev31 ev30 ev29 ev28 ev3 ev1; first | (simp_all [pushK]; done) | (rw [xmx0]; simp_all [pushK]; done)) rfl
theorem c_Push_pushOfSet_44_loop {L : Nat} {xs : Nat → Int32} {d : Nat} {Q : Option Value → xF → Prop} {F : xF} {P : Nat} {set : Int32} (hP : F 3 2 = nI P) (hP2 : F 3 2 = nI P) (hl : P ≤ 6) : ∀ (n : Nat) (p : Nat) (v : Int32), p ≤ P → P < n + p → v = sumTo (fun p => @ite _ (inSet set p) (Classical.propDecidable _) (pushK (F 5 p) (F 7 p) (F 44 3) (F 44 2) (F 44 5)) 0) p → (Q (some (.int (sumTo (fun p => @ite _ (inSet set p) (Classical.propDecidable _) (pushK (F 5 p) (F 7 p) (F 44 3) (F 44 2) (F 44 5)) 0) P))) F) → V2 L xs (d + 4) m_Push_pushOfSet 5 [some (.ref 3), some (.int set), some (.ref 44), some (.int v), some (.int (nI p))] [] F Q := by
  intro n
  induction n with
  | zero => exact fun p v h1 h2 => absurd h2 (by omega)
  | succ n ih =>
    intro p v h1 h2 h3 hQ
    refine V2_iload (i := 4) d_Push_pushOfSet_5 rfl ?_
    refine V2_aload_n (i := 0) d_Push_pushOfSet_7 rfl rfl ?_
    refine V2_get (v := F 3 2) d_Push_pushOfSet_8 fl_Push_16 (by decide) rfl (by decide) rfl rfl ?_
    refine V2_topi (fun v1 ev1 => ?_)
    have eN : v1 = nI P := by
      subst ev1
      exact hP
    rw [eN]
    refine V2_icmp_ge (tgt := 43) d_Push_pushOfSet_11 rfl (fun c2 => ?_) (fun c2 => ?_)
    · refine V2_iload_n (i := 3) d_Push_pushOfSet_43 rfl rfl ?_
      refine V2_ireturn d_Push_pushOfSet_44 rfl ?_
      have hpp : p = P := by
        subst ev1
        exact Nat.le_antisymm h1 ((nI_leI (by omega) (by omega)).mp c2)
      subst hpp
      exact xQi hQ h3 rfl
    · have hp : p < P := Nat.not_le.mp (fun hh => c2 ((nI_leI (by omega) (by omega)).mpr hh))
      refine V2_iload_n (i := 3) d_Push_pushOfSet_14 rfl rfl ?_
      refine V2_iload_n (i := 1) d_Push_pushOfSet_15 rfl rfl ?_
      refine V2_iload (i := 4) d_Push_pushOfSet_16 rfl ?_
      refine V2_callS [.int set, .int (nI p)] d_Push_pushOfSet_18 rfl rfl lk_Push_51 mo_Push_isIn (Nat.le_of_ble_eq_true rfl) (Nat.le_of_ble_eq_true rfl) ?_
      refine c_Push_isIn ?_
      refine V2_topi (fun v3 ev3 => ?_)
      refine V2_if_eq (tgt := 34) d_Push_pushOfSet_21 rfl (fun c4 => ?_) (fun c4 => ?_)
      · refine V2_iconst (v := 0) d_Push_pushOfSet_34 rfl ?_
        refine V2_iadd d_Push_pushOfSet_35 ?_
        refine V2_topi (fun v5 ev5 => ?_)
        refine V2_istore_n (i := 3) (l' := [some (.ref 3), some (.int set), some (.ref 44), some (.int v5), some (.int (nI p))]) d_Push_pushOfSet_36 rfl (xst_r (Nat.le_of_ble_eq_true rfl) rfl rfl) ?_
        obtain ⟨v6, ev6⟩ : ∃ y : Int32, y = nI p + 1 := ⟨_, rfl⟩
        refine V2_iinc (i := 4) (v := v6) (l' := [some (.ref 3), some (.int set), some (.ref 44), some (.int v5), some (.int v6)]) d_Push_pushOfSet_37 rfl (by rw [ev6]; rfl) (xst_i (Nat.le_of_ble_eq_true rfl) rfl rfl) ?_
        refine V2_goto (tgt := 5) d_Push_pushOfSet_40 rfl ?_
        exact V2.to (ih (p + 1) v5 (by omega) (by omega) (by subst ev6 ev5 ev3 ev1; rw [h3]; exact (sum_out (f := (fun p => pushK (F 5 p) (F 7 p) (F 44 3) (F 44 2) (F 44 5))) (set := set) (xin_f c4)).symm) hQ) rfl (by rw [ev6, nI_1]) rfl rfl
      · refine V2_aload_n (i := 0) d_Push_pushOfSet_24 rfl rfl ?_
        refine V2_iload (i := 4) d_Push_pushOfSet_25 rfl ?_
        refine V2_aload_n (i := 2) d_Push_pushOfSet_27 rfl rfl ?_
        refine V2_callV [.int (nI p), .ref 44] d_Push_pushOfSet_28 rfl rfl lk_Push_59 mo_Push_pushOf (by decide) rfl rfl rfl (Nat.le_of_ble_eq_true rfl) (Nat.le_of_ble_eq_true rfl) ?_
        refine c_Push_pushOf_44 hP hP2 hl hp ?_
        refine V2_topi (fun v7 ev7 => ?_)
        refine V2_goto (tgt := 35) d_Push_pushOfSet_31 rfl ?_
        refine V2_iadd d_Push_pushOfSet_35 ?_
        refine V2_topi (fun v8 ev8 => ?_)
        refine V2_istore_n (i := 3) (l' := [some (.ref 3), some (.int set), some (.ref 44), some (.int v8), some (.int (nI p))]) d_Push_pushOfSet_36 rfl (xst_r (Nat.le_of_ble_eq_true rfl) rfl rfl) ?_
        obtain ⟨v9, ev9⟩ : ∃ y : Int32, y = nI p + 1 := ⟨_, rfl⟩
        refine V2_iinc (i := 4) (v := v9) (l' := [some (.ref 3), some (.int set), some (.ref 44), some (.int v8), some (.int v9)]) d_Push_pushOfSet_37 rfl (by rw [ev9]; rfl) (xst_i (Nat.le_of_ble_eq_true rfl) rfl rfl) ?_
        refine V2_goto (tgt := 5) d_Push_pushOfSet_40 rfl ?_
        exact V2.to (ih (p + 1) v8 (by omega) (by omega) (by subst ev9 ev8 ev7 ev3 ev1; rw [h3]; exact (sum_in (f := (fun p => pushK (F 5 p) (F 7 p) (F 44 3) (F 44 2) (F 44 5))) (set := set) (xin_t c4)).symm) hQ) rfl (by rw [ev9, nI_1]) rfl rfl
theorem c_Push_pushOfSet_44 {L : Nat} {xs : Nat → Int32} {d : Nat} {Q : Option Value → xF → Prop} {F : xF} {P : Nat} {set : Int32} (hP : F 3 2 = nI P) (hP2 : F 3 2 = nI P) (hl : P ≤ 6) (hQ : Q (some (.int (sumTo (fun p => @ite _ (inSet set p) (Classical.propDecidable _) (pushK (F 5 p) (F 7 p) (F 44 3) (F 44 2) (F 44 5)) 0) P))) F) : V2 L xs (d + 4) m_Push_pushOfSet 0 (xEntry [.ref 3, .int set, .ref 44] 5) [] F Q := by
  refine V2.to (l' := [some (.ref 3), some (.int set), some (.ref 44), none, none]) ?_ rfl rfl rfl rfl
  refine V2_iconst (v := 0) d_Push_pushOfSet_0 rfl ?_
  refine V2_istore_n (i := 3) (l' := [some (.ref 3), some (.int set), some (.ref 44), some (.int (0 : Int32)), none]) d_Push_pushOfSet_1 rfl (xst_r (Nat.le_of_ble_eq_true rfl) rfl rfl) ?_
  refine V2_iconst (v := 0) d_Push_pushOfSet_2 rfl ?_
  refine V2_istore (i := 4) (l' := [some (.ref 3), some (.int set), some (.ref 44), some (.int (0 : Int32)), some (.int (0 : Int32))]) d_Push_pushOfSet_3 (xst_i (Nat.le_of_ble_eq_true rfl) rfl rfl) ?_
  exact c_Push_pushOfSet_44_loop hP hP2 hl (P + 1) 0 0 (by omega) (by omega) rfl hQ
theorem c_Push_pushOf_45 {L : Nat} {xs : Nat → Int32} {d : Nat} {Q : Option Value → xF → Prop} {F : xF} {p P : Nat} (hP : F 3 2 = nI P) (hP2 : F 3 2 = nI P) (hl : P ≤ 6) (hp : p < P) (hQ : Q (some (.int (pushK (F 5 p) (F 7 p) (F 45 3) (F 45 2) (F 45 5)))) F) : V2 L xs (d + 3) m_Push_pushOf 0 (xEntry [.ref 3, .int (nI p), .ref 45] 7) [] F Q := by
  refine V2.to (l' := [some (.ref 3), some (.int (nI p)), some (.ref 45), none, none, none, none]) ?_ rfl rfl rfl rfl
  refine V2_aload_n (i := 0) d_Push_pushOf_0 rfl rfl ?_
  refine V2_iload_n (i := 1) d_Push_pushOf_1 rfl rfl ?_
  refine V2_callV [.int (nI p)] d_Push_pushOf_2 rfl rfl lk_Push_28 mo_Push_has (by decide) rfl rfl rfl (Nat.le_of_ble_eq_true rfl) (Nat.le_of_ble_eq_true rfl) ?_
  refine c_Push_has hP hl ?_
  refine V2_topi (fun v1 ev1 => ?_)
  refine V2_if_ne (tgt := 10) d_Push_pushOf_5 rfl (fun c2 => ?_) (fun c2 => (by first | exact absurd (show ¬ v1 = 0 from by subst ev1; rw [xb_1 ⟨nI_pos' (by omega), by rw [hP]; exact nI_lt hp (by omega)⟩]; decide) c2 | exact absurd c2 (show ¬ v1 = 0 from by subst ev1; rw [xb_1 ⟨nI_pos' (by omega), by rw [hP]; exact nI_lt hp (by omega)⟩]; decide)))
  refine V2_aload_n (i := 2) d_Push_pushOf_10 rfl rfl ?_
  refine V2_get (v := F 45 3) d_Push_pushOf_11 fl_Push_40 (by decide) rfl (by decide) rfl rfl ?_
  refine V2_topi (fun v3 ev3 => ?_)
  refine V2_if_ne (tgt := 21) d_Push_pushOf_14 rfl (fun c4 => ?_) (fun c4 => ?_)
  · refine V2_iconst (v := 0) d_Push_pushOf_21 rfl ?_
    refine V2_istore_n (i := 3) (l' := [some (.ref 3), some (.int (nI p)), some (.ref 45), some (.int (0 : Int32)), none, none, none]) d_Push_pushOf_22 rfl (xst_r (Nat.le_of_ble_eq_true rfl) rfl rfl) ?_
    refine V2_iload_n (i := 3) d_Push_pushOf_23 rfl rfl ?_
    refine V2_if_eq (tgt := 36) d_Push_pushOf_24 rfl (fun _ => ?_) (fun c => (by first | exact absurd c (by decide) | exact absurd (by decide) c))
    refine V2_iconst (v := 0) d_Push_pushOf_36 rfl ?_
    refine V2_istore (i := 4) (l' := [some (.ref 3), some (.int (nI p)), some (.ref 45), some (.int (0 : Int32)), some (.int (0 : Int32)), none, none]) d_Push_pushOf_37 (xst_i (Nat.le_of_ble_eq_true rfl) rfl rfl) ?_
    refine V2_iload_n (i := 3) d_Push_pushOf_39 rfl rfl ?_
    refine V2_if_eq (tgt := 54) d_Push_pushOf_40 rfl (fun _ => ?_) (fun c => (by first | exact absurd c (by decide) | exact absurd (by decide) c))
    refine V2_iconst (v := 0) d_Push_pushOf_54 rfl ?_
    refine V2_istore (i := 5) (l' := [some (.ref 3), some (.int (nI p)), some (.ref 45), some (.int (0 : Int32)), some (.int (0 : Int32)), some (.int (0 : Int32)), none]) d_Push_pushOf_55 (xst_i (Nat.le_of_ble_eq_true rfl) rfl rfl) ?_
    refine V2_aload_n (i := 2) d_Push_pushOf_57 rfl rfl ?_
    refine V2_get (v := F 45 5) d_Push_pushOf_58 fl_Push_45 (by decide) rfl (by decide) rfl rfl ?_
    refine V2_topi (fun v5 ev5 => ?_)
    refine V2_iconst (v := 2) d_Push_pushOf_61 rfl ?_
    refine V2_iremM d_Push_pushOf_62 (by decide) ?_
    refine V2_topi (fun v6 ev6 => ?_)
    refine V2_if_ne (tgt := 71) d_Push_pushOf_63 rfl (fun c7 => ?_) (fun c7 => ?_)
    · refine V2_iconst (v := 0) d_Push_pushOf_71 rfl ?_
      refine V2_istore (i := 6) (l' := [some (.ref 3), some (.int (nI p)), some (.ref 45), some (.int (0 : Int32)), some (.int (0 : Int32)), some (.int (0 : Int32)), some (.int (0 : Int32))]) d_Push_pushOf_72 (xst_i (Nat.le_of_ble_eq_true rfl) rfl rfl) ?_
      refine V2_aload_n (i := 0) d_Push_pushOf_74 rfl rfl ?_
      refine V2_getr (a := 5) d_Push_pushOf_75 fl_Push_9 (by decide) rfl (by decide) rfl ?_
      refine V2_iload_n (i := 1) d_Push_pushOf_78 rfl rfl ?_
      refine V2_ialoadJ (p) d_Push_pushOf_79 (by decide) rfl (xixA (n := p) rfl (by omega) (by decide)) (xixB (n := p) rfl (by omega)) rfl ?_
      refine V2_topi (fun v8 ev8 => ?_)
      by_cases c9_1 : v8 = 1
      · refine V2_tableIn (tgt := 120) (off := 40) d_Push_pushOf_80 (by rw [c9_1]; decide) (by rw [c9_1]; decide) (by rw [c9_1]; decide) rfl ?_
        refine V2_iload (i := 5) d_Push_pushOf_120 rfl ?_
        refine V2_ireturn d_Push_pushOf_122 rfl ?_
        exact xQi hQ (by subst ev8 ev6 ev5 ev3 ev1; first | (simp_all [pushK]; done) | (rw [xmx0]; simp_all [pushK]; done)) rfl
      by_cases c9_2 : v8 = 2
      · refine V2_tableIn (tgt := 123) (off := 43) d_Push_pushOf_80 (by rw [c9_2]; decide) (by rw [c9_2]; decide) (by rw [c9_2]; decide) rfl ?_
        refine V2_iload (i := 6) d_Push_pushOf_123 rfl ?_
        refine V2_ireturn d_Push_pushOf_125 rfl ?_
        exact xQi hQ (by subst ev8 ev6 ev5 ev3 ev1; first | (simp_all [pushK]; done) | (rw [xmx0]; simp_all [pushK]; done)) rfl
      by_cases c9_3 : v8 = 3
      · refine V2_tableIn (tgt := 126) (off := 46) d_Push_pushOf_80 (by rw [c9_3]; decide) (by rw [c9_3]; decide) (by rw [c9_3]; decide) rfl ?_
        refine V2_iload_n (i := 3) d_Push_pushOf_126 rfl rfl ?_
        refine V2_if_eq (tgt := 134) d_Push_pushOf_127 rfl (fun _ => ?_) (fun c => (by first | exact absurd c (by decide) | exact absurd (by decide) c))
        refine V2_aload_n (i := 0) d_Push_pushOf_134 rfl rfl ?_
        refine V2_getr (a := 7) d_Push_pushOf_135 fl_Push_13 (by decide) rfl (by decide) rfl ?_
        refine V2_iload_n (i := 1) d_Push_pushOf_138 rfl rfl ?_
        refine V2_ialoadJ (p) d_Push_pushOf_139 (by decide) rfl (xixA (n := p) rfl (by omega) (by decide)) (xixB (n := p) rfl (by omega)) rfl ?_
        refine V2_topi (fun v10 ev10 => ?_)
        refine V2_ireturn d_Push_pushOf_140 rfl ?_
        exact xQi hQ (by subst ev10 ev8 ev6 ev5 ev3 ev1; first | (simp_all [pushK]; done) | (rw [xmx0]; simp_all [pushK]; done)) rfl
      by_cases c9_4 : v8 = 4
      · refine V2_tableIn (tgt := 141) (off := 61) d_Push_pushOf_80 (by rw [c9_4]; decide) (by rw [c9_4]; decide) (by rw [c9_4]; decide) rfl ?_
        refine V2_iload (i := 5) d_Push_pushOf_141 rfl ?_
        refine V2_aload_n (i := 2) d_Push_pushOf_143 rfl rfl ?_
        refine V2_get (v := F 45 2) d_Push_pushOf_144 fl_Push_48 (by decide) rfl (by decide) rfl rfl ?_
        refine V2_topi (fun v11 ev11 => ?_)
        refine V2_bipush (v := 8) d_Push_pushOf_147 rfl ?_
        refine V2_idiv d_Push_pushOf_149 (by decide) ?_
        refine V2_topi (fun v12 ev12 => ?_)
        refine V2_iadd d_Push_pushOf_150 ?_
        refine V2_topi (fun v13 ev13 => ?_)
        refine V2_ireturn d_Push_pushOf_151 rfl ?_
        exact xQi hQ (by subst ev13 ev12 ev11 ev8 ev6 ev5 ev3 ev1; first | (simp_all [pushK]; done) | (rw [xmx0]; simp_all [pushK]; done)) rfl
      by_cases c9_5 : v8 = 5
      · refine V2_tableIn (tgt := 152) (off := 72) d_Push_pushOf_80 (by rw [c9_5]; decide) (by rw [c9_5]; decide) (by rw [c9_5]; decide) rfl ?_
        refine V2_iconst (v := 0) d_Push_pushOf_152 rfl ?_
        refine V2_iload (i := 6) d_Push_pushOf_153 rfl ?_
        refine V2_aload_n (i := 2) d_Push_pushOf_155 rfl rfl ?_
        refine V2_get (v := F 45 5) d_Push_pushOf_156 fl_Push_45 (by decide) rfl (by decide) rfl rfl ?_
        refine V2_topi (fun v14 ev14 => ?_)
        refine V2_bipush (v := 8) d_Push_pushOf_159 rfl ?_
        refine V2_idiv d_Push_pushOf_161 (by decide) ?_
        refine V2_topi (fun v15 ev15 => ?_)
        refine V2_isub d_Push_pushOf_162 ?_
        refine V2_topi (fun v16 ev16 => ?_)
        refine V2_mmax d_Push_pushOf_163 lz_Push_32 (Nat.le_of_ble_eq_true rfl) ?_
        refine V2_topi (fun v17 ev17 => ?_)
        refine V2_ireturn d_Push_pushOf_166 rfl ?_
        exact xQi hQ (by subst ev17 ev16 ev15 ev14 ev8 ev6 ev5 ev3 ev1; first | (simp_all [pushK]; done) | (rw [xmx0]; simp_all [pushK]; done)) rfl
      by_cases c9_6 : v8 = 6
      · refine V2_tableIn (tgt := 167) (off := 87) d_Push_pushOf_80 (by rw [c9_6]; decide) (by rw [c9_6]; decide) (by rw [c9_6]; decide) rfl ?_
        refine V2_iconst (v := 0) d_Push_pushOf_167 rfl ?_
        refine V2_ireturn d_Push_pushOf_168 rfl ?_
        exact xQi hQ (by subst ev8 ev6 ev5 ev3 ev1; first | (simp_all [pushK]; done) | (rw [xmx0]; simp_all [pushK]; done)) rfl
      refine V2_tableOut (tgt := 169) d_Push_pushOf_80 (by have := lv_neT (a := 1) c9_1 rfl; have := lv_neT (a := 2) c9_2 rfl; have := lv_neT (a := 3) c9_3 rfl; have := lv_neT (a := 4) c9_4 rfl; have := lv_neT (a := 5) c9_5 rfl; have := lv_neT (a := 6) c9_6 rfl; omega) rfl ?_
      refine V2_iload (i := 4) d_Push_pushOf_169 rfl ?_
      refine V2_ireturn d_Push_pushOf_171 rfl ?_
      exact xQi hQ (by subst ev8 ev6 ev5 ev3 ev1; first | (simp_all [pushK]; done) | (rw [xmx0]; simp_all [pushK]; done)) rfl
    · refine V2_iload (i := 4) d_Push_pushOf_66 rfl ?_
      refine V2_goto (tgt := 72) d_Push_pushOf_68 rfl ?_
      refine V2_istore (i := 6) (l' := [some (.ref 3), some (.int (nI p)), some (.ref 45), some (.int (0 : Int32)), some (.int (0 : Int32)), some (.int (0 : Int32)), some (.int (0 : Int32))]) d_Push_pushOf_72 (xst_i (Nat.le_of_ble_eq_true rfl) rfl rfl) ?_
      refine V2_aload_n (i := 0) d_Push_pushOf_74 rfl rfl ?_
      refine V2_getr (a := 5) d_Push_pushOf_75 fl_Push_9 (by decide) rfl (by decide) rfl ?_
      refine V2_iload_n (i := 1) d_Push_pushOf_78 rfl rfl ?_
      refine V2_ialoadJ (p) d_Push_pushOf_79 (by decide) rfl (xixA (n := p) rfl (by omega) (by decide)) (xixB (n := p) rfl (by omega)) rfl ?_
      refine V2_topi (fun v18 ev18 => ?_)
      by_cases c19_1 : v18 = 1
      · refine V2_tableIn (tgt := 120) (off := 40) d_Push_pushOf_80 (by rw [c19_1]; decide) (by rw [c19_1]; decide) (by rw [c19_1]; decide) rfl ?_
        refine V2_iload (i := 5) d_Push_pushOf_120 rfl ?_
        refine V2_ireturn d_Push_pushOf_122 rfl ?_
        exact xQi hQ (by subst ev18 ev6 ev5 ev3 ev1; first | (simp_all [pushK]; done) | (rw [xmx0]; simp_all [pushK]; done)) rfl
      by_cases c19_2 : v18 = 2
      · refine V2_tableIn (tgt := 123) (off := 43) d_Push_pushOf_80 (by rw [c19_2]; decide) (by rw [c19_2]; decide) (by rw [c19_2]; decide) rfl ?_
        refine V2_iload (i := 6) d_Push_pushOf_123 rfl ?_
        refine V2_ireturn d_Push_pushOf_125 rfl ?_
        exact xQi hQ (by subst ev18 ev6 ev5 ev3 ev1; first | (simp_all [pushK]; done) | (rw [xmx0]; simp_all [pushK]; done)) rfl
      by_cases c19_3 : v18 = 3
      · refine V2_tableIn (tgt := 126) (off := 46) d_Push_pushOf_80 (by rw [c19_3]; decide) (by rw [c19_3]; decide) (by rw [c19_3]; decide) rfl ?_
        refine V2_iload_n (i := 3) d_Push_pushOf_126 rfl rfl ?_
        refine V2_if_eq (tgt := 134) d_Push_pushOf_127 rfl (fun _ => ?_) (fun c => (by first | exact absurd c (by decide) | exact absurd (by decide) c))
        refine V2_aload_n (i := 0) d_Push_pushOf_134 rfl rfl ?_
        refine V2_getr (a := 7) d_Push_pushOf_135 fl_Push_13 (by decide) rfl (by decide) rfl ?_
        refine V2_iload_n (i := 1) d_Push_pushOf_138 rfl rfl ?_
        refine V2_ialoadJ (p) d_Push_pushOf_139 (by decide) rfl (xixA (n := p) rfl (by omega) (by decide)) (xixB (n := p) rfl (by omega)) rfl ?_
        refine V2_topi (fun v20 ev20 => ?_)
        refine V2_ireturn d_Push_pushOf_140 rfl ?_
        exact xQi hQ (by subst ev20 ev18 ev6 ev5 ev3 ev1; first | (simp_all [pushK]; done) | (rw [xmx0]; simp_all [pushK]; done)) rfl
      by_cases c19_4 : v18 = 4
      · refine V2_tableIn (tgt := 141) (off := 61) d_Push_pushOf_80 (by rw [c19_4]; decide) (by rw [c19_4]; decide) (by rw [c19_4]; decide) rfl ?_
        refine V2_iload (i := 5) d_Push_pushOf_141 rfl ?_
        refine V2_aload_n (i := 2) d_Push_pushOf_143 rfl rfl ?_
        refine V2_get (v := F 45 2) d_Push_pushOf_144 fl_Push_48 (by decide) rfl (by decide) rfl rfl ?_
        refine V2_topi (fun v21 ev21 => ?_)
        refine V2_bipush (v := 8) d_Push_pushOf_147 rfl ?_
        refine V2_idiv d_Push_pushOf_149 (by decide) ?_
        refine V2_topi (fun v22 ev22 => ?_)
        refine V2_iadd d_Push_pushOf_150 ?_
        refine V2_topi (fun v23 ev23 => ?_)
        refine V2_ireturn d_Push_pushOf_151 rfl ?_
        exact xQi hQ (by subst ev23 ev22 ev21 ev18 ev6 ev5 ev3 ev1; first | (simp_all [pushK]; done) | (rw [xmx0]; simp_all [pushK]; done)) rfl
      by_cases c19_5 : v18 = 5
      · refine V2_tableIn (tgt := 152) (off := 72) d_Push_pushOf_80 (by rw [c19_5]; decide) (by rw [c19_5]; decide) (by rw [c19_5]; decide) rfl ?_
        refine V2_iconst (v := 0) d_Push_pushOf_152 rfl ?_
        refine V2_iload (i := 6) d_Push_pushOf_153 rfl ?_
        refine V2_aload_n (i := 2) d_Push_pushOf_155 rfl rfl ?_
        refine V2_get (v := F 45 5) d_Push_pushOf_156 fl_Push_45 (by decide) rfl (by decide) rfl rfl ?_
        refine V2_topi (fun v24 ev24 => ?_)
        refine V2_bipush (v := 8) d_Push_pushOf_159 rfl ?_
        refine V2_idiv d_Push_pushOf_161 (by decide) ?_
        refine V2_topi (fun v25 ev25 => ?_)
        refine V2_isub d_Push_pushOf_162 ?_
        refine V2_topi (fun v26 ev26 => ?_)
        refine V2_mmax d_Push_pushOf_163 lz_Push_32 (Nat.le_of_ble_eq_true rfl) ?_
        refine V2_topi (fun v27 ev27 => ?_)
        refine V2_ireturn d_Push_pushOf_166 rfl ?_
        exact xQi hQ (by subst ev27 ev26 ev25 ev24 ev18 ev6 ev5 ev3 ev1; first | (simp_all [pushK]; done) | (rw [xmx0]; simp_all [pushK]; done)) rfl
      by_cases c19_6 : v18 = 6
      · refine V2_tableIn (tgt := 167) (off := 87) d_Push_pushOf_80 (by rw [c19_6]; decide) (by rw [c19_6]; decide) (by rw [c19_6]; decide) rfl ?_
        refine V2_iconst (v := 0) d_Push_pushOf_167 rfl ?_
        refine V2_ireturn d_Push_pushOf_168 rfl ?_
        exact xQi hQ (by subst ev18 ev6 ev5 ev3 ev1; first | (simp_all [pushK]; done) | (rw [xmx0]; simp_all [pushK]; done)) rfl
      refine V2_tableOut (tgt := 169) d_Push_pushOf_80 (by have := lv_neT (a := 1) c19_1 rfl; have := lv_neT (a := 2) c19_2 rfl; have := lv_neT (a := 3) c19_3 rfl; have := lv_neT (a := 4) c19_4 rfl; have := lv_neT (a := 5) c19_5 rfl; have := lv_neT (a := 6) c19_6 rfl; omega) rfl ?_
      refine V2_iload (i := 4) d_Push_pushOf_169 rfl ?_
      refine V2_ireturn d_Push_pushOf_171 rfl ?_
      exact xQi hQ (by subst ev18 ev6 ev5 ev3 ev1; first | (simp_all [pushK]; done) | (rw [xmx0]; simp_all [pushK]; done)) rfl
  · refine V2_iconst (v := 1) d_Push_pushOf_17 rfl ?_
    refine V2_goto (tgt := 22) d_Push_pushOf_18 rfl ?_
    refine V2_istore_n (i := 3) (l' := [some (.ref 3), some (.int (nI p)), some (.ref 45), some (.int (1 : Int32)), none, none, none]) d_Push_pushOf_22 rfl (xst_r (Nat.le_of_ble_eq_true rfl) rfl rfl) ?_
    refine V2_iload_n (i := 3) d_Push_pushOf_23 rfl rfl ?_
    refine V2_if_eq (tgt := 36) d_Push_pushOf_24 rfl (fun c => (by first | exact absurd c (by decide) | exact absurd (by decide) c)) (fun _ => ?_)
    refine V2_aload_n (i := 0) d_Push_pushOf_27 rfl rfl ?_
    refine V2_getr (a := 7) d_Push_pushOf_28 fl_Push_13 (by decide) rfl (by decide) rfl ?_
    refine V2_iload_n (i := 1) d_Push_pushOf_31 rfl rfl ?_
    refine V2_ialoadJ (p) d_Push_pushOf_32 (by decide) rfl (xixA (n := p) rfl (by omega) (by decide)) (xixB (n := p) rfl (by omega)) rfl ?_
    refine V2_topi (fun v28 ev28 => ?_)
    refine V2_goto (tgt := 37) d_Push_pushOf_33 rfl ?_
    refine V2_istore (i := 4) (l' := [some (.ref 3), some (.int (nI p)), some (.ref 45), some (.int (1 : Int32)), some (.int v28), none, none]) d_Push_pushOf_37 (xst_i (Nat.le_of_ble_eq_true rfl) rfl rfl) ?_
    refine V2_iload_n (i := 3) d_Push_pushOf_39 rfl rfl ?_
    refine V2_if_eq (tgt := 54) d_Push_pushOf_40 rfl (fun c => (by first | exact absurd c (by decide) | exact absurd (by decide) c)) (fun _ => ?_)
    refine V2_aload_n (i := 0) d_Push_pushOf_43 rfl rfl ?_
    refine V2_getr (a := 7) d_Push_pushOf_44 fl_Push_13 (by decide) rfl (by decide) rfl ?_
    refine V2_iload_n (i := 1) d_Push_pushOf_47 rfl rfl ?_
    refine V2_ialoadJ (p) d_Push_pushOf_48 (by decide) rfl (xixA (n := p) rfl (by omega) (by decide)) (xixB (n := p) rfl (by omega)) rfl ?_
    refine V2_topi (fun v29 ev29 => ?_)
    refine V2_iconst (v := 2) d_Push_pushOf_49 rfl ?_
    refine V2_iadd d_Push_pushOf_50 ?_
    refine V2_topi (fun v30 ev30 => ?_)
    refine V2_goto (tgt := 55) d_Push_pushOf_51 rfl ?_
    refine V2_istore (i := 5) (l' := [some (.ref 3), some (.int (nI p)), some (.ref 45), some (.int (1 : Int32)), some (.int v28), some (.int v30), none]) d_Push_pushOf_55 (xst_i (Nat.le_of_ble_eq_true rfl) rfl rfl) ?_
    refine V2_aload_n (i := 2) d_Push_pushOf_57 rfl rfl ?_
    refine V2_get (v := F 45 5) d_Push_pushOf_58 fl_Push_45 (by decide) rfl (by decide) rfl rfl ?_
    refine V2_topi (fun v31 ev31 => ?_)
    refine V2_iconst (v := 2) d_Push_pushOf_61 rfl ?_
    refine V2_iremM d_Push_pushOf_62 (by decide) ?_
    refine V2_topi (fun v32 ev32 => ?_)
    refine V2_if_ne (tgt := 71) d_Push_pushOf_63 rfl (fun c33 => ?_) (fun c33 => ?_)
    · refine V2_iconst (v := 0) d_Push_pushOf_71 rfl ?_
      refine V2_istore (i := 6) (l' := [some (.ref 3), some (.int (nI p)), some (.ref 45), some (.int (1 : Int32)), some (.int v28), some (.int v30), some (.int (0 : Int32))]) d_Push_pushOf_72 (xst_i (Nat.le_of_ble_eq_true rfl) rfl rfl) ?_
      refine V2_aload_n (i := 0) d_Push_pushOf_74 rfl rfl ?_
      refine V2_getr (a := 5) d_Push_pushOf_75 fl_Push_9 (by decide) rfl (by decide) rfl ?_
      refine V2_iload_n (i := 1) d_Push_pushOf_78 rfl rfl ?_
      refine V2_ialoadJ (p) d_Push_pushOf_79 (by decide) rfl (xixA (n := p) rfl (by omega) (by decide)) (xixB (n := p) rfl (by omega)) rfl ?_
      refine V2_topi (fun v34 ev34 => ?_)
      by_cases c35_1 : v34 = 1
      · refine V2_tableIn (tgt := 120) (off := 40) d_Push_pushOf_80 (by rw [c35_1]; decide) (by rw [c35_1]; decide) (by rw [c35_1]; decide) rfl ?_
        refine V2_iload (i := 5) d_Push_pushOf_120 rfl ?_
        refine V2_ireturn d_Push_pushOf_122 rfl ?_
        exact xQi hQ (by subst ev34 ev32 ev31 ev30 ev29 ev28 ev3 ev1; first | (simp_all [pushK]; done) | (rw [xmx0]; simp_all [pushK]; done)) rfl
      by_cases c35_2 : v34 = 2
      · refine V2_tableIn (tgt := 123) (off := 43) d_Push_pushOf_80 (by rw [c35_2]; decide) (by rw [c35_2]; decide) (by rw [c35_2]; decide) rfl ?_
        refine V2_iload (i := 6) d_Push_pushOf_123 rfl ?_
        refine V2_ireturn d_Push_pushOf_125 rfl ?_
        exact xQi hQ (by subst ev34 ev32 ev31 ev30 ev29 ev28 ev3 ev1; first | (simp_all [pushK]; done) | (rw [xmx0]; simp_all [pushK]; done)) rfl
      by_cases c35_3 : v34 = 3
      · refine V2_tableIn (tgt := 126) (off := 46) d_Push_pushOf_80 (by rw [c35_3]; decide) (by rw [c35_3]; decide) (by rw [c35_3]; decide) rfl ?_
        refine V2_iload_n (i := 3) d_Push_pushOf_126 rfl rfl ?_
        refine V2_if_eq (tgt := 134) d_Push_pushOf_127 rfl (fun c => (by first | exact absurd c (by decide) | exact absurd (by decide) c)) (fun _ => ?_)
        refine V2_iconst (v := 0) d_Push_pushOf_130 rfl ?_
        refine V2_goto (tgt := 140) d_Push_pushOf_131 rfl ?_
        refine V2_ireturn d_Push_pushOf_140 rfl ?_
        exact xQi hQ (by subst ev34 ev32 ev31 ev30 ev29 ev28 ev3 ev1; first | (simp_all [pushK]; done) | (rw [xmx0]; simp_all [pushK]; done)) rfl
      by_cases c35_4 : v34 = 4
      · refine V2_tableIn (tgt := 141) (off := 61) d_Push_pushOf_80 (by rw [c35_4]; decide) (by rw [c35_4]; decide) (by rw [c35_4]; decide) rfl ?_
        refine V2_iload (i := 5) d_Push_pushOf_141 rfl ?_
        refine V2_aload_n (i := 2) d_Push_pushOf_143 rfl rfl ?_
        refine V2_get (v := F 45 2) d_Push_pushOf_144 fl_Push_48 (by decide) rfl (by decide) rfl rfl ?_
        refine V2_topi (fun v36 ev36 => ?_)
        refine V2_bipush (v := 8) d_Push_pushOf_147 rfl ?_
        refine V2_idiv d_Push_pushOf_149 (by decide) ?_
        refine V2_topi (fun v37 ev37 => ?_)
        refine V2_iadd d_Push_pushOf_150 ?_
        refine V2_topi (fun v38 ev38 => ?_)
        refine V2_ireturn d_Push_pushOf_151 rfl ?_
        exact xQi hQ (by subst ev38 ev37 ev36 ev34 ev32 ev31 ev30 ev29 ev28 ev3 ev1; first | (simp_all [pushK]; done) | (rw [xmx0]; simp_all [pushK]; done)) rfl
      by_cases c35_5 : v34 = 5
      · refine V2_tableIn (tgt := 152) (off := 72) d_Push_pushOf_80 (by rw [c35_5]; decide) (by rw [c35_5]; decide) (by rw [c35_5]; decide) rfl ?_
        refine V2_iconst (v := 0) d_Push_pushOf_152 rfl ?_
        refine V2_iload (i := 6) d_Push_pushOf_153 rfl ?_
        refine V2_aload_n (i := 2) d_Push_pushOf_155 rfl rfl ?_
        refine V2_get (v := F 45 5) d_Push_pushOf_156 fl_Push_45 (by decide) rfl (by decide) rfl rfl ?_
        refine V2_topi (fun v39 ev39 => ?_)
        refine V2_bipush (v := 8) d_Push_pushOf_159 rfl ?_
        refine V2_idiv d_Push_pushOf_161 (by decide) ?_
        refine V2_topi (fun v40 ev40 => ?_)
        refine V2_isub d_Push_pushOf_162 ?_
        refine V2_topi (fun v41 ev41 => ?_)
        refine V2_mmax d_Push_pushOf_163 lz_Push_32 (Nat.le_of_ble_eq_true rfl) ?_
        refine V2_topi (fun v42 ev42 => ?_)
        refine V2_ireturn d_Push_pushOf_166 rfl ?_
        exact xQi hQ (by subst ev42 ev41 ev40 ev39 ev34 ev32 ev31 ev30 ev29 ev28 ev3 ev1; first | (simp_all [pushK]; done) | (rw [xmx0]; simp_all [pushK]; done)) rfl
      by_cases c35_6 : v34 = 6
      · refine V2_tableIn (tgt := 167) (off := 87) d_Push_pushOf_80 (by rw [c35_6]; decide) (by rw [c35_6]; decide) (by rw [c35_6]; decide) rfl ?_
        refine V2_iconst (v := 0) d_Push_pushOf_167 rfl ?_
        refine V2_ireturn d_Push_pushOf_168 rfl ?_
        exact xQi hQ (by subst ev34 ev32 ev31 ev30 ev29 ev28 ev3 ev1; first | (simp_all [pushK]; done) | (rw [xmx0]; simp_all [pushK]; done)) rfl
      refine V2_tableOut (tgt := 169) d_Push_pushOf_80 (by have := lv_neT (a := 1) c35_1 rfl; have := lv_neT (a := 2) c35_2 rfl; have := lv_neT (a := 3) c35_3 rfl; have := lv_neT (a := 4) c35_4 rfl; have := lv_neT (a := 5) c35_5 rfl; have := lv_neT (a := 6) c35_6 rfl; omega) rfl ?_
      refine V2_iload (i := 4) d_Push_pushOf_169 rfl ?_
      refine V2_ireturn d_Push_pushOf_171 rfl ?_
      exact xQi hQ (by subst ev34 ev32 ev31 ev30 ev29 ev28 ev3 ev1; first | (simp_all [pushK]; done) | (rw [xmx0]; simp_all [pushK]; done)) rfl
    · refine V2_iload (i := 4) d_Push_pushOf_66 rfl ?_
      refine V2_goto (tgt := 72) d_Push_pushOf_68 rfl ?_
      refine V2_istore (i := 6) (l' := [some (.ref 3), some (.int (nI p)), some (.ref 45), some (.int (1 : Int32)), some (.int v28), some (.int v30), some (.int v28)]) d_Push_pushOf_72 (xst_i (Nat.le_of_ble_eq_true rfl) rfl rfl) ?_
      refine V2_aload_n (i := 0) d_Push_pushOf_74 rfl rfl ?_
      refine V2_getr (a := 5) d_Push_pushOf_75 fl_Push_9 (by decide) rfl (by decide) rfl ?_
      refine V2_iload_n (i := 1) d_Push_pushOf_78 rfl rfl ?_
      refine V2_ialoadJ (p) d_Push_pushOf_79 (by decide) rfl (xixA (n := p) rfl (by omega) (by decide)) (xixB (n := p) rfl (by omega)) rfl ?_
      refine V2_topi (fun v43 ev43 => ?_)
      by_cases c44_1 : v43 = 1
      · refine V2_tableIn (tgt := 120) (off := 40) d_Push_pushOf_80 (by rw [c44_1]; decide) (by rw [c44_1]; decide) (by rw [c44_1]; decide) rfl ?_
        refine V2_iload (i := 5) d_Push_pushOf_120 rfl ?_
        refine V2_ireturn d_Push_pushOf_122 rfl ?_
        exact xQi hQ (by subst ev43 ev32 ev31 ev30 ev29 ev28 ev3 ev1; first | (simp_all [pushK]; done) | (rw [xmx0]; simp_all [pushK]; done)) rfl
      by_cases c44_2 : v43 = 2
      · refine V2_tableIn (tgt := 123) (off := 43) d_Push_pushOf_80 (by rw [c44_2]; decide) (by rw [c44_2]; decide) (by rw [c44_2]; decide) rfl ?_
        refine V2_iload (i := 6) d_Push_pushOf_123 rfl ?_
        refine V2_ireturn d_Push_pushOf_125 rfl ?_
        exact xQi hQ (by subst ev43 ev32 ev31 ev30 ev29 ev28 ev3 ev1; first | (simp_all [pushK]; done) | (rw [xmx0]; simp_all [pushK]; done)) rfl
      by_cases c44_3 : v43 = 3
      · refine V2_tableIn (tgt := 126) (off := 46) d_Push_pushOf_80 (by rw [c44_3]; decide) (by rw [c44_3]; decide) (by rw [c44_3]; decide) rfl ?_
        refine V2_iload_n (i := 3) d_Push_pushOf_126 rfl rfl ?_
        refine V2_if_eq (tgt := 134) d_Push_pushOf_127 rfl (fun c => (by first | exact absurd c (by decide) | exact absurd (by decide) c)) (fun _ => ?_)
        refine V2_iconst (v := 0) d_Push_pushOf_130 rfl ?_
        refine V2_goto (tgt := 140) d_Push_pushOf_131 rfl ?_
        refine V2_ireturn d_Push_pushOf_140 rfl ?_
        exact xQi hQ (by subst ev43 ev32 ev31 ev30 ev29 ev28 ev3 ev1; first | (simp_all [pushK]; done) | (rw [xmx0]; simp_all [pushK]; done)) rfl
      by_cases c44_4 : v43 = 4
      · refine V2_tableIn (tgt := 141) (off := 61) d_Push_pushOf_80 (by rw [c44_4]; decide) (by rw [c44_4]; decide) (by rw [c44_4]; decide) rfl ?_
        refine V2_iload (i := 5) d_Push_pushOf_141 rfl ?_
        refine V2_aload_n (i := 2) d_Push_pushOf_143 rfl rfl ?_
        refine V2_get (v := F 45 2) d_Push_pushOf_144 fl_Push_48 (by decide) rfl (by decide) rfl rfl ?_
        refine V2_topi (fun v45 ev45 => ?_)
        refine V2_bipush (v := 8) d_Push_pushOf_147 rfl ?_
        refine V2_idiv d_Push_pushOf_149 (by decide) ?_
        refine V2_topi (fun v46 ev46 => ?_)
        refine V2_iadd d_Push_pushOf_150 ?_
        refine V2_topi (fun v47 ev47 => ?_)
        refine V2_ireturn d_Push_pushOf_151 rfl ?_
        exact xQi hQ (by subst ev47 ev46 ev45 ev43 ev32 ev31 ev30 ev29 ev28 ev3 ev1; first | (simp_all [pushK]; done) | (rw [xmx0]; simp_all [pushK]; done)) rfl
      by_cases c44_5 : v43 = 5
      · refine V2_tableIn (tgt := 152) (off := 72) d_Push_pushOf_80 (by rw [c44_5]; decide) (by rw [c44_5]; decide) (by rw [c44_5]; decide) rfl ?_
        refine V2_iconst (v := 0) d_Push_pushOf_152 rfl ?_
        refine V2_iload (i := 6) d_Push_pushOf_153 rfl ?_
        refine V2_aload_n (i := 2) d_Push_pushOf_155 rfl rfl ?_
        refine V2_get (v := F 45 5) d_Push_pushOf_156 fl_Push_45 (by decide) rfl (by decide) rfl rfl ?_
        refine V2_topi (fun v48 ev48 => ?_)
        refine V2_bipush (v := 8) d_Push_pushOf_159 rfl ?_
        refine V2_idiv d_Push_pushOf_161 (by decide) ?_
        refine V2_topi (fun v49 ev49 => ?_)
        refine V2_isub d_Push_pushOf_162 ?_
        refine V2_topi (fun v50 ev50 => ?_)
        refine V2_mmax d_Push_pushOf_163 lz_Push_32 (Nat.le_of_ble_eq_true rfl) ?_
        refine V2_topi (fun v51 ev51 => ?_)
        refine V2_ireturn d_Push_pushOf_166 rfl ?_
        exact xQi hQ (by subst ev51 ev50 ev49 ev48 ev43 ev32 ev31 ev30 ev29 ev28 ev3 ev1; first | (simp_all [pushK]; done) | (rw [xmx0]; simp_all [pushK]; done)) rfl
      by_cases c44_6 : v43 = 6
      · refine V2_tableIn (tgt := 167) (off := 87) d_Push_pushOf_80 (by rw [c44_6]; decide) (by rw [c44_6]; decide) (by rw [c44_6]; decide) rfl ?_
        refine V2_iconst (v := 0) d_Push_pushOf_167 rfl ?_
        refine V2_ireturn d_Push_pushOf_168 rfl ?_
        exact xQi hQ (by subst ev43 ev32 ev31 ev30 ev29 ev28 ev3 ev1; first | (simp_all [pushK]; done) | (rw [xmx0]; simp_all [pushK]; done)) rfl
      refine V2_tableOut (tgt := 169) d_Push_pushOf_80 (by have := lv_neT (a := 1) c44_1 rfl; have := lv_neT (a := 2) c44_2 rfl; have := lv_neT (a := 3) c44_3 rfl; have := lv_neT (a := 4) c44_4 rfl; have := lv_neT (a := 5) c44_5 rfl; have := lv_neT (a := 6) c44_6 rfl; omega) rfl ?_
      refine V2_iload (i := 4) d_Push_pushOf_169 rfl ?_
      refine V2_ireturn d_Push_pushOf_171 rfl ?_
      exact xQi hQ (by subst ev43 ev32 ev31 ev30 ev29 ev28 ev3 ev1; first | (simp_all [pushK]; done) | (rw [xmx0]; simp_all [pushK]; done)) rfl
theorem c_Push_pushOfSet_45_loop {L : Nat} {xs : Nat → Int32} {d : Nat} {Q : Option Value → xF → Prop} {F : xF} {P : Nat} {set : Int32} (hP : F 3 2 = nI P) (hP2 : F 3 2 = nI P) (hl : P ≤ 6) : ∀ (n : Nat) (p : Nat) (v : Int32), p ≤ P → P < n + p → v = sumTo (fun p => @ite _ (inSet set p) (Classical.propDecidable _) (pushK (F 5 p) (F 7 p) (F 45 3) (F 45 2) (F 45 5)) 0) p → (Q (some (.int (sumTo (fun p => @ite _ (inSet set p) (Classical.propDecidable _) (pushK (F 5 p) (F 7 p) (F 45 3) (F 45 2) (F 45 5)) 0) P))) F) → V2 L xs (d + 4) m_Push_pushOfSet 5 [some (.ref 3), some (.int set), some (.ref 45), some (.int v), some (.int (nI p))] [] F Q := by
  intro n
  induction n with
  | zero => exact fun p v h1 h2 => absurd h2 (by omega)
  | succ n ih =>
    intro p v h1 h2 h3 hQ
    refine V2_iload (i := 4) d_Push_pushOfSet_5 rfl ?_
    refine V2_aload_n (i := 0) d_Push_pushOfSet_7 rfl rfl ?_
    refine V2_get (v := F 3 2) d_Push_pushOfSet_8 fl_Push_16 (by decide) rfl (by decide) rfl rfl ?_
    refine V2_topi (fun v1 ev1 => ?_)
    have eN : v1 = nI P := by
      subst ev1
      exact hP
    rw [eN]
    refine V2_icmp_ge (tgt := 43) d_Push_pushOfSet_11 rfl (fun c2 => ?_) (fun c2 => ?_)
    · refine V2_iload_n (i := 3) d_Push_pushOfSet_43 rfl rfl ?_
      refine V2_ireturn d_Push_pushOfSet_44 rfl ?_
      have hpp : p = P := by
        subst ev1
        exact Nat.le_antisymm h1 ((nI_leI (by omega) (by omega)).mp c2)
      subst hpp
      exact xQi hQ h3 rfl
    · have hp : p < P := Nat.not_le.mp (fun hh => c2 ((nI_leI (by omega) (by omega)).mpr hh))
      refine V2_iload_n (i := 3) d_Push_pushOfSet_14 rfl rfl ?_
      refine V2_iload_n (i := 1) d_Push_pushOfSet_15 rfl rfl ?_
      refine V2_iload (i := 4) d_Push_pushOfSet_16 rfl ?_
      refine V2_callS [.int set, .int (nI p)] d_Push_pushOfSet_18 rfl rfl lk_Push_51 mo_Push_isIn (Nat.le_of_ble_eq_true rfl) (Nat.le_of_ble_eq_true rfl) ?_
      refine c_Push_isIn ?_
      refine V2_topi (fun v3 ev3 => ?_)
      refine V2_if_eq (tgt := 34) d_Push_pushOfSet_21 rfl (fun c4 => ?_) (fun c4 => ?_)
      · refine V2_iconst (v := 0) d_Push_pushOfSet_34 rfl ?_
        refine V2_iadd d_Push_pushOfSet_35 ?_
        refine V2_topi (fun v5 ev5 => ?_)
        refine V2_istore_n (i := 3) (l' := [some (.ref 3), some (.int set), some (.ref 45), some (.int v5), some (.int (nI p))]) d_Push_pushOfSet_36 rfl (xst_r (Nat.le_of_ble_eq_true rfl) rfl rfl) ?_
        obtain ⟨v6, ev6⟩ : ∃ y : Int32, y = nI p + 1 := ⟨_, rfl⟩
        refine V2_iinc (i := 4) (v := v6) (l' := [some (.ref 3), some (.int set), some (.ref 45), some (.int v5), some (.int v6)]) d_Push_pushOfSet_37 rfl (by rw [ev6]; rfl) (xst_i (Nat.le_of_ble_eq_true rfl) rfl rfl) ?_
        refine V2_goto (tgt := 5) d_Push_pushOfSet_40 rfl ?_
        exact V2.to (ih (p + 1) v5 (by omega) (by omega) (by subst ev6 ev5 ev3 ev1; rw [h3]; exact (sum_out (f := (fun p => pushK (F 5 p) (F 7 p) (F 45 3) (F 45 2) (F 45 5))) (set := set) (xin_f c4)).symm) hQ) rfl (by rw [ev6, nI_1]) rfl rfl
      · refine V2_aload_n (i := 0) d_Push_pushOfSet_24 rfl rfl ?_
        refine V2_iload (i := 4) d_Push_pushOfSet_25 rfl ?_
        refine V2_aload_n (i := 2) d_Push_pushOfSet_27 rfl rfl ?_
        refine V2_callV [.int (nI p), .ref 45] d_Push_pushOfSet_28 rfl rfl lk_Push_59 mo_Push_pushOf (by decide) rfl rfl rfl (Nat.le_of_ble_eq_true rfl) (Nat.le_of_ble_eq_true rfl) ?_
        refine c_Push_pushOf_45 hP hP2 hl hp ?_
        refine V2_topi (fun v7 ev7 => ?_)
        refine V2_goto (tgt := 35) d_Push_pushOfSet_31 rfl ?_
        refine V2_iadd d_Push_pushOfSet_35 ?_
        refine V2_topi (fun v8 ev8 => ?_)
        refine V2_istore_n (i := 3) (l' := [some (.ref 3), some (.int set), some (.ref 45), some (.int v8), some (.int (nI p))]) d_Push_pushOfSet_36 rfl (xst_r (Nat.le_of_ble_eq_true rfl) rfl rfl) ?_
        obtain ⟨v9, ev9⟩ : ∃ y : Int32, y = nI p + 1 := ⟨_, rfl⟩
        refine V2_iinc (i := 4) (v := v9) (l' := [some (.ref 3), some (.int set), some (.ref 45), some (.int v8), some (.int v9)]) d_Push_pushOfSet_37 rfl (by rw [ev9]; rfl) (xst_i (Nat.le_of_ble_eq_true rfl) rfl rfl) ?_
        refine V2_goto (tgt := 5) d_Push_pushOfSet_40 rfl ?_
        exact V2.to (ih (p + 1) v8 (by omega) (by omega) (by subst ev9 ev8 ev7 ev3 ev1; rw [h3]; exact (sum_in (f := (fun p => pushK (F 5 p) (F 7 p) (F 45 3) (F 45 2) (F 45 5))) (set := set) (xin_t c4)).symm) hQ) rfl (by rw [ev9, nI_1]) rfl rfl
theorem c_Push_pushOfSet_45 {L : Nat} {xs : Nat → Int32} {d : Nat} {Q : Option Value → xF → Prop} {F : xF} {P : Nat} {set : Int32} (hP : F 3 2 = nI P) (hP2 : F 3 2 = nI P) (hl : P ≤ 6) (hQ : Q (some (.int (sumTo (fun p => @ite _ (inSet set p) (Classical.propDecidable _) (pushK (F 5 p) (F 7 p) (F 45 3) (F 45 2) (F 45 5)) 0) P))) F) : V2 L xs (d + 4) m_Push_pushOfSet 0 (xEntry [.ref 3, .int set, .ref 45] 5) [] F Q := by
  refine V2.to (l' := [some (.ref 3), some (.int set), some (.ref 45), none, none]) ?_ rfl rfl rfl rfl
  refine V2_iconst (v := 0) d_Push_pushOfSet_0 rfl ?_
  refine V2_istore_n (i := 3) (l' := [some (.ref 3), some (.int set), some (.ref 45), some (.int (0 : Int32)), none]) d_Push_pushOfSet_1 rfl (xst_r (Nat.le_of_ble_eq_true rfl) rfl rfl) ?_
  refine V2_iconst (v := 0) d_Push_pushOfSet_2 rfl ?_
  refine V2_istore (i := 4) (l' := [some (.ref 3), some (.int set), some (.ref 45), some (.int (0 : Int32)), some (.int (0 : Int32))]) d_Push_pushOfSet_3 (xst_i (Nat.le_of_ble_eq_true rfl) rfl rfl) ?_
  exact c_Push_pushOfSet_45_loop hP hP2 hl (P + 1) 0 0 (by omega) (by omega) rfl hQ
theorem c_Push_weightOfSet_loop {L : Nat} {xs : Nat → Int32} {d : Nat} {Q : Option Value → xF → Prop} {F : xF} {P : Nat} {set : Int32} (hP : F 3 2 = nI P) (hP2 : F 3 2 = nI P) (hl : P ≤ 6) : ∀ (n : Nat) (p : Nat) (v : Int32), p ≤ P → P < n + p → v = sumTo (fun p => @ite _ (inSet set p) (Classical.propDecidable _) (if F 5 p = 6 then F 7 p else 0) 0) p → (Q (some (.int (sumTo (fun p => @ite _ (inSet set p) (Classical.propDecidable _) (if F 5 p = 6 then F 7 p else 0) 0) P))) F) → V2 L xs (d + 4) m_Push_weightOfSet 4 [some (.ref 3), some (.int set), some (.int v), some (.int (nI p))] [] F Q := by
  intro n
  induction n with
  | zero => exact fun p v h1 h2 => absurd h2 (by omega)
  | succ n ih =>
    intro p v h1 h2 h3 hQ
    refine V2_iload_n (i := 3) d_Push_weightOfSet_4 rfl rfl ?_
    refine V2_aload_n (i := 0) d_Push_weightOfSet_5 rfl rfl ?_
    refine V2_get (v := F 3 2) d_Push_weightOfSet_6 fl_Push_16 (by decide) rfl (by decide) rfl rfl ?_
    refine V2_topi (fun v1 ev1 => ?_)
    have eN : v1 = nI P := by
      subst ev1
      exact hP
    rw [eN]
    refine V2_icmp_ge (tgt := 38) d_Push_weightOfSet_9 rfl (fun c2 => ?_) (fun c2 => ?_)
    · refine V2_iload_n (i := 2) d_Push_weightOfSet_38 rfl rfl ?_
      refine V2_ireturn d_Push_weightOfSet_39 rfl ?_
      have hpp : p = P := by
        subst ev1
        exact Nat.le_antisymm h1 ((nI_leI (by omega) (by omega)).mp c2)
      subst hpp
      exact xQi hQ h3 rfl
    · have hp : p < P := Nat.not_le.mp (fun hh => c2 ((nI_leI (by omega) (by omega)).mpr hh))
      refine V2_iload_n (i := 2) d_Push_weightOfSet_12 rfl rfl ?_
      refine V2_iload_n (i := 1) d_Push_weightOfSet_13 rfl rfl ?_
      refine V2_iload_n (i := 3) d_Push_weightOfSet_14 rfl rfl ?_
      refine V2_callS [.int set, .int (nI p)] d_Push_weightOfSet_15 rfl rfl lk_Push_51 mo_Push_isIn (Nat.le_of_ble_eq_true rfl) (Nat.le_of_ble_eq_true rfl) ?_
      refine c_Push_isIn ?_
      refine V2_topi (fun v3 ev3 => ?_)
      refine V2_if_eq (tgt := 29) d_Push_weightOfSet_18 rfl (fun c4 => ?_) (fun c4 => ?_)
      · refine V2_iconst (v := 0) d_Push_weightOfSet_29 rfl ?_
        refine V2_iadd d_Push_weightOfSet_30 ?_
        refine V2_topi (fun v5 ev5 => ?_)
        refine V2_istore_n (i := 2) (l' := [some (.ref 3), some (.int set), some (.int v5), some (.int (nI p))]) d_Push_weightOfSet_31 rfl (xst_i (Nat.le_of_ble_eq_true rfl) rfl rfl) ?_
        obtain ⟨v6, ev6⟩ : ∃ y : Int32, y = nI p + 1 := ⟨_, rfl⟩
        refine V2_iinc (i := 3) (v := v6) (l' := [some (.ref 3), some (.int set), some (.int v5), some (.int v6)]) d_Push_weightOfSet_32 rfl (by rw [ev6]; rfl) (xst_i (Nat.le_of_ble_eq_true rfl) rfl rfl) ?_
        refine V2_goto (tgt := 4) d_Push_weightOfSet_35 rfl ?_
        exact V2.to (ih (p + 1) v5 (by omega) (by omega) (by subst ev6 ev5 ev3 ev1; rw [h3]; exact (sum_out (f := (fun p => if F 5 p = 6 then F 7 p else 0)) (set := set) (xin_f c4)).symm) hQ) rfl (by rw [ev6, nI_1]) rfl rfl
      · refine V2_aload_n (i := 0) d_Push_weightOfSet_21 rfl rfl ?_
        refine V2_iload_n (i := 3) d_Push_weightOfSet_22 rfl rfl ?_
        refine V2_callV [.int (nI p)] d_Push_weightOfSet_23 rfl rfl lk_Push_55 mo_Push_weightOf (by decide) rfl rfl rfl (Nat.le_of_ble_eq_true rfl) (Nat.le_of_ble_eq_true rfl) ?_
        refine c_Push_weightOf hP hP2 hl hp ?_
        refine V2_topi (fun v7 ev7 => ?_)
        refine V2_goto (tgt := 30) d_Push_weightOfSet_26 rfl ?_
        refine V2_iadd d_Push_weightOfSet_30 ?_
        refine V2_topi (fun v8 ev8 => ?_)
        refine V2_istore_n (i := 2) (l' := [some (.ref 3), some (.int set), some (.int v8), some (.int (nI p))]) d_Push_weightOfSet_31 rfl (xst_i (Nat.le_of_ble_eq_true rfl) rfl rfl) ?_
        obtain ⟨v9, ev9⟩ : ∃ y : Int32, y = nI p + 1 := ⟨_, rfl⟩
        refine V2_iinc (i := 3) (v := v9) (l' := [some (.ref 3), some (.int set), some (.int v8), some (.int v9)]) d_Push_weightOfSet_32 rfl (by rw [ev9]; rfl) (xst_i (Nat.le_of_ble_eq_true rfl) rfl rfl) ?_
        refine V2_goto (tgt := 4) d_Push_weightOfSet_35 rfl ?_
        exact V2.to (ih (p + 1) v8 (by omega) (by omega) (by subst ev9 ev8 ev7 ev3 ev1; rw [h3]; exact (sum_in (f := (fun p => if F 5 p = 6 then F 7 p else 0)) (set := set) (xin_t c4)).symm) hQ) rfl (by rw [ev9, nI_1]) rfl rfl
theorem c_Push_weightOfSet {L : Nat} {xs : Nat → Int32} {d : Nat} {Q : Option Value → xF → Prop} {F : xF} {P : Nat} {set : Int32} (hP : F 3 2 = nI P) (hP2 : F 3 2 = nI P) (hl : P ≤ 6) (hQ : Q (some (.int (sumTo (fun p => @ite _ (inSet set p) (Classical.propDecidable _) (if F 5 p = 6 then F 7 p else 0) 0) P))) F) : V2 L xs (d + 4) m_Push_weightOfSet 0 (xEntry [.ref 3, .int set] 4) [] F Q := by
  refine V2.to (l' := [some (.ref 3), some (.int set), none, none]) ?_ rfl rfl rfl rfl
  refine V2_iconst (v := 0) d_Push_weightOfSet_0 rfl ?_
  refine V2_istore_n (i := 2) (l' := [some (.ref 3), some (.int set), some (.int (0 : Int32)), none]) d_Push_weightOfSet_1 rfl (xst_i (Nat.le_of_ble_eq_true rfl) rfl rfl) ?_
  refine V2_iconst (v := 0) d_Push_weightOfSet_2 rfl ?_
  refine V2_istore_n (i := 3) (l' := [some (.ref 3), some (.int set), some (.int (0 : Int32)), some (.int (0 : Int32))]) d_Push_weightOfSet_3 rfl (xst_i (Nat.le_of_ble_eq_true rfl) rfl rfl) ?_
  exact c_Push_weightOfSet_loop hP hP2 hl (P + 1) 0 0 (by omega) (by omega) rfl hQ
