/-! the calls that only read: told, count, carIs, body -/
theorem mid_same {F : xF} (h : Rel F) : Mid F F F := ⟨fun _ _ => rfl, h.1⟩
theorem rel_same {F0 F : xF} (h : Rel F0) (hM : Mid F0 F F0) : Rel F := rel_end hM (fun _ _ => rfl) (fun k hk => hM.1 k (by omega)) h.2
theorem vin_of {x : Int32} {n : Nat} (h1 : 0 ≤ x.toInt) (h2 : x.toInt < n) : vp_in x n := by
  rw [vp_in_iff]
  omega
def k_told (F : xF) (k : Int32) : Int32 × xF := if 1 ≤ k ∧ k ≤ 6 then (F 69 k.toNatClampNeg, F) else (-1000000000 - 1, errF F 1)
def k_carIs (F : xF) (k : Int32) : Int32 × xF := if 0 ≤ k ∧ k ≤ 6 then (F 66 k.toNatClampNeg, F) else (-1000000000 - 1, errF F 1)
def k_count (F : xF) (w : Int32) : Int32 × xF := if w = 0 then (F 66 11, F) else if w = 1 then (F 66 7, F) else if w = 2 then (F 66 9, F) else if w = 3 then (F 66 10, F) else if w = 4 then (F 65 15, F) else if w = 5 then (F 66 8, F) else (-1000000000 - 1, errF F 1)
theorem lt7_of {k : Int32} (h : 1 ≤ k ∧ k ≤ 6) : k.toNatClampNeg < 7 := by
  have q1 : (1 : Int32).toInt = 1 := by decide
  have q6 : (6 : Int32).toInt = 6 := by decide
  rw [Int32.le_iff_toInt_le, Int32.le_iff_toInt_le] at h
  show k.toInt.toNat < 7
  omega
theorem c_cls_told {L : Nat} {xs : Nat → Int32} {d : Nat} {Q : Option Value → xF → Prop} {F : xF} {k : Int32} (hR : Rel F) (hQ : ∀ F1, Mid F F1 (k_told F k).2 → Q (some (.int (k_told F k).1)) F1) : V2 L xs (d + 1) m_P_told 0 (xEntry [.ref 0, .int k] 2) [] F Q := by
  have q0 : (0 : Int32).toInt = 0 := by decide
  have q1 : (1 : Int32).toInt = 1 := by decide
  have q2 : (2 : Int32).toInt = 2 := by decide
  have q3 : (3 : Int32).toInt = 3 := by decide
  have q4 : (4 : Int32).toInt = 4 := by decide
  have q5 : (5 : Int32).toInt = 5 := by decide
  have q6 : (6 : Int32).toInt = 6 := by decide
  have q7 : (7 : Int32).toInt = 7 := by decide
  have q9 : (9 : Int32).toInt = 9 := by decide
  have q20 : (20 : Int32).toInt = 20 := by decide
  have q30 : (30 : Int32).toInt = 30 := by decide
  have q60 : (60 : Int32).toInt = 60 := by decide
  have q99 : (99 : Int32).toInt = 99 := by decide
  refine V2.to (l' := [some (.ref 0), some (.int k)]) ?_ rfl rfl rfl rfl
  refine V2_iload_n (i := 1) d_P_told_0 rfl rfl ?_
  refine V2_iconst (v := 1) d_P_told_1 rfl ?_
  refine V2_bipush (v := 6) d_P_told_2 rfl ?_
  refine V2_callS [.int k, .int (1 : Int32), .int (6 : Int32)] d_P_told_4 rfl rfl lk_P_133 mo_P_within (Nat.le_of_ble_eq_true rfl) (Nat.le_of_ble_eq_true rfl) ?_
  refine V2.to (l' := [some (.int k), some (.int (1 : Int32)), some (.int (6 : Int32))]) ?_ rfl rfl rfl rfl
  refine V2_iload_n (i := 0) d_P_within_0 rfl rfl ?_
  refine V2_iload_n (i := 1) d_P_within_1 rfl rfl ?_
  refine V2_icmp_lt (tgt := 14) d_P_within_2 rfl (fun c1 => ?_) (fun c1 => ?_)
  · refine V2_iconst (v := 0) d_P_within_14 rfl ?_
    refine V2_zreturn d_P_within_15 rfl (by decide) ?_
    refine V2.to (st' := [.int (0 : Int32)]) ?_ rfl rfl rfl rfl
    refine V2_if_eq (tgt := 19) d_P_told_7 rfl (fun _ => ?_) (fun c => (by first | exact absurd c (by decide) | exact absurd (by decide) c))
    refine V2_aload_n (i := 0) d_P_told_19 rfl rfl ?_
    refine V2_iconst (v := 1) d_P_told_20 rfl ?_
    refine V2_callV [.int (1 : Int32)] d_P_told_21 rfl rfl lk_P_66 mo_P_fails (by decide) rfl rfl rfl (Nat.le_of_ble_eq_true rfl) (Nat.le_of_ble_eq_true rfl) ?_
    refine c_P_fails1 ?_
    refine V2_topi (fun v2 ev2 => ?_)
    refine V2_ireturn d_P_told_24 rfl ?_
    have hb : ¬ (1 ≤ k ∧ k ≤ 6) := (by clear hQ; (try (subst ev2)); (try simp only [xb_eq, xb_ne, Int32.lt_iff_toInt_lt, Int32.le_iff_toInt_le] at *); omega)
    have e : k_told F k = (-1000000000 - 1, errF F 1) := if_neg hb
    rw [e] at hQ
    subst ev2
    exact xQi (hQ _ (mid_err hR (by decide))) rfl rfl
  · refine V2_iload_n (i := 0) d_P_within_5 rfl rfl ?_
    refine V2_iload_n (i := 2) d_P_within_6 rfl rfl ?_
    refine V2_icmp_gt (tgt := 14) d_P_within_7 rfl (fun c3 => ?_) (fun c3 => ?_)
    · refine V2_iconst (v := 0) d_P_within_14 rfl ?_
      refine V2_zreturn d_P_within_15 rfl (by decide) ?_
      refine V2.to (st' := [.int (0 : Int32)]) ?_ rfl rfl rfl rfl
      refine V2_if_eq (tgt := 19) d_P_told_7 rfl (fun _ => ?_) (fun c => (by first | exact absurd c (by decide) | exact absurd (by decide) c))
      refine V2_aload_n (i := 0) d_P_told_19 rfl rfl ?_
      refine V2_iconst (v := 1) d_P_told_20 rfl ?_
      refine V2_callV [.int (1 : Int32)] d_P_told_21 rfl rfl lk_P_66 mo_P_fails (by decide) rfl rfl rfl (Nat.le_of_ble_eq_true rfl) (Nat.le_of_ble_eq_true rfl) ?_
      refine c_P_fails1 ?_
      refine V2_topi (fun v4 ev4 => ?_)
      refine V2_ireturn d_P_told_24 rfl ?_
      have hb : ¬ (1 ≤ k ∧ k ≤ 6) := (by clear hQ; (try (subst ev4)); (try simp only [xb_eq, xb_ne, Int32.lt_iff_toInt_lt, Int32.le_iff_toInt_le] at *); omega)
      have e : k_told F k = (-1000000000 - 1, errF F 1) := if_neg hb
      rw [e] at hQ
      subst ev4
      exact xQi (hQ _ (mid_err hR (by decide))) rfl rfl
    · refine V2_iconst (v := 1) d_P_within_10 rfl ?_
      refine V2_goto (tgt := 15) d_P_within_11 rfl ?_
      refine V2_zreturn d_P_within_15 rfl (by decide) ?_
      refine V2.to (st' := [.int (1 : Int32)]) ?_ rfl rfl rfl rfl
      refine V2_if_eq (tgt := 19) d_P_told_7 rfl (fun c => (by first | exact absurd c (by decide) | exact absurd (by decide) c)) (fun _ => ?_)
      refine V2_iload_n (i := 1) d_P_told_10 rfl rfl ?_
      refine V2_aload_n (i := 0) d_P_told_11 rfl rfl ?_
      refine V2_getr (a := 56) d_P_told_12 fl_P_53 (by decide) rfl (by decide) rfl ?_
      refine V2_alen (t := 0) (v := 7) d_P_told_15 (by decide) rfl (by decide) rfl ?_
      refine V2_icmp_lt (tgt := 25) d_P_told_16 rfl (fun c5 => ?_) (fun c5 => ?_)
      · refine V2_aload_n (i := 0) d_P_told_25 rfl rfl ?_
        refine V2_getr (a := 56) d_P_told_26 fl_P_53 (by decide) rfl (by decide) rfl ?_
        refine V2_iload_n (i := 1) d_P_told_29 rfl rfl ?_
        refine V2_ialoadJ k.toNatClampNeg d_P_told_30 (by decide) rfl (vin_of (by clear hQ; (try (skip)); (try simp only [xb_eq, xb_ne, Int32.lt_iff_toInt_lt, Int32.le_iff_toInt_le] at *); omega) (by clear hQ; (try (skip)); (try simp only [xb_eq, xb_ne, Int32.lt_iff_toInt_lt, Int32.le_iff_toInt_le] at *); omega)) rfl rfl ?_
        refine V2_topi (fun v6 ev6 => ?_)
        refine V2_ireturn d_P_told_31 rfl ?_
        have hb : 1 ≤ k ∧ k ≤ 6 := (by clear hQ; (try (subst ev6)); (try simp only [xb_eq, xb_ne, Int32.lt_iff_toInt_lt, Int32.le_iff_toInt_le] at *); omega)
        have e : k_told F k = (F 69 k.toNatClampNeg, F) := if_pos hb
        rw [e] at hQ
        subst ev6
        exact xQi (hQ F (mid_same hR)) (hR.1.2.2.1 _ (lt7_of hb)) rfl
      · refine V2_aload_n (i := 0) d_P_told_19 rfl rfl ?_
        refine V2_iconst (v := 1) d_P_told_20 rfl ?_
        refine V2_callV [.int (1 : Int32)] d_P_told_21 rfl rfl lk_P_66 mo_P_fails (by decide) rfl rfl rfl (Nat.le_of_ble_eq_true rfl) (Nat.le_of_ble_eq_true rfl) ?_
        refine c_P_fails1 ?_
        refine V2_topi (fun v7 ev7 => ?_)
        refine V2_ireturn d_P_told_24 rfl ?_
        have hb : ¬ (1 ≤ k ∧ k ≤ 6) := (by clear hQ; (try (subst ev7)); (try simp only [xb_eq, xb_ne, Int32.lt_iff_toInt_lt, Int32.le_iff_toInt_le] at *); omega)
        have e : k_told F k = (-1000000000 - 1, errF F 1) := if_neg hb
        rw [e] at hQ
        subst ev7
        exact xQi (hQ _ (mid_err hR (by decide))) rfl rfl
theorem c_mod_told {L : Nat} {xs : Nat → Int32} {d : Nat} {Q : Option Value → xF → Prop} {F : xF} {k : Int32} {F0 : xF} (hR : Rel F0) (hM : Mid F0 F (k_told F0 k).2) (hQ : ∀ F2, Rel F2 → Q (some (.int (k_told F0 k).1)) F2) : V2 L xs (d + 1) m_R_told 0 (xEntry [.ref 65, .int k] 2) [] F Q := by
  have q0 : (0 : Int32).toInt = 0 := by decide
  have q1 : (1 : Int32).toInt = 1 := by decide
  have q2 : (2 : Int32).toInt = 2 := by decide
  have q3 : (3 : Int32).toInt = 3 := by decide
  have q4 : (4 : Int32).toInt = 4 := by decide
  have q5 : (5 : Int32).toInt = 5 := by decide
  have q6 : (6 : Int32).toInt = 6 := by decide
  have q7 : (7 : Int32).toInt = 7 := by decide
  have q9 : (9 : Int32).toInt = 9 := by decide
  have q20 : (20 : Int32).toInt = 20 := by decide
  have q30 : (30 : Int32).toInt = 30 := by decide
  have q60 : (60 : Int32).toInt = 60 := by decide
  have q99 : (99 : Int32).toInt = 99 := by decide
  refine V2.to (l' := [some (.ref 65), some (.int k)]) ?_ rfl rfl rfl rfl
  refine V2_iload_n (i := 1) d_R_told_0 rfl rfl ?_
  refine V2_iconst (v := 1) d_R_told_1 rfl ?_
  refine V2_bipush (v := 6) d_R_told_2 rfl ?_
  refine V2_callS [.int k, .int (1 : Int32), .int (6 : Int32)] d_R_told_4 rfl rfl lk_R_51 mo_R_in (Nat.le_of_ble_eq_true rfl) (Nat.le_of_ble_eq_true rfl) ?_
  refine c_R_in ?_
  refine V2_topi (fun v1 ev1 => ?_)
  refine V2_if_eq (tgt := 19) d_R_told_7 rfl (fun c2 => ?_) (fun c2 => ?_)
  · refine V2_aload_n (i := 0) d_R_told_19 rfl rfl ?_
    refine V2_iconst (v := 1) d_R_told_20 rfl ?_
    refine V2_callV [.int (1 : Int32)] d_R_told_21 rfl rfl lk_R_55 mo_R_error (by decide) rfl rfl rfl (Nat.le_of_ble_eq_true rfl) (Nat.le_of_ble_eq_true rfl) ?_
    refine c_R_error1 ?_
    refine V2_topi (fun v3 ev3 => ?_)
    refine V2_ireturn d_R_told_24 rfl ?_
    have hb : ¬ (1 ≤ k ∧ k ≤ 6) := (by clear hQ; (try (subst ev3 ev1)); (try simp only [xb_eq, xb_ne, Int32.lt_iff_toInt_lt, Int32.le_iff_toInt_le] at *); omega)
    have e : k_told F0 k = (-1000000000 - 1, errF F0 1) := if_neg hb
    rw [e] at hQ hM
    subst ev3 ev1
    exact xQi (hQ _ (rel_err hR hM)) rfl rfl
  · refine V2_aload_n (i := 0) d_R_told_10 rfl rfl ?_
    refine V2_getr (a := 69) d_R_told_11 fl_R_19 (by decide) rfl (by decide) rfl ?_
    refine V2_iload_n (i := 1) d_R_told_14 rfl rfl ?_
    refine V2_ialoadJ k.toNatClampNeg d_R_told_15 (by decide) rfl (vin_of (by clear hQ; (try (subst ev1)); (try simp only [xb_eq, xb_ne, Int32.lt_iff_toInt_lt, Int32.le_iff_toInt_le] at *); omega) (by clear hQ; (try (subst ev1)); (try simp only [xb_eq, xb_ne, Int32.lt_iff_toInt_lt, Int32.le_iff_toInt_le] at *); omega)) rfl rfl ?_
    refine V2_topi (fun v4 ev4 => ?_)
    refine V2_goto (tgt := 24) d_R_told_16 rfl ?_
    refine V2_ireturn d_R_told_24 rfl ?_
    have hb : 1 ≤ k ∧ k ≤ 6 := (by clear hQ; (try (subst ev4 ev1)); (try simp only [xb_eq, xb_ne, Int32.lt_iff_toInt_lt, Int32.le_iff_toInt_le] at *); omega)
    have e : k_told F0 k = (F0 69 k.toNatClampNeg, F0) := if_pos hb
    rw [e] at hQ hM
    subst ev4 ev1
    exact xQi (hQ F (rel_same hR hM)) (congrFun (hM.1 69 (by decide)) _) rfl
theorem c_cls_count {L : Nat} {xs : Nat → Int32} {d : Nat} {Q : Option Value → xF → Prop} {F : xF} {w : Int32} (hR : Rel F) (hQ : ∀ F1, Mid F F1 (k_count F w).2 → Q (some (.int (k_count F w).1)) F1) : V2 L xs (d + 2) m_P_count 0 (xEntry [.ref 0, .int w] 2) [] F Q := by
  refine V2.to (l' := [some (.ref 0), some (.int w)]) ?_ rfl rfl rfl rfl
  refine V2_iload_n (i := 1) d_P_count_0 rfl rfl ?_
  by_cases c1_0 : w = 0
  · refine V2_tableIn (tgt := 40) (off := 39) d_P_count_1 (by rw [c1_0]; decide) (by rw [c1_0]; decide) (by rw [c1_0]; decide) rfl ?_
    refine V2_aload_n (i := 0) d_P_count_40 rfl rfl ?_
    refine V2_getr (a := 1) d_P_count_41 fl_P_10 (by decide) rfl (by decide) rfl ?_
    refine V2_getr (a := 3) d_P_count_44 fl_P_70 (by decide) rfl (by decide) rfl ?_
    refine V2_callV [] d_P_count_47 rfl rfl lk_P_116 mo_Push_size (by decide) rfl rfl rfl (Nat.le_of_ble_eq_true rfl) (Nat.le_of_ble_eq_true rfl) ?_
    refine V2.to (l' := [some (.ref 3)]) ?_ rfl rfl rfl rfl
    refine V2_aload_n (i := 0) d_Push_size_0 rfl rfl ?_
    refine V2_get (v := F 3 2) d_Push_size_1 fl_Push_16 (by decide) rfl (by decide) rfl rfl ?_
    refine V2_topi (fun v2 ev2 => ?_)
    refine V2_ireturn d_Push_size_4 rfl ?_
    refine V2.to (st' := [.int v2]) ?_ rfl rfl rfl rfl
    refine V2_ireturn d_P_count_50 rfl ?_
    subst c1_0
    have e : k_count F 0 = (F 66 11, F) := by unfold k_count; rw [if_pos rfl]
    rw [e] at hQ
    subst ev2
    exact xQi (hQ F (mid_same hR)) (hR.1.1.2.1.1) rfl
  by_cases c1_1 : w = 1
  · refine V2_tableIn (tgt := 51) (off := 50) d_P_count_1 (by rw [c1_1]; decide) (by rw [c1_1]; decide) (by rw [c1_1]; decide) rfl ?_
    refine V2_aload_n (i := 0) d_P_count_51 rfl rfl ?_
    refine V2_getr (a := 1) d_P_count_52 fl_P_10 (by decide) rfl (by decide) rfl ?_
    refine V2_getr (a := 2) d_P_count_55 fl_P_93 (by decide) rfl (by decide) rfl ?_
    refine V2_get (v := F 2 5) d_P_count_58 fl_P_337 (by decide) rfl (by decide) rfl rfl ?_
    refine V2_topi (fun v3 ev3 => ?_)
    refine V2_ireturn d_P_count_61 rfl ?_
    subst c1_1
    have e : k_count F 1 = (F 66 7, F) := by unfold k_count; rw [if_neg (by decide), if_pos rfl]
    rw [e] at hQ
    subst ev3
    exact xQi (hQ F (mid_same hR)) (hR.1.1.1.2.2.2.2.2.1) rfl
  by_cases c1_2 : w = 2
  · refine V2_tableIn (tgt := 62) (off := 61) d_P_count_1 (by rw [c1_2]; decide) (by rw [c1_2]; decide) (by rw [c1_2]; decide) rfl ?_
    refine V2_aload_n (i := 0) d_P_count_62 rfl rfl ?_
    refine V2_getr (a := 1) d_P_count_63 fl_P_10 (by decide) rfl (by decide) rfl ?_
    refine V2_getr (a := 14) d_P_count_66 fl_P_144 (by decide) rfl (by decide) rfl ?_
    refine V2_callV [] d_P_count_69 rfl rfl lk_P_157 mo_Nums_size (by decide) rfl rfl rfl (Nat.le_of_ble_eq_true rfl) (Nat.le_of_ble_eq_true rfl) ?_
    refine V2.to (l' := [some (.ref 14)]) ?_ rfl rfl rfl rfl
    refine V2_aload_n (i := 0) d_Nums_size_0 rfl rfl ?_
    refine V2_get (v := F 14 1) d_Nums_size_1 fl_Nums_7 (by decide) rfl (by decide) rfl rfl ?_
    refine V2_topi (fun v4 ev4 => ?_)
    refine V2_ireturn d_Nums_size_4 rfl ?_
    refine V2.to (st' := [.int v4]) ?_ rfl rfl rfl rfl
    refine V2_ireturn d_P_count_72 rfl ?_
    subst c1_2
    have e : k_count F 2 = (F 66 9, F) := by unfold k_count; rw [if_neg (by decide), if_neg (by decide), if_pos rfl]
    rw [e] at hQ
    subst ev4
    exact xQi (hQ F (mid_same hR)) (hR.1.1.2.2.2.2.1.1) rfl
  by_cases c1_3 : w = 3
  · refine V2_tableIn (tgt := 73) (off := 72) d_P_count_1 (by rw [c1_3]; decide) (by rw [c1_3]; decide) (by rw [c1_3]; decide) rfl ?_
    refine V2_aload_n (i := 0) d_P_count_73 rfl rfl ?_
    refine V2_getr (a := 1) d_P_count_74 fl_P_10 (by decide) rfl (by decide) rfl ?_
    refine V2_getr (a := 16) d_P_count_77 fl_P_340 (by decide) rfl (by decide) rfl ?_
    refine V2_callV [] d_P_count_80 rfl rfl lk_P_157 mo_Nums_size (by decide) rfl rfl rfl (Nat.le_of_ble_eq_true rfl) (Nat.le_of_ble_eq_true rfl) ?_
    refine V2.to (l' := [some (.ref 16)]) ?_ rfl rfl rfl rfl
    refine V2_aload_n (i := 0) d_Nums_size_0 rfl rfl ?_
    refine V2_get (v := F 16 1) d_Nums_size_1 fl_Nums_7 (by decide) rfl (by decide) rfl rfl ?_
    refine V2_topi (fun v5 ev5 => ?_)
    refine V2_ireturn d_Nums_size_4 rfl ?_
    refine V2.to (st' := [.int v5]) ?_ rfl rfl rfl rfl
    refine V2_ireturn d_P_count_83 rfl ?_
    subst c1_3
    have e : k_count F 3 = (F 66 10, F) := by unfold k_count; rw [if_neg (by decide), if_neg (by decide), if_neg (by decide), if_pos rfl]
    rw [e] at hQ
    subst ev5
    exact xQi (hQ F (mid_same hR)) (hR.1.1.2.2.2.2.2.1.1) rfl
  by_cases c1_4 : w = 4
  · refine V2_tableIn (tgt := 84) (off := 83) d_P_count_1 (by rw [c1_4]; decide) (by rw [c1_4]; decide) (by rw [c1_4]; decide) rfl ?_
    refine V2_aload_n (i := 0) d_P_count_84 rfl rfl ?_
    refine V2_getr (a := 52) d_P_count_85 fl_P_43 (by decide) rfl (by decide) rfl ?_
    refine V2_callV [] d_P_count_88 rfl rfl lk_P_300 mo_Voi_trace (by decide) rfl rfl rfl (Nat.le_of_ble_eq_true rfl) (Nat.le_of_ble_eq_true rfl) ?_
    refine V2.to (l' := [some (.ref 52)]) ?_ rfl rfl rfl rfl
    refine V2_aload_n (i := 0) d_Voi_trace_0 rfl rfl ?_
    refine V2_getr (a := 53) d_Voi_trace_1 fl_Voi_14 (by decide) rfl (by decide) rfl ?_
    refine V2_areturn d_Voi_trace_4 rfl (Or.inl ⟨_, rfl⟩) ?_
    refine V2.to (st' := [.ref 53]) ?_ rfl rfl rfl rfl
    refine V2_callV [] d_P_count_91 rfl rfl lk_P_157 mo_Nums_size (by decide) rfl rfl rfl (Nat.le_of_ble_eq_true rfl) (Nat.le_of_ble_eq_true rfl) ?_
    refine V2.to (l' := [some (.ref 53)]) ?_ rfl rfl rfl rfl
    refine V2_aload_n (i := 0) d_Nums_size_0 rfl rfl ?_
    refine V2_get (v := F 53 1) d_Nums_size_1 fl_Nums_7 (by decide) rfl (by decide) rfl rfl ?_
    refine V2_topi (fun v6 ev6 => ?_)
    refine V2_ireturn d_Nums_size_4 rfl ?_
    refine V2.to (st' := [.int v6]) ?_ rfl rfl rfl rfl
    refine V2_ireturn d_P_count_94 rfl ?_
    subst c1_4
    have e : k_count F 4 = (F 65 15, F) := by unfold k_count; rw [if_neg (by decide), if_neg (by decide), if_neg (by decide), if_neg (by decide), if_pos rfl]
    rw [e] at hQ
    subst ev6
    exact xQi (hQ F (mid_same hR)) (hR.1.2.2.2.2.1) rfl
  by_cases c1_5 : w = 5
  · refine V2_tableIn (tgt := 95) (off := 94) d_P_count_1 (by rw [c1_5]; decide) (by rw [c1_5]; decide) (by rw [c1_5]; decide) rfl ?_
    refine V2_aload_n (i := 0) d_P_count_95 rfl rfl ?_
    refine V2_getr (a := 1) d_P_count_96 fl_P_10 (by decide) rfl (by decide) rfl ?_
    refine V2_get (v := F 1 6) d_P_count_99 fl_P_202 (by decide) rfl (by decide) rfl rfl ?_
    refine V2_topi (fun v7 ev7 => ?_)
    refine V2_ireturn d_P_count_102 rfl ?_
    subst c1_5
    have e : k_count F 5 = (F 66 8, F) := by unfold k_count; rw [if_neg (by decide), if_neg (by decide), if_neg (by decide), if_neg (by decide), if_neg (by decide), if_pos rfl]
    rw [e] at hQ
    subst ev7
    exact xQi (hQ F (mid_same hR)) (hR.1.1.2.2.2.2.2.2) rfl
  refine V2_tableOut (tgt := 103) d_P_count_1 (by have := lv_neT (a := 0) c1_0 rfl; have := lv_neT (a := 1) c1_1 rfl; have := lv_neT (a := 2) c1_2 rfl; have := lv_neT (a := 3) c1_3 rfl; have := lv_neT (a := 4) c1_4 rfl; have := lv_neT (a := 5) c1_5 rfl; omega) rfl ?_
  refine V2_aload_n (i := 0) d_P_count_103 rfl rfl ?_
  refine V2_iconst (v := 1) d_P_count_104 rfl ?_
  refine V2_callV [.int (1 : Int32)] d_P_count_105 rfl rfl lk_P_66 mo_P_fails (by decide) rfl rfl rfl (Nat.le_of_ble_eq_true rfl) (Nat.le_of_ble_eq_true rfl) ?_
  refine c_P_fails1 ?_
  refine V2_topi (fun v8 ev8 => ?_)
  refine V2_ireturn d_P_count_108 rfl ?_
  have e : k_count F w = (-1000000000 - 1, errF F 1) := by unfold k_count; rw [if_neg c1_0, if_neg c1_1, if_neg c1_2, if_neg c1_3, if_neg c1_4, if_neg c1_5]
  rw [e] at hQ
  subst ev8
  exact xQi (hQ _ (mid_err hR (by decide))) rfl rfl
theorem c_mod_count {L : Nat} {xs : Nat → Int32} {d : Nat} {Q : Option Value → xF → Prop} {F : xF} {w : Int32} {F0 : xF} (hR : Rel F0) (hM : Mid F0 F (k_count F0 w).2) (hQ : ∀ F2, Rel F2 → Q (some (.int (k_count F0 w).1)) F2) : V2 L xs (d + 1) m_R_count 0 (xEntry [.ref 65, .int w] 2) [] F Q := by
  refine V2.to (l' := [some (.ref 65), some (.int w)]) ?_ rfl rfl rfl rfl
  refine V2_iload_n (i := 1) d_R_count_0 rfl rfl ?_
  by_cases c1_0 : w = 0
  · refine V2_tableIn (tgt := 40) (off := 39) d_R_count_1 (by rw [c1_0]; decide) (by rw [c1_0]; decide) (by rw [c1_0]; decide) rfl ?_
    refine V2_aload_n (i := 0) d_R_count_40 rfl rfl ?_
    refine V2_getr (a := 66) d_R_count_41 fl_R_7 (by decide) rfl (by decide) rfl ?_
    refine V2_bipush (v := 11) d_R_count_44 rfl ?_
    refine V2_iaload (v := F 66 11) d_R_count_46 (by decide) rfl (xixA (n := 11) rfl (by decide) (by decide)) rfl ?_
    refine V2_topi (fun v2 ev2 => ?_)
    refine V2_ireturn d_R_count_47 rfl ?_
    subst c1_0
    have e : k_count F0 0 = (F0 66 11, F0) := by unfold k_count; rw [if_pos rfl]
    rw [e] at hQ hM
    subst ev2
    exact xQi (hQ F (rel_same hR hM)) (congrFun (hM.1 66 (by decide)) 11) rfl
  by_cases c1_1 : w = 1
  · refine V2_tableIn (tgt := 48) (off := 47) d_R_count_1 (by rw [c1_1]; decide) (by rw [c1_1]; decide) (by rw [c1_1]; decide) rfl ?_
    refine V2_aload_n (i := 0) d_R_count_48 rfl rfl ?_
    refine V2_getr (a := 66) d_R_count_49 fl_R_7 (by decide) rfl (by decide) rfl ?_
    refine V2_bipush (v := 7) d_R_count_52 rfl ?_
    refine V2_iaload (v := F 66 7) d_R_count_54 (by decide) rfl (xixA (n := 7) rfl (by decide) (by decide)) rfl ?_
    refine V2_topi (fun v3 ev3 => ?_)
    refine V2_ireturn d_R_count_55 rfl ?_
    subst c1_1
    have e : k_count F0 1 = (F0 66 7, F0) := by unfold k_count; rw [if_neg (by decide), if_pos rfl]
    rw [e] at hQ hM
    subst ev3
    exact xQi (hQ F (rel_same hR hM)) (congrFun (hM.1 66 (by decide)) 7) rfl
  by_cases c1_2 : w = 2
  · refine V2_tableIn (tgt := 56) (off := 55) d_R_count_1 (by rw [c1_2]; decide) (by rw [c1_2]; decide) (by rw [c1_2]; decide) rfl ?_
    refine V2_aload_n (i := 0) d_R_count_56 rfl rfl ?_
    refine V2_getr (a := 66) d_R_count_57 fl_R_7 (by decide) rfl (by decide) rfl ?_
    refine V2_bipush (v := 9) d_R_count_60 rfl ?_
    refine V2_iaload (v := F 66 9) d_R_count_62 (by decide) rfl (xixA (n := 9) rfl (by decide) (by decide)) rfl ?_
    refine V2_topi (fun v4 ev4 => ?_)
    refine V2_ireturn d_R_count_63 rfl ?_
    subst c1_2
    have e : k_count F0 2 = (F0 66 9, F0) := by unfold k_count; rw [if_neg (by decide), if_neg (by decide), if_pos rfl]
    rw [e] at hQ hM
    subst ev4
    exact xQi (hQ F (rel_same hR hM)) (congrFun (hM.1 66 (by decide)) 9) rfl
  by_cases c1_3 : w = 3
  · refine V2_tableIn (tgt := 64) (off := 63) d_R_count_1 (by rw [c1_3]; decide) (by rw [c1_3]; decide) (by rw [c1_3]; decide) rfl ?_
    refine V2_aload_n (i := 0) d_R_count_64 rfl rfl ?_
    refine V2_getr (a := 66) d_R_count_65 fl_R_7 (by decide) rfl (by decide) rfl ?_
    refine V2_bipush (v := 10) d_R_count_68 rfl ?_
    refine V2_iaload (v := F 66 10) d_R_count_70 (by decide) rfl (xixA (n := 10) rfl (by decide) (by decide)) rfl ?_
    refine V2_topi (fun v5 ev5 => ?_)
    refine V2_ireturn d_R_count_71 rfl ?_
    subst c1_3
    have e : k_count F0 3 = (F0 66 10, F0) := by unfold k_count; rw [if_neg (by decide), if_neg (by decide), if_neg (by decide), if_pos rfl]
    rw [e] at hQ hM
    subst ev5
    exact xQi (hQ F (rel_same hR hM)) (congrFun (hM.1 66 (by decide)) 10) rfl
  by_cases c1_4 : w = 4
  · refine V2_tableIn (tgt := 72) (off := 71) d_R_count_1 (by rw [c1_4]; decide) (by rw [c1_4]; decide) (by rw [c1_4]; decide) rfl ?_
    refine V2_aload_n (i := 0) d_R_count_72 rfl rfl ?_
    refine V2_get (v := F 65 15) d_R_count_73 fl_R_227 (by decide) rfl (by decide) rfl rfl ?_
    refine V2_topi (fun v6 ev6 => ?_)
    refine V2_ireturn d_R_count_76 rfl ?_
    subst c1_4
    have e : k_count F0 4 = (F0 65 15, F0) := by unfold k_count; rw [if_neg (by decide), if_neg (by decide), if_neg (by decide), if_neg (by decide), if_pos rfl]
    rw [e] at hQ hM
    subst ev6
    exact xQi (hQ F (rel_same hR hM)) (congrFun (hM.1 65 (by decide)) 15) rfl
  by_cases c1_5 : w = 5
  · refine V2_tableIn (tgt := 77) (off := 76) d_R_count_1 (by rw [c1_5]; decide) (by rw [c1_5]; decide) (by rw [c1_5]; decide) rfl ?_
    refine V2_aload_n (i := 0) d_R_count_77 rfl rfl ?_
    refine V2_getr (a := 66) d_R_count_78 fl_R_7 (by decide) rfl (by decide) rfl ?_
    refine V2_bipush (v := 8) d_R_count_81 rfl ?_
    refine V2_iaload (v := F 66 8) d_R_count_83 (by decide) rfl (xixA (n := 8) rfl (by decide) (by decide)) rfl ?_
    refine V2_topi (fun v7 ev7 => ?_)
    refine V2_ireturn d_R_count_84 rfl ?_
    subst c1_5
    have e : k_count F0 5 = (F0 66 8, F0) := by unfold k_count; rw [if_neg (by decide), if_neg (by decide), if_neg (by decide), if_neg (by decide), if_neg (by decide), if_pos rfl]
    rw [e] at hQ hM
    subst ev7
    exact xQi (hQ F (rel_same hR hM)) (congrFun (hM.1 66 (by decide)) 8) rfl
  refine V2_tableOut (tgt := 85) d_R_count_1 (by have := lv_neT (a := 0) c1_0 rfl; have := lv_neT (a := 1) c1_1 rfl; have := lv_neT (a := 2) c1_2 rfl; have := lv_neT (a := 3) c1_3 rfl; have := lv_neT (a := 4) c1_4 rfl; have := lv_neT (a := 5) c1_5 rfl; omega) rfl ?_
  refine V2_aload_n (i := 0) d_R_count_85 rfl rfl ?_
  refine V2_iconst (v := 1) d_R_count_86 rfl ?_
  refine V2_callV [.int (1 : Int32)] d_R_count_87 rfl rfl lk_R_55 mo_R_error (by decide) rfl rfl rfl (Nat.le_of_ble_eq_true rfl) (Nat.le_of_ble_eq_true rfl) ?_
  refine c_R_error1 ?_
  refine V2_topi (fun v8 ev8 => ?_)
  refine V2_ireturn d_R_count_90 rfl ?_
  have e : k_count F0 w = (-1000000000 - 1, errF F0 1) := by unfold k_count; rw [if_neg c1_0, if_neg c1_1, if_neg c1_2, if_neg c1_3, if_neg c1_4, if_neg c1_5]
  rw [e] at hQ hM
  subst ev8
  exact xQi (hQ _ (rel_err hR hM)) rfl rfl
theorem c_cls_carIs {L : Nat} {xs : Nat → Int32} {d : Nat} {Q : Option Value → xF → Prop} {F : xF} {k : Int32} (hR : Rel F) (hQ : ∀ F1, Mid F F1 (k_carIs F k).2 → Q (some (.int (k_carIs F k).1)) F1) : V2 L xs (d + 1) m_P_carIs 0 (xEntry [.ref 0, .int k] 2) [] F Q := by
  have q0 : (0 : Int32).toInt = 0 := by decide
  have q1 : (1 : Int32).toInt = 1 := by decide
  have q2 : (2 : Int32).toInt = 2 := by decide
  have q3 : (3 : Int32).toInt = 3 := by decide
  have q4 : (4 : Int32).toInt = 4 := by decide
  have q5 : (5 : Int32).toInt = 5 := by decide
  have q6 : (6 : Int32).toInt = 6 := by decide
  have q7 : (7 : Int32).toInt = 7 := by decide
  have q9 : (9 : Int32).toInt = 9 := by decide
  have q20 : (20 : Int32).toInt = 20 := by decide
  have q30 : (30 : Int32).toInt = 30 := by decide
  have q60 : (60 : Int32).toInt = 60 := by decide
  have q99 : (99 : Int32).toInt = 99 := by decide
  refine V2.to (l' := [some (.ref 0), some (.int k)]) ?_ rfl rfl rfl rfl
  refine V2_iload_n (i := 1) d_P_carIs_0 rfl rfl ?_
  refine V2_iconst (v := 0) d_P_carIs_1 rfl ?_
  refine V2_bipush (v := 6) d_P_carIs_2 rfl ?_
  refine V2_callS [.int k, .int (0 : Int32), .int (6 : Int32)] d_P_carIs_4 rfl rfl lk_P_133 mo_P_within (Nat.le_of_ble_eq_true rfl) (Nat.le_of_ble_eq_true rfl) ?_
  refine V2.to (l' := [some (.int k), some (.int (0 : Int32)), some (.int (6 : Int32))]) ?_ rfl rfl rfl rfl
  refine V2_iload_n (i := 0) d_P_within_0 rfl rfl ?_
  refine V2_iload_n (i := 1) d_P_within_1 rfl rfl ?_
  refine V2_icmp_lt (tgt := 14) d_P_within_2 rfl (fun c1 => ?_) (fun c1 => ?_)
  · refine V2_iconst (v := 0) d_P_within_14 rfl ?_
    refine V2_zreturn d_P_within_15 rfl (by decide) ?_
    refine V2.to (st' := [.int (0 : Int32)]) ?_ rfl rfl rfl rfl
    refine V2_if_ne (tgt := 16) d_P_carIs_7 rfl (fun c => (by first | exact absurd c (by decide) | exact absurd (by decide) c)) (fun _ => ?_)
    refine V2_aload_n (i := 0) d_P_carIs_10 rfl rfl ?_
    refine V2_iconst (v := 1) d_P_carIs_11 rfl ?_
    refine V2_callV [.int (1 : Int32)] d_P_carIs_12 rfl rfl lk_P_66 mo_P_fails (by decide) rfl rfl rfl (Nat.le_of_ble_eq_true rfl) (Nat.le_of_ble_eq_true rfl) ?_
    refine c_P_fails1 ?_
    refine V2_topi (fun v2 ev2 => ?_)
    refine V2_ireturn d_P_carIs_15 rfl ?_
    have hb : ¬ (0 ≤ k ∧ k ≤ 6) := (by clear hQ; (try (subst ev2)); (try simp only [xb_eq, xb_ne, Int32.lt_iff_toInt_lt, Int32.le_iff_toInt_le] at *); omega)
    have e : k_carIs F k = (-1000000000 - 1, errF F 1) := if_neg hb
    rw [e] at hQ
    subst ev2
    exact xQi (hQ _ (mid_err hR (by decide))) rfl rfl
  · refine V2_iload_n (i := 0) d_P_within_5 rfl rfl ?_
    refine V2_iload_n (i := 2) d_P_within_6 rfl rfl ?_
    refine V2_icmp_gt (tgt := 14) d_P_within_7 rfl (fun c3 => ?_) (fun c3 => ?_)
    · refine V2_iconst (v := 0) d_P_within_14 rfl ?_
      refine V2_zreturn d_P_within_15 rfl (by decide) ?_
      refine V2.to (st' := [.int (0 : Int32)]) ?_ rfl rfl rfl rfl
      refine V2_if_ne (tgt := 16) d_P_carIs_7 rfl (fun c => (by first | exact absurd c (by decide) | exact absurd (by decide) c)) (fun _ => ?_)
      refine V2_aload_n (i := 0) d_P_carIs_10 rfl rfl ?_
      refine V2_iconst (v := 1) d_P_carIs_11 rfl ?_
      refine V2_callV [.int (1 : Int32)] d_P_carIs_12 rfl rfl lk_P_66 mo_P_fails (by decide) rfl rfl rfl (Nat.le_of_ble_eq_true rfl) (Nat.le_of_ble_eq_true rfl) ?_
      refine c_P_fails1 ?_
      refine V2_topi (fun v4 ev4 => ?_)
      refine V2_ireturn d_P_carIs_15 rfl ?_
      have hb : ¬ (0 ≤ k ∧ k ≤ 6) := (by clear hQ; (try (subst ev4)); (try simp only [xb_eq, xb_ne, Int32.lt_iff_toInt_lt, Int32.le_iff_toInt_le] at *); omega)
      have e : k_carIs F k = (-1000000000 - 1, errF F 1) := if_neg hb
      rw [e] at hQ
      subst ev4
      exact xQi (hQ _ (mid_err hR (by decide))) rfl rfl
    · refine V2_iconst (v := 1) d_P_within_10 rfl ?_
      refine V2_goto (tgt := 15) d_P_within_11 rfl ?_
      refine V2_zreturn d_P_within_15 rfl (by decide) ?_
      refine V2.to (st' := [.int (1 : Int32)]) ?_ rfl rfl rfl rfl
      refine V2_if_ne (tgt := 16) d_P_carIs_7 rfl (fun _ => ?_) (fun c => (by first | exact absurd c (by decide) | exact absurd (by decide) c))
      refine V2_aload_n (i := 0) d_P_carIs_16 rfl rfl ?_
      refine V2_getr (a := 1) d_P_carIs_17 fl_P_10 (by decide) rfl (by decide) rfl ?_
      refine V2_getr (a := 2) d_P_carIs_20 fl_P_93 (by decide) rfl (by decide) rfl ?_
      refine V2_iload_n (i := 1) d_P_carIs_23 rfl rfl ?_
      refine V2_callV [.int k] d_P_carIs_24 rfl rfl lk_P_126 mo_Car_tells (by decide) rfl rfl rfl (Nat.le_of_ble_eq_true rfl) (Nat.le_of_ble_eq_true rfl) ?_
      refine V2.to (l' := [some (.ref 2), some (.int k)]) ?_ rfl rfl rfl rfl
      refine V2_iload_n (i := 1) d_Car_tells_0 rfl rfl ?_
      by_cases c5_0 : k = 0
      · refine V2_tableIn (tgt := 40) (off := 39) d_Car_tells_1 (by rw [c5_0]; decide) (by rw [c5_0]; decide) (by rw [c5_0]; decide) rfl ?_
        refine V2_aload_n (i := 0) d_Car_tells_40 rfl rfl ?_
        refine V2_get (v := F 2 0) d_Car_tells_41 fl_Car_7 (by decide) rfl (by decide) rfl rfl ?_
        refine V2_topi (fun v6 ev6 => ?_)
        refine V2_ireturn d_Car_tells_44 rfl ?_
        refine V2.to (st' := [.int v6]) ?_ rfl rfl rfl rfl
        refine V2_ireturn d_P_carIs_27 rfl ?_
        subst c5_0
        have e : k_carIs F 0 = (F 66 0, F) := by unfold k_carIs; rw [if_pos (by decide)]; rfl
        rw [e] at hQ
        subst ev6
        exact xQi (hQ F (mid_same hR)) (hR.1.1.1.1) rfl
      by_cases c5_1 : k = 1
      · refine V2_tableIn (tgt := 45) (off := 44) d_Car_tells_1 (by rw [c5_1]; decide) (by rw [c5_1]; decide) (by rw [c5_1]; decide) rfl ?_
        refine V2_aload_n (i := 0) d_Car_tells_45 rfl rfl ?_
        refine V2_get (v := F 2 1) d_Car_tells_46 fl_Car_13 (by decide) rfl (by decide) rfl rfl ?_
        refine V2_topi (fun v7 ev7 => ?_)
        refine V2_ireturn d_Car_tells_49 rfl ?_
        refine V2.to (st' := [.int v7]) ?_ rfl rfl rfl rfl
        refine V2_ireturn d_P_carIs_27 rfl ?_
        subst c5_1
        have e : k_carIs F 1 = (F 66 1, F) := by unfold k_carIs; rw [if_pos (by decide)]; rfl
        rw [e] at hQ
        subst ev7
        exact xQi (hQ F (mid_same hR)) (hR.1.1.1.2.1) rfl
      by_cases c5_2 : k = 2
      · refine V2_tableIn (tgt := 50) (off := 49) d_Car_tells_1 (by rw [c5_2]; decide) (by rw [c5_2]; decide) (by rw [c5_2]; decide) rfl ?_
        refine V2_aload_n (i := 0) d_Car_tells_50 rfl rfl ?_
        refine V2_get (v := F 2 2) d_Car_tells_51 fl_Car_16 (by decide) rfl (by decide) rfl rfl ?_
        refine V2_topi (fun v8 ev8 => ?_)
        refine V2_ireturn d_Car_tells_54 rfl ?_
        refine V2.to (st' := [.int v8]) ?_ rfl rfl rfl rfl
        refine V2_ireturn d_P_carIs_27 rfl ?_
        subst c5_2
        have e : k_carIs F 2 = (F 66 2, F) := by unfold k_carIs; rw [if_pos (by decide)]; rfl
        rw [e] at hQ
        subst ev8
        exact xQi (hQ F (mid_same hR)) (hR.1.1.1.2.2.1) rfl
      by_cases c5_3 : k = 3
      · refine V2_tableIn (tgt := 55) (off := 54) d_Car_tells_1 (by rw [c5_3]; decide) (by rw [c5_3]; decide) (by rw [c5_3]; decide) rfl ?_
        refine V2_aload_n (i := 0) d_Car_tells_55 rfl rfl ?_
        refine V2_get (v := F 2 3) d_Car_tells_56 fl_Car_19 (by decide) rfl (by decide) rfl rfl ?_
        refine V2_topi (fun v9 ev9 => ?_)
        refine V2_ireturn d_Car_tells_59 rfl ?_
        refine V2.to (st' := [.int v9]) ?_ rfl rfl rfl rfl
        refine V2_ireturn d_P_carIs_27 rfl ?_
        subst c5_3
        have e : k_carIs F 3 = (F 66 3, F) := by unfold k_carIs; rw [if_pos (by decide)]; rfl
        rw [e] at hQ
        subst ev9
        exact xQi (hQ F (mid_same hR)) (hR.1.1.1.2.2.2.1) rfl
      by_cases c5_4 : k = 4
      · refine V2_tableIn (tgt := 60) (off := 59) d_Car_tells_1 (by rw [c5_4]; decide) (by rw [c5_4]; decide) (by rw [c5_4]; decide) rfl ?_
        refine V2_aload_n (i := 0) d_Car_tells_60 rfl rfl ?_
        refine V2_get (v := F 2 4) d_Car_tells_61 fl_Car_22 (by decide) rfl (by decide) rfl rfl ?_
        refine V2_topi (fun v10 ev10 => ?_)
        refine V2_ireturn d_Car_tells_64 rfl ?_
        refine V2.to (st' := [.int v10]) ?_ rfl rfl rfl rfl
        refine V2_ireturn d_P_carIs_27 rfl ?_
        subst c5_4
        have e : k_carIs F 4 = (F 66 4, F) := by unfold k_carIs; rw [if_pos (by decide)]; rfl
        rw [e] at hQ
        subst ev10
        exact xQi (hQ F (mid_same hR)) (hR.1.1.1.2.2.2.2.1) rfl
      by_cases c5_5 : k = 5
      · refine V2_tableIn (tgt := 65) (off := 64) d_Car_tells_1 (by rw [c5_5]; decide) (by rw [c5_5]; decide) (by rw [c5_5]; decide) rfl ?_
        refine V2_aload_n (i := 0) d_Car_tells_65 rfl rfl ?_
        refine V2_get (v := F 2 7) d_Car_tells_66 fl_Car_31 (by decide) rfl (by decide) rfl rfl ?_
        refine V2_topi (fun v11 ev11 => ?_)
        refine V2_if_eq (tgt := 76) d_Car_tells_69 rfl (fun c12 => ?_) (fun c12 => ?_)
        · refine V2_iconst (v := 0) d_Car_tells_76 rfl ?_
          refine V2_ireturn d_Car_tells_77 rfl ?_
          refine V2.to (st' := [.int (0 : Int32)]) ?_ rfl rfl rfl rfl
          refine V2_ireturn d_P_carIs_27 rfl ?_
          subst c5_5
          have e : k_carIs F 5 = (F 66 5, F) := by unfold k_carIs; rw [if_pos (by decide)]; rfl
          rw [e] at hQ
          have h7 : F 2 7 = F 66 5 := hR.1.1.1.2.2.2.2.2.2.2
          have h5 : F 66 5 = 0 ∨ F 66 5 = 1 := hR.2.1.1.2.2.2.2.2.1
          subst ev11
          refine xQi (hQ F (mid_same hR)) ?_ rfl
          show _ = F 66 5
          rcases h5 with h5 | h5 <;> simp_all
        · refine V2_iconst (v := 1) d_Car_tells_72 rfl ?_
          refine V2_goto (tgt := 77) d_Car_tells_73 rfl ?_
          refine V2_ireturn d_Car_tells_77 rfl ?_
          refine V2.to (st' := [.int (1 : Int32)]) ?_ rfl rfl rfl rfl
          refine V2_ireturn d_P_carIs_27 rfl ?_
          subst c5_5
          have e : k_carIs F 5 = (F 66 5, F) := by unfold k_carIs; rw [if_pos (by decide)]; rfl
          rw [e] at hQ
          have h7 : F 2 7 = F 66 5 := hR.1.1.1.2.2.2.2.2.2.2
          have h5 : F 66 5 = 0 ∨ F 66 5 = 1 := hR.2.1.1.2.2.2.2.2.1
          subst ev11
          refine xQi (hQ F (mid_same hR)) ?_ rfl
          show _ = F 66 5
          rcases h5 with h5 | h5 <;> simp_all
      refine V2_tableOut (tgt := 78) d_Car_tells_1 (by have := lv_neT (a := 0) c5_0 rfl; have := lv_neT (a := 1) c5_1 rfl; have := lv_neT (a := 2) c5_2 rfl; have := lv_neT (a := 3) c5_3 rfl; have := lv_neT (a := 4) c5_4 rfl; have := lv_neT (a := 5) c5_5 rfl; omega) rfl ?_
      refine V2_aload_n (i := 0) d_Car_tells_78 rfl rfl ?_
      refine V2_get (v := F 2 6) d_Car_tells_79 fl_Car_28 (by decide) rfl (by decide) rfl rfl ?_
      refine V2_topi (fun v13 ev13 => ?_)
      refine V2_ireturn d_Car_tells_82 rfl ?_
      refine V2.to (st' := [.int v13]) ?_ rfl rfl rfl rfl
      refine V2_ireturn d_P_carIs_27 rfl ?_
      have h6 : k = 6 := by
        refine Int32.toInt_inj.mp ?_
        exact (by clear hQ; (try (subst ev13)); (try simp only [xb_eq, xb_ne, Int32.lt_iff_toInt_lt, Int32.le_iff_toInt_le] at *); (try simp only [← Int32.toInt_inj] at *); omega)
      subst h6
      have e : k_carIs F 6 = (F 66 6, F) := by unfold k_carIs; rw [if_pos (by decide)]; rfl
      rw [e] at hQ
      subst ev13
      exact xQi (hQ F (mid_same hR)) (hR.1.1.1.2.2.2.2.2.2.1) rfl
theorem c_mod_carIs {L : Nat} {xs : Nat → Int32} {d : Nat} {Q : Option Value → xF → Prop} {F : xF} {k : Int32} {F0 : xF} (hR : Rel F0) (hM : Mid F0 F (k_carIs F0 k).2) (hQ : ∀ F2, Rel F2 → Q (some (.int (k_carIs F0 k).1)) F2) : V2 L xs (d + 1) m_R_carIs 0 (xEntry [.ref 65, .int k] 2) [] F Q := by
  have q0 : (0 : Int32).toInt = 0 := by decide
  have q1 : (1 : Int32).toInt = 1 := by decide
  have q2 : (2 : Int32).toInt = 2 := by decide
  have q3 : (3 : Int32).toInt = 3 := by decide
  have q4 : (4 : Int32).toInt = 4 := by decide
  have q5 : (5 : Int32).toInt = 5 := by decide
  have q6 : (6 : Int32).toInt = 6 := by decide
  have q7 : (7 : Int32).toInt = 7 := by decide
  have q9 : (9 : Int32).toInt = 9 := by decide
  have q20 : (20 : Int32).toInt = 20 := by decide
  have q30 : (30 : Int32).toInt = 30 := by decide
  have q60 : (60 : Int32).toInt = 60 := by decide
  have q99 : (99 : Int32).toInt = 99 := by decide
  refine V2.to (l' := [some (.ref 65), some (.int k)]) ?_ rfl rfl rfl rfl
  refine V2_iload_n (i := 1) d_R_carIs_0 rfl rfl ?_
  refine V2_iconst (v := 0) d_R_carIs_1 rfl ?_
  refine V2_bipush (v := 6) d_R_carIs_2 rfl ?_
  refine V2_callS [.int k, .int (0 : Int32), .int (6 : Int32)] d_R_carIs_4 rfl rfl lk_R_51 mo_R_in (Nat.le_of_ble_eq_true rfl) (Nat.le_of_ble_eq_true rfl) ?_
  refine c_R_in ?_
  refine V2_topi (fun v1 ev1 => ?_)
  refine V2_if_eq (tgt := 19) d_R_carIs_7 rfl (fun c2 => ?_) (fun c2 => ?_)
  · refine V2_aload_n (i := 0) d_R_carIs_19 rfl rfl ?_
    refine V2_iconst (v := 1) d_R_carIs_20 rfl ?_
    refine V2_callV [.int (1 : Int32)] d_R_carIs_21 rfl rfl lk_R_55 mo_R_error (by decide) rfl rfl rfl (Nat.le_of_ble_eq_true rfl) (Nat.le_of_ble_eq_true rfl) ?_
    refine c_R_error1 ?_
    refine V2_topi (fun v3 ev3 => ?_)
    refine V2_ireturn d_R_carIs_24 rfl ?_
    have hb : ¬ (0 ≤ k ∧ k ≤ 6) := (by clear hQ; (try (subst ev3 ev1)); (try simp only [xb_eq, xb_ne, Int32.lt_iff_toInt_lt, Int32.le_iff_toInt_le] at *); omega)
    have e : k_carIs F0 k = (-1000000000 - 1, errF F0 1) := if_neg hb
    rw [e] at hQ hM
    subst ev3 ev1
    exact xQi (hQ _ (rel_err hR hM)) rfl rfl
  · refine V2_aload_n (i := 0) d_R_carIs_10 rfl rfl ?_
    refine V2_getr (a := 66) d_R_carIs_11 fl_R_7 (by decide) rfl (by decide) rfl ?_
    refine V2_iload_n (i := 1) d_R_carIs_14 rfl rfl ?_
    refine V2_ialoadJ k.toNatClampNeg d_R_carIs_15 (by decide) rfl (vin_of (by clear hQ; (try (subst ev1)); (try simp only [xb_eq, xb_ne, Int32.lt_iff_toInt_lt, Int32.le_iff_toInt_le] at *); omega) (by clear hQ; (try (subst ev1)); (try simp only [xb_eq, xb_ne, Int32.lt_iff_toInt_lt, Int32.le_iff_toInt_le] at *); omega)) rfl rfl ?_
    refine V2_topi (fun v4 ev4 => ?_)
    refine V2_goto (tgt := 24) d_R_carIs_16 rfl ?_
    refine V2_ireturn d_R_carIs_24 rfl ?_
    have hb : 0 ≤ k ∧ k ≤ 6 := (by clear hQ; (try (subst ev4 ev1)); (try simp only [xb_eq, xb_ne, Int32.lt_iff_toInt_lt, Int32.le_iff_toInt_le] at *); omega)
    have e : k_carIs F0 k = (F0 66 k.toNatClampNeg, F0) := if_pos hb
    rw [e] at hQ hM
    subst ev4 ev1
    exact xQi (hQ F (rel_same hR hM)) (congrFun (hM.1 66 (by decide)) _) rfl
