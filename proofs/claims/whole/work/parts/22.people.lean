/-! the class: people, and what they push and weigh -/
theorem xmx0 {t : Int32} : (if (0 : Int32) < t then t else 0) = (if t < 0 then 0 else t) := by
  have e0 : (0 : Int32).toInt = 0 := by decide
  by_cases h : t < 0
  · rw [if_pos h, if_neg (fun h2 => by rw [Int32.lt_iff_toInt_lt] at h h2; omega)]
  · by_cases h2 : (0 : Int32) < t
    · rw [if_pos h2, if_neg h]
    · rw [if_neg h2, if_neg h]
      refine Int32.toInt_inj.mp ?_
      rw [Int32.lt_iff_toInt_lt] at h h2
      omega
theorem xin_t {set : Int32} {p : Nat} (h : ¬ (@ite _ (inSet set p) (Classical.propDecidable _) (1 : Int32) 0) = 0) : inSet set p := by
  by_cases hp : inSet set p
  · exact hp
  · rw [if_neg hp] at h
    exact absurd rfl h
theorem xin_f {set : Int32} {p : Nat} (h : (@ite _ (inSet set p) (Classical.propDecidable _) (1 : Int32) 0) = 0) : ¬ inSet set p := fun hp => by
  rw [if_pos hp] at h
  cases h
theorem c_Push_size {L : Nat} {xs : Nat → Int32} {d : Nat} {Q : Option Value → xF → Prop} {F : xF} {P : Nat} (hP : F 4 1 = nI P) (hQ : Q (some (.int (nI P))) F) : V2 L xs (d + 1) m_Push_size 0 (xEntry [.ref 3] 1) [] F Q := by
  refine V2.to (l' := [some (.ref 3)]) ?_ rfl rfl rfl rfl
  refine V2_aload_n (i := 0) d_Push_size_0 rfl rfl ?_
  refine V2_getr (a := 4) d_Push_size_1 fl_Push_14 (by decide) rfl (by decide) rfl ?_
  refine V2_callV [] d_Push_size_4 rfl rfl lk_Push_21 mo_Nums_size (by decide) rfl rfl rfl (Nat.le_of_ble_eq_true rfl) (Nat.le_of_ble_eq_true rfl) ?_
  refine V2.to (l' := [some (.ref 4)]) ?_ rfl rfl rfl rfl
  refine V2_aload_n (i := 0) d_Nums_size_0 rfl rfl ?_
  refine V2_get (v := F 4 1) d_Nums_size_1 fl_Nums_7 (by decide) rfl (by decide) rfl rfl ?_
  refine V2_topi (fun v1 ev1 => ?_)
  refine V2_ireturn d_Nums_size_4 rfl ?_
  refine V2.to (st' := [.int v1]) ?_ rfl rfl rfl rfl
  refine V2_ireturn d_Push_size_7 rfl ?_
  subst ev1
  rw [hP]
  exact hQ
theorem c_Push_kindOf {L : Nat} {xs : Nat → Int32} {d : Nat} {Q : Option Value → xF → Prop} {F : xF} {p P : Nat} (hP : F 4 1 = nI P) (hP2 : F 6 1 = nI P) (hl : P ≤ 6) (hp : p < P) (hQ : Q (some (.int (F 5 p))) F) : V2 L xs (d + 2) m_Push_kindOf 0 (xEntry [.ref 3, .int (nI p)] 2) [] F Q := by
  refine V2.to (l' := [some (.ref 3), some (.int (nI p))]) ?_ rfl rfl rfl rfl
  refine V2_aload_n (i := 0) d_Push_kindOf_0 rfl rfl ?_
  refine V2_getr (a := 4) d_Push_kindOf_1 fl_Push_14 (by decide) rfl (by decide) rfl ?_
  refine V2_iload_n (i := 1) d_Push_kindOf_4 rfl rfl ?_
  refine V2_callV [.int (nI p)] d_Push_kindOf_5 rfl rfl lk_Push_42 mo_Nums_at (by decide) rfl rfl rfl (Nat.le_of_ble_eq_true rfl) (Nat.le_of_ble_eq_true rfl) ?_
  refine c_Nums_at_4 hP hl hp ?_
  refine V2_topi (fun v1 ev1 => ?_)
  refine V2_ireturn d_Push_kindOf_8 rfl ?_
  exact xQi hQ (by clear hQ; (try subst ev1); (try simp only [xb_eq, xb_ne, Int32.lt_iff_toInt_lt, Int32.le_iff_toInt_le] at *); (try simp only [xb]); (repeat' split); all_goals first | rfl | omega | (exfalso; simp only [← Int32.toInt_inj] at *; omega)) rfl
theorem c_Push_levelOf {L : Nat} {xs : Nat → Int32} {d : Nat} {Q : Option Value → xF → Prop} {F : xF} {p P : Nat} (hP : F 4 1 = nI P) (hP2 : F 6 1 = nI P) (hl : P ≤ 6) (hp : p < P) (hQ : Q (some (.int (F 7 p))) F) : V2 L xs (d + 2) m_Push_levelOf 0 (xEntry [.ref 3, .int (nI p)] 2) [] F Q := by
  refine V2.to (l' := [some (.ref 3), some (.int (nI p))]) ?_ rfl rfl rfl rfl
  refine V2_aload_n (i := 0) d_Push_levelOf_0 rfl rfl ?_
  refine V2_getr (a := 6) d_Push_levelOf_1 fl_Push_18 (by decide) rfl (by decide) rfl ?_
  refine V2_iload_n (i := 1) d_Push_levelOf_4 rfl rfl ?_
  refine V2_callV [.int (nI p)] d_Push_levelOf_5 rfl rfl lk_Push_42 mo_Nums_at (by decide) rfl rfl rfl (Nat.le_of_ble_eq_true rfl) (Nat.le_of_ble_eq_true rfl) ?_
  refine c_Nums_at_6 hP2 hl hp ?_
  refine V2_topi (fun v1 ev1 => ?_)
  refine V2_ireturn d_Push_levelOf_8 rfl ?_
  exact xQi hQ (by clear hQ; (try subst ev1); (try simp only [xb_eq, xb_ne, Int32.lt_iff_toInt_lt, Int32.le_iff_toInt_le] at *); (try simp only [xb]); (repeat' split); all_goals first | rfl | omega | (exfalso; simp only [← Int32.toInt_inj] at *; omega)) rfl
theorem c_Push_weightOf {L : Nat} {xs : Nat → Int32} {d : Nat} {Q : Option Value → xF → Prop} {F : xF} {p P : Nat} (hP : F 4 1 = nI P) (hP2 : F 6 1 = nI P) (hl : P ≤ 6) (hp : p < P) (hQ : Q (some (.int (if F 5 p = 6 then F 7 p else 0))) F) : V2 L xs (d + 3) m_Push_weightOf 0 (xEntry [.ref 3, .int (nI p)] 2) [] F Q := by
  refine V2.to (l' := [some (.ref 3), some (.int (nI p))]) ?_ rfl rfl rfl rfl
  refine V2_aload_n (i := 0) d_Push_weightOf_0 rfl rfl ?_
  refine V2_iload_n (i := 1) d_Push_weightOf_1 rfl rfl ?_
  refine V2_callV [.int (nI p)] d_Push_weightOf_2 rfl rfl lk_Push_46 mo_Push_kindOf (by decide) rfl rfl rfl (Nat.le_of_ble_eq_true rfl) (Nat.le_of_ble_eq_true rfl) ?_
  refine c_Push_kindOf hP hP2 hl hp ?_
  refine V2_topi (fun v1 ev1 => ?_)
  refine V2_bipush (v := 6) d_Push_weightOf_5 rfl ?_
  refine V2_icmp_ne (tgt := 18) d_Push_weightOf_7 rfl (fun c2 => ?_) (fun c2 => ?_)
  · refine V2_iconst (v := 0) d_Push_weightOf_18 rfl ?_
    refine V2_ireturn d_Push_weightOf_19 rfl ?_
    exact xQi hQ (by subst ev1; simp_all) rfl
  · refine V2_aload_n (i := 0) d_Push_weightOf_10 rfl rfl ?_
    refine V2_iload_n (i := 1) d_Push_weightOf_11 rfl rfl ?_
    refine V2_callV [.int (nI p)] d_Push_weightOf_12 rfl rfl lk_Push_51 mo_Push_levelOf (by decide) rfl rfl rfl (Nat.le_of_ble_eq_true rfl) (Nat.le_of_ble_eq_true rfl) ?_
    refine c_Push_levelOf hP hP2 hl hp ?_
    refine V2_topi (fun v3 ev3 => ?_)
    refine V2_goto (tgt := 19) d_Push_weightOf_15 rfl ?_
    refine V2_ireturn d_Push_weightOf_19 rfl ?_
    exact xQi hQ (by subst ev3 ev1; simp_all) rfl
theorem c_Push_isIn {L : Nat} {xs : Nat → Int32} {d : Nat} {Q : Option Value → xF → Prop} {F : xF} {set : Int32} {p : Nat}  (hQ : Q (some (.int (@ite _ (inSet set p) (Classical.propDecidable _) 1 0))) F) : V2 L xs d m_Push_isIn 0 (xEntry [.int set, .int (nI p)] 2) [] F Q := by
  refine V2.to (l' := [some (.int set), some (.int (nI p))]) ?_ rfl rfl rfl rfl
  refine V2_iload_n (i := 0) d_Push_isIn_0 rfl rfl ?_
  refine V2_iload_n (i := 1) d_Push_isIn_1 rfl rfl ?_
  refine V2_ishr d_Push_isIn_2 ?_
  refine V2_topi (fun v1 ev1 => ?_)
  refine V2_iconst (v := 1) d_Push_isIn_3 rfl ?_
  refine V2_iand d_Push_isIn_4 ?_
  refine V2_topi (fun v2 ev2 => ?_)
  refine V2_iconst (v := 1) d_Push_isIn_5 rfl ?_
  refine V2_icmp_ne (tgt := 13) d_Push_isIn_6 rfl (fun c3 => ?_) (fun c3 => ?_)
  · refine V2_iconst (v := 0) d_Push_isIn_13 rfl ?_
    refine V2_zreturn d_Push_isIn_14 rfl (by decide) ?_
    exact xQi hQ (by unfold inSet; subst ev2 ev1; simp_all) rfl
  · refine V2_iconst (v := 1) d_Push_isIn_9 rfl ?_
    refine V2_goto (tgt := 14) d_Push_isIn_10 rfl ?_
    refine V2_zreturn d_Push_isIn_14 rfl (by decide) ?_
    exact xQi hQ (by unfold inSet; subst ev2 ev1; simp_all) rfl
theorem c_Push_pushOf_2 {L : Nat} {xs : Nat → Int32} {d : Nat} {Q : Option Value → xF → Prop} {F : xF} {p P : Nat} (hP : F 4 1 = nI P) (hP2 : F 6 1 = nI P) (hl : P ≤ 6) (hp : p < P) (hQ : Q (some (.int (pushK (F 5 p) (F 7 p) (F 2 3) (F 2 2) (F 2 5)))) F) : V2 L xs (d + 3) m_Push_pushOf 0 (xEntry [.ref 3, .int (nI p), .ref 2] 4) [] F Q := by
  refine V2.to (l' := [some (.ref 3), some (.int (nI p)), some (.ref 2), none]) ?_ rfl rfl rfl rfl
  refine V2_aload_n (i := 0) d_Push_pushOf_0 rfl rfl ?_
  refine V2_iload_n (i := 1) d_Push_pushOf_1 rfl rfl ?_
  refine V2_callV [.int (nI p)] d_Push_pushOf_2 rfl rfl lk_Push_51 mo_Push_levelOf (by decide) rfl rfl rfl (Nat.le_of_ble_eq_true rfl) (Nat.le_of_ble_eq_true rfl) ?_
  refine c_Push_levelOf hP hP2 hl hp ?_
  refine V2_topi (fun v1 ev1 => ?_)
  refine V2_istore_n (i := 3) (l' := [some (.ref 3), some (.int (nI p)), some (.ref 2), some (.int v1)]) d_Push_pushOf_5 rfl (xst_r (Nat.le_of_ble_eq_true rfl) rfl rfl) ?_
  refine V2_aload_n (i := 0) d_Push_pushOf_6 rfl rfl ?_
  refine V2_iload_n (i := 1) d_Push_pushOf_7 rfl rfl ?_
  refine V2_callV [.int (nI p)] d_Push_pushOf_8 rfl rfl lk_Push_46 mo_Push_kindOf (by decide) rfl rfl rfl (Nat.le_of_ble_eq_true rfl) (Nat.le_of_ble_eq_true rfl) ?_
  refine c_Push_kindOf hP hP2 hl hp ?_
  refine V2_topi (fun v2 ev2 => ?_)
  by_cases c3_1 : v2 = 1
  · refine V2_tableIn (tgt := 48) (off := 37) d_Push_pushOf_11 (by rw [c3_1]; decide) (by rw [c3_1]; decide) (by rw [c3_1]; decide) rfl ?_
    refine V2_iload_n (i := 3) d_Push_pushOf_48 rfl rfl ?_
    refine V2_aload_n (i := 2) d_Push_pushOf_49 rfl rfl ?_
    refine V2_callS [.int v1, .ref 2] d_Push_pushOf_50 rfl rfl lk_Push_54 mo_Push_asRhythm (Nat.le_of_ble_eq_true rfl) (Nat.le_of_ble_eq_true rfl) ?_
    refine V2.to (l' := [some (.int v1), some (.ref 2)]) ?_ rfl rfl rfl rfl
    refine V2_iload_n (i := 0) d_Push_asRhythm_0 rfl rfl ?_
    refine V2_aload_n (i := 1) d_Push_asRhythm_1 rfl rfl ?_
    refine V2_callS [.int v1, .ref 2] d_Push_asRhythm_2 rfl rfl lk_Push_80 mo_Push_asPusher (Nat.le_of_ble_eq_true rfl) (Nat.le_of_ble_eq_true rfl) ?_
    refine V2.to (l' := [some (.int v1), some (.ref 2)]) ?_ rfl rfl rfl rfl
    refine V2_aload_n (i := 1) d_Push_asPusher_0 rfl rfl ?_
    refine V2_callV [] d_Push_asPusher_1 rfl rfl lk_Push_61 mo_Car_goesAhead (by decide) rfl rfl rfl (Nat.le_of_ble_eq_true rfl) (Nat.le_of_ble_eq_true rfl) ?_
    refine V2.to (l' := [some (.ref 2)]) ?_ rfl rfl rfl rfl
    refine V2_aload_n (i := 0) d_Car_goesAhead_0 rfl rfl ?_
    refine V2_get (v := F 2 3) d_Car_goesAhead_1 fl_Car_19 (by decide) rfl (by decide) rfl rfl ?_
    refine V2_topi (fun v4 ev4 => ?_)
    refine V2_if_ne (tgt := 11) d_Car_goesAhead_4 rfl (fun c5 => ?_) (fun c5 => ?_)
    · refine V2_iconst (v := 0) d_Car_goesAhead_11 rfl ?_
      refine V2_zreturn d_Car_goesAhead_12 rfl (by decide) ?_
      refine V2.to (st' := [.int (0 : Int32)]) ?_ rfl rfl rfl rfl
      refine V2_if_eq (tgt := 11) d_Push_asPusher_4 rfl (fun _ => ?_) (fun c => absurd (by decide) c)
      refine V2_iconst (v := 0) d_Push_asPusher_11 rfl ?_
      refine V2_ireturn d_Push_asPusher_12 rfl ?_
      refine V2.to (st' := [.int (0 : Int32)]) ?_ rfl rfl rfl rfl
      refine V2_aload_n (i := 1) d_Push_asRhythm_5 rfl rfl ?_
      refine V2_callV [] d_Push_asRhythm_6 rfl rfl lk_Push_61 mo_Car_goesAhead (by decide) rfl rfl rfl (Nat.le_of_ble_eq_true rfl) (Nat.le_of_ble_eq_true rfl) ?_
      refine V2.to (l' := [some (.ref 2)]) ?_ rfl rfl rfl rfl
      refine V2_aload_n (i := 0) d_Car_goesAhead_0 rfl rfl ?_
      refine V2_get (v := F 2 3) d_Car_goesAhead_1 fl_Car_19 (by decide) rfl (by decide) rfl rfl ?_
      refine V2_topi (fun v6 ev6 => ?_)
      refine V2_if_ne (tgt := 11) d_Car_goesAhead_4 rfl (fun c7 => ?_) (fun c7 => ?_)
      · refine V2_iconst (v := 0) d_Car_goesAhead_11 rfl ?_
        refine V2_zreturn d_Car_goesAhead_12 rfl (by decide) ?_
        refine V2.to (st' := [.int (0 : Int32), .int (0 : Int32)]) ?_ rfl rfl rfl rfl
        refine V2_if_eq (tgt := 16) d_Push_asRhythm_9 rfl (fun _ => ?_) (fun c => absurd (by decide) c)
        refine V2_iconst (v := 0) d_Push_asRhythm_16 rfl ?_
        refine V2_iadd d_Push_asRhythm_17 ?_
        refine V2_topi (fun v8 ev8 => ?_)
        refine V2_ireturn d_Push_asRhythm_18 rfl ?_
        refine V2.to (st' := [.int v8]) ?_ rfl rfl rfl rfl
        refine V2_ireturn d_Push_pushOf_53 rfl ?_
        exact xQi hQ (by subst ev8 ev6 ev4 ev2 ev1; first | (simp_all [pushK]; done) | (rw [xmx0]; simp_all [pushK]; done)) rfl
      · refine V2_iconst (v := 1) d_Car_goesAhead_7 rfl ?_
        refine V2_goto (tgt := 12) d_Car_goesAhead_8 rfl ?_
        refine V2_zreturn d_Car_goesAhead_12 rfl (by decide) ?_
        refine V2.to (st' := [.int (1 : Int32), .int (0 : Int32)]) ?_ rfl rfl rfl rfl
        refine V2_if_eq (tgt := 16) d_Push_asRhythm_9 rfl (fun c => absurd c (by decide)) (fun _ => ?_)
        refine V2_iconst (v := 2) d_Push_asRhythm_12 rfl ?_
        refine V2_goto (tgt := 17) d_Push_asRhythm_13 rfl ?_
        refine V2_iadd d_Push_asRhythm_17 ?_
        refine V2_topi (fun v9 ev9 => ?_)
        refine V2_ireturn d_Push_asRhythm_18 rfl ?_
        refine V2.to (st' := [.int v9]) ?_ rfl rfl rfl rfl
        refine V2_ireturn d_Push_pushOf_53 rfl ?_
        exact xQi hQ (by subst ev9 ev6 ev4 ev2 ev1; first | (simp_all [pushK]; done) | (rw [xmx0]; simp_all [pushK]; done)) rfl
    · refine V2_iconst (v := 1) d_Car_goesAhead_7 rfl ?_
      refine V2_goto (tgt := 12) d_Car_goesAhead_8 rfl ?_
      refine V2_zreturn d_Car_goesAhead_12 rfl (by decide) ?_
      refine V2.to (st' := [.int (1 : Int32)]) ?_ rfl rfl rfl rfl
      refine V2_if_eq (tgt := 11) d_Push_asPusher_4 rfl (fun c => absurd c (by decide)) (fun _ => ?_)
      refine V2_iload_n (i := 0) d_Push_asPusher_7 rfl rfl ?_
      refine V2_goto (tgt := 12) d_Push_asPusher_8 rfl ?_
      refine V2_ireturn d_Push_asPusher_12 rfl ?_
      refine V2.to (st' := [.int v1]) ?_ rfl rfl rfl rfl
      refine V2_aload_n (i := 1) d_Push_asRhythm_5 rfl rfl ?_
      refine V2_callV [] d_Push_asRhythm_6 rfl rfl lk_Push_61 mo_Car_goesAhead (by decide) rfl rfl rfl (Nat.le_of_ble_eq_true rfl) (Nat.le_of_ble_eq_true rfl) ?_
      refine V2.to (l' := [some (.ref 2)]) ?_ rfl rfl rfl rfl
      refine V2_aload_n (i := 0) d_Car_goesAhead_0 rfl rfl ?_
      refine V2_get (v := F 2 3) d_Car_goesAhead_1 fl_Car_19 (by decide) rfl (by decide) rfl rfl ?_
      refine V2_topi (fun v10 ev10 => ?_)
      refine V2_if_ne (tgt := 11) d_Car_goesAhead_4 rfl (fun c11 => ?_) (fun c11 => ?_)
      · refine V2_iconst (v := 0) d_Car_goesAhead_11 rfl ?_
        refine V2_zreturn d_Car_goesAhead_12 rfl (by decide) ?_
        refine V2.to (st' := [.int (0 : Int32), .int v1]) ?_ rfl rfl rfl rfl
        refine V2_if_eq (tgt := 16) d_Push_asRhythm_9 rfl (fun _ => ?_) (fun c => absurd (by decide) c)
        refine V2_iconst (v := 0) d_Push_asRhythm_16 rfl ?_
        refine V2_iadd d_Push_asRhythm_17 ?_
        refine V2_topi (fun v12 ev12 => ?_)
        refine V2_ireturn d_Push_asRhythm_18 rfl ?_
        refine V2.to (st' := [.int v12]) ?_ rfl rfl rfl rfl
        refine V2_ireturn d_Push_pushOf_53 rfl ?_
        exact xQi hQ (by subst ev12 ev10 ev4 ev2 ev1; first | (simp_all [pushK]; done) | (rw [xmx0]; simp_all [pushK]; done)) rfl
      · refine V2_iconst (v := 1) d_Car_goesAhead_7 rfl ?_
        refine V2_goto (tgt := 12) d_Car_goesAhead_8 rfl ?_
        refine V2_zreturn d_Car_goesAhead_12 rfl (by decide) ?_
        refine V2.to (st' := [.int (1 : Int32), .int v1]) ?_ rfl rfl rfl rfl
        refine V2_if_eq (tgt := 16) d_Push_asRhythm_9 rfl (fun c => absurd c (by decide)) (fun _ => ?_)
        refine V2_iconst (v := 2) d_Push_asRhythm_12 rfl ?_
        refine V2_goto (tgt := 17) d_Push_asRhythm_13 rfl ?_
        refine V2_iadd d_Push_asRhythm_17 ?_
        refine V2_topi (fun v13 ev13 => ?_)
        refine V2_ireturn d_Push_asRhythm_18 rfl ?_
        refine V2.to (st' := [.int v13]) ?_ rfl rfl rfl rfl
        refine V2_ireturn d_Push_pushOf_53 rfl ?_
        exact xQi hQ (by subst ev13 ev10 ev4 ev2 ev1; first | (simp_all [pushK]; done) | (rw [xmx0]; simp_all [pushK]; done)) rfl
  by_cases c3_2 : v2 = 2
  · refine V2_tableIn (tgt := 54) (off := 43) d_Push_pushOf_11 (by rw [c3_2]; decide) (by rw [c3_2]; decide) (by rw [c3_2]; decide) rfl ?_
    refine V2_iload_n (i := 3) d_Push_pushOf_54 rfl rfl ?_
    refine V2_aload_n (i := 2) d_Push_pushOf_55 rfl rfl ?_
    refine V2_callS [.int v1, .ref 2] d_Push_pushOf_56 rfl rfl lk_Push_58 mo_Push_asLate (Nat.le_of_ble_eq_true rfl) (Nat.le_of_ble_eq_true rfl) ?_
    refine V2.to (l' := [some (.int v1), some (.ref 2)]) ?_ rfl rfl rfl rfl
    refine V2_aload_n (i := 1) d_Push_asLate_0 rfl rfl ?_
    refine V2_get (v := F 2 5) d_Push_asLate_1 fl_Push_71 (by decide) rfl (by decide) rfl rfl ?_
    refine V2_topi (fun v14 ev14 => ?_)
    refine V2_iconst (v := 2) d_Push_asLate_4 rfl ?_
    refine V2_iremM d_Push_asLate_5 (by decide) ?_
    refine V2_topi (fun v15 ev15 => ?_)
    refine V2_if_ne (tgt := 17) d_Push_asLate_6 rfl (fun c16 => ?_) (fun c16 => ?_)
    · refine V2_iconst (v := 0) d_Push_asLate_17 rfl ?_
      refine V2_ireturn d_Push_asLate_18 rfl ?_
      refine V2.to (st' := [.int (0 : Int32)]) ?_ rfl rfl rfl rfl
      refine V2_ireturn d_Push_pushOf_59 rfl ?_
      exact xQi hQ (by subst ev15 ev14 ev2 ev1; first | (simp_all [pushK]; done) | (rw [xmx0]; simp_all [pushK]; done)) rfl
    · refine V2_iload_n (i := 0) d_Push_asLate_9 rfl rfl ?_
      refine V2_aload_n (i := 1) d_Push_asLate_10 rfl rfl ?_
      refine V2_callS [.int v1, .ref 2] d_Push_asLate_11 rfl rfl lk_Push_80 mo_Push_asPusher (Nat.le_of_ble_eq_true rfl) (Nat.le_of_ble_eq_true rfl) ?_
      refine V2.to (l' := [some (.int v1), some (.ref 2)]) ?_ rfl rfl rfl rfl
      refine V2_aload_n (i := 1) d_Push_asPusher_0 rfl rfl ?_
      refine V2_callV [] d_Push_asPusher_1 rfl rfl lk_Push_61 mo_Car_goesAhead (by decide) rfl rfl rfl (Nat.le_of_ble_eq_true rfl) (Nat.le_of_ble_eq_true rfl) ?_
      refine V2.to (l' := [some (.ref 2)]) ?_ rfl rfl rfl rfl
      refine V2_aload_n (i := 0) d_Car_goesAhead_0 rfl rfl ?_
      refine V2_get (v := F 2 3) d_Car_goesAhead_1 fl_Car_19 (by decide) rfl (by decide) rfl rfl ?_
      refine V2_topi (fun v17 ev17 => ?_)
      refine V2_if_ne (tgt := 11) d_Car_goesAhead_4 rfl (fun c18 => ?_) (fun c18 => ?_)
      · refine V2_iconst (v := 0) d_Car_goesAhead_11 rfl ?_
        refine V2_zreturn d_Car_goesAhead_12 rfl (by decide) ?_
        refine V2.to (st' := [.int (0 : Int32)]) ?_ rfl rfl rfl rfl
        refine V2_if_eq (tgt := 11) d_Push_asPusher_4 rfl (fun _ => ?_) (fun c => absurd (by decide) c)
        refine V2_iconst (v := 0) d_Push_asPusher_11 rfl ?_
        refine V2_ireturn d_Push_asPusher_12 rfl ?_
        refine V2.to (st' := [.int (0 : Int32)]) ?_ rfl rfl rfl rfl
        refine V2_goto (tgt := 18) d_Push_asLate_14 rfl ?_
        refine V2_ireturn d_Push_asLate_18 rfl ?_
        refine V2.to (st' := [.int (0 : Int32)]) ?_ rfl rfl rfl rfl
        refine V2_ireturn d_Push_pushOf_59 rfl ?_
        exact xQi hQ (by subst ev17 ev15 ev14 ev2 ev1; first | (simp_all [pushK]; done) | (rw [xmx0]; simp_all [pushK]; done)) rfl
      · refine V2_iconst (v := 1) d_Car_goesAhead_7 rfl ?_
        refine V2_goto (tgt := 12) d_Car_goesAhead_8 rfl ?_
        refine V2_zreturn d_Car_goesAhead_12 rfl (by decide) ?_
        refine V2.to (st' := [.int (1 : Int32)]) ?_ rfl rfl rfl rfl
        refine V2_if_eq (tgt := 11) d_Push_asPusher_4 rfl (fun c => absurd c (by decide)) (fun _ => ?_)
        refine V2_iload_n (i := 0) d_Push_asPusher_7 rfl rfl ?_
        refine V2_goto (tgt := 12) d_Push_asPusher_8 rfl ?_
        refine V2_ireturn d_Push_asPusher_12 rfl ?_
        refine V2.to (st' := [.int v1]) ?_ rfl rfl rfl rfl
        refine V2_goto (tgt := 18) d_Push_asLate_14 rfl ?_
        refine V2_ireturn d_Push_asLate_18 rfl ?_
        refine V2.to (st' := [.int v1]) ?_ rfl rfl rfl rfl
        refine V2_ireturn d_Push_pushOf_59 rfl ?_
        exact xQi hQ (by subst ev17 ev15 ev14 ev2 ev1; first | (simp_all [pushK]; done) | (rw [xmx0]; simp_all [pushK]; done)) rfl
  by_cases c3_3 : v2 = 3
  · refine V2_tableIn (tgt := 60) (off := 49) d_Push_pushOf_11 (by rw [c3_3]; decide) (by rw [c3_3]; decide) (by rw [c3_3]; decide) rfl ?_
    refine V2_aload_n (i := 2) d_Push_pushOf_60 rfl rfl ?_
    refine V2_callV [] d_Push_pushOf_61 rfl rfl lk_Push_61 mo_Car_goesAhead (by decide) rfl rfl rfl (Nat.le_of_ble_eq_true rfl) (Nat.le_of_ble_eq_true rfl) ?_
    refine V2.to (l' := [some (.ref 2)]) ?_ rfl rfl rfl rfl
    refine V2_aload_n (i := 0) d_Car_goesAhead_0 rfl rfl ?_
    refine V2_get (v := F 2 3) d_Car_goesAhead_1 fl_Car_19 (by decide) rfl (by decide) rfl rfl ?_
    refine V2_topi (fun v19 ev19 => ?_)
    refine V2_if_ne (tgt := 11) d_Car_goesAhead_4 rfl (fun c20 => ?_) (fun c20 => ?_)
    · refine V2_iconst (v := 0) d_Car_goesAhead_11 rfl ?_
      refine V2_zreturn d_Car_goesAhead_12 rfl (by decide) ?_
      refine V2.to (st' := [.int (0 : Int32)]) ?_ rfl rfl rfl rfl
      refine V2_if_eq (tgt := 71) d_Push_pushOf_64 rfl (fun _ => ?_) (fun c => absurd (by decide) c)
      refine V2_iload_n (i := 3) d_Push_pushOf_71 rfl rfl ?_
      refine V2_ireturn d_Push_pushOf_72 rfl ?_
      exact xQi hQ (by subst ev19 ev2 ev1; first | (simp_all [pushK]; done) | (rw [xmx0]; simp_all [pushK]; done)) rfl
    · refine V2_iconst (v := 1) d_Car_goesAhead_7 rfl ?_
      refine V2_goto (tgt := 12) d_Car_goesAhead_8 rfl ?_
      refine V2_zreturn d_Car_goesAhead_12 rfl (by decide) ?_
      refine V2.to (st' := [.int (1 : Int32)]) ?_ rfl rfl rfl rfl
      refine V2_if_eq (tgt := 71) d_Push_pushOf_64 rfl (fun c => absurd c (by decide)) (fun _ => ?_)
      refine V2_iconst (v := 0) d_Push_pushOf_67 rfl ?_
      refine V2_goto (tgt := 72) d_Push_pushOf_68 rfl ?_
      refine V2_ireturn d_Push_pushOf_72 rfl ?_
      exact xQi hQ (by subst ev19 ev2 ev1; first | (simp_all [pushK]; done) | (rw [xmx0]; simp_all [pushK]; done)) rfl
  by_cases c3_4 : v2 = 4
  · refine V2_tableIn (tgt := 73) (off := 62) d_Push_pushOf_11 (by rw [c3_4]; decide) (by rw [c3_4]; decide) (by rw [c3_4]; decide) rfl ?_
    refine V2_iload_n (i := 3) d_Push_pushOf_73 rfl rfl ?_
    refine V2_aload_n (i := 2) d_Push_pushOf_74 rfl rfl ?_
    refine V2_callS [.int v1, .ref 2] d_Push_pushOf_75 rfl rfl lk_Push_54 mo_Push_asRhythm (Nat.le_of_ble_eq_true rfl) (Nat.le_of_ble_eq_true rfl) ?_
    refine V2.to (l' := [some (.int v1), some (.ref 2)]) ?_ rfl rfl rfl rfl
    refine V2_iload_n (i := 0) d_Push_asRhythm_0 rfl rfl ?_
    refine V2_aload_n (i := 1) d_Push_asRhythm_1 rfl rfl ?_
    refine V2_callS [.int v1, .ref 2] d_Push_asRhythm_2 rfl rfl lk_Push_80 mo_Push_asPusher (Nat.le_of_ble_eq_true rfl) (Nat.le_of_ble_eq_true rfl) ?_
    refine V2.to (l' := [some (.int v1), some (.ref 2)]) ?_ rfl rfl rfl rfl
    refine V2_aload_n (i := 1) d_Push_asPusher_0 rfl rfl ?_
    refine V2_callV [] d_Push_asPusher_1 rfl rfl lk_Push_61 mo_Car_goesAhead (by decide) rfl rfl rfl (Nat.le_of_ble_eq_true rfl) (Nat.le_of_ble_eq_true rfl) ?_
    refine V2.to (l' := [some (.ref 2)]) ?_ rfl rfl rfl rfl
    refine V2_aload_n (i := 0) d_Car_goesAhead_0 rfl rfl ?_
    refine V2_get (v := F 2 3) d_Car_goesAhead_1 fl_Car_19 (by decide) rfl (by decide) rfl rfl ?_
    refine V2_topi (fun v21 ev21 => ?_)
    refine V2_if_ne (tgt := 11) d_Car_goesAhead_4 rfl (fun c22 => ?_) (fun c22 => ?_)
    · refine V2_iconst (v := 0) d_Car_goesAhead_11 rfl ?_
      refine V2_zreturn d_Car_goesAhead_12 rfl (by decide) ?_
      refine V2.to (st' := [.int (0 : Int32)]) ?_ rfl rfl rfl rfl
      refine V2_if_eq (tgt := 11) d_Push_asPusher_4 rfl (fun _ => ?_) (fun c => absurd (by decide) c)
      refine V2_iconst (v := 0) d_Push_asPusher_11 rfl ?_
      refine V2_ireturn d_Push_asPusher_12 rfl ?_
      refine V2.to (st' := [.int (0 : Int32)]) ?_ rfl rfl rfl rfl
      refine V2_aload_n (i := 1) d_Push_asRhythm_5 rfl rfl ?_
      refine V2_callV [] d_Push_asRhythm_6 rfl rfl lk_Push_61 mo_Car_goesAhead (by decide) rfl rfl rfl (Nat.le_of_ble_eq_true rfl) (Nat.le_of_ble_eq_true rfl) ?_
      refine V2.to (l' := [some (.ref 2)]) ?_ rfl rfl rfl rfl
      refine V2_aload_n (i := 0) d_Car_goesAhead_0 rfl rfl ?_
      refine V2_get (v := F 2 3) d_Car_goesAhead_1 fl_Car_19 (by decide) rfl (by decide) rfl rfl ?_
      refine V2_topi (fun v23 ev23 => ?_)
      refine V2_if_ne (tgt := 11) d_Car_goesAhead_4 rfl (fun c24 => ?_) (fun c24 => ?_)
      · refine V2_iconst (v := 0) d_Car_goesAhead_11 rfl ?_
        refine V2_zreturn d_Car_goesAhead_12 rfl (by decide) ?_
        refine V2.to (st' := [.int (0 : Int32), .int (0 : Int32)]) ?_ rfl rfl rfl rfl
        refine V2_if_eq (tgt := 16) d_Push_asRhythm_9 rfl (fun _ => ?_) (fun c => absurd (by decide) c)
        refine V2_iconst (v := 0) d_Push_asRhythm_16 rfl ?_
        refine V2_iadd d_Push_asRhythm_17 ?_
        refine V2_topi (fun v25 ev25 => ?_)
        refine V2_ireturn d_Push_asRhythm_18 rfl ?_
        refine V2.to (st' := [.int v25]) ?_ rfl rfl rfl rfl
        refine V2_aload_n (i := 2) d_Push_pushOf_78 rfl rfl ?_
        refine V2_get (v := F 2 2) d_Push_pushOf_79 fl_Push_67 (by decide) rfl (by decide) rfl rfl ?_
        refine V2_topi (fun v26 ev26 => ?_)
        refine V2_bipush (v := 8) d_Push_pushOf_82 rfl ?_
        refine V2_idiv d_Push_pushOf_84 (by decide) ?_
        refine V2_topi (fun v27 ev27 => ?_)
        refine V2_iadd d_Push_pushOf_85 ?_
        refine V2_topi (fun v28 ev28 => ?_)
        refine V2_ireturn d_Push_pushOf_86 rfl ?_
        exact xQi hQ (by subst ev28 ev27 ev26 ev25 ev23 ev21 ev2 ev1; first | (simp_all [pushK]; done) | (rw [xmx0]; simp_all [pushK]; done)) rfl
      · refine V2_iconst (v := 1) d_Car_goesAhead_7 rfl ?_
        refine V2_goto (tgt := 12) d_Car_goesAhead_8 rfl ?_
        refine V2_zreturn d_Car_goesAhead_12 rfl (by decide) ?_
        refine V2.to (st' := [.int (1 : Int32), .int (0 : Int32)]) ?_ rfl rfl rfl rfl
        refine V2_if_eq (tgt := 16) d_Push_asRhythm_9 rfl (fun c => absurd c (by decide)) (fun _ => ?_)
        refine V2_iconst (v := 2) d_Push_asRhythm_12 rfl ?_
        refine V2_goto (tgt := 17) d_Push_asRhythm_13 rfl ?_
        refine V2_iadd d_Push_asRhythm_17 ?_
        refine V2_topi (fun v29 ev29 => ?_)
        refine V2_ireturn d_Push_asRhythm_18 rfl ?_
        refine V2.to (st' := [.int v29]) ?_ rfl rfl rfl rfl
        refine V2_aload_n (i := 2) d_Push_pushOf_78 rfl rfl ?_
        refine V2_get (v := F 2 2) d_Push_pushOf_79 fl_Push_67 (by decide) rfl (by decide) rfl rfl ?_
        refine V2_topi (fun v30 ev30 => ?_)
        refine V2_bipush (v := 8) d_Push_pushOf_82 rfl ?_
        refine V2_idiv d_Push_pushOf_84 (by decide) ?_
        refine V2_topi (fun v31 ev31 => ?_)
        refine V2_iadd d_Push_pushOf_85 ?_
        refine V2_topi (fun v32 ev32 => ?_)
        refine V2_ireturn d_Push_pushOf_86 rfl ?_
        exact xQi hQ (by subst ev32 ev31 ev30 ev29 ev23 ev21 ev2 ev1; first | (simp_all [pushK]; done) | (rw [xmx0]; simp_all [pushK]; done)) rfl
    · refine V2_iconst (v := 1) d_Car_goesAhead_7 rfl ?_
      refine V2_goto (tgt := 12) d_Car_goesAhead_8 rfl ?_
      refine V2_zreturn d_Car_goesAhead_12 rfl (by decide) ?_
      refine V2.to (st' := [.int (1 : Int32)]) ?_ rfl rfl rfl rfl
      refine V2_if_eq (tgt := 11) d_Push_asPusher_4 rfl (fun c => absurd c (by decide)) (fun _ => ?_)
      refine V2_iload_n (i := 0) d_Push_asPusher_7 rfl rfl ?_
      refine V2_goto (tgt := 12) d_Push_asPusher_8 rfl ?_
      refine V2_ireturn d_Push_asPusher_12 rfl ?_
      refine V2.to (st' := [.int v1]) ?_ rfl rfl rfl rfl
      refine V2_aload_n (i := 1) d_Push_asRhythm_5 rfl rfl ?_
      refine V2_callV [] d_Push_asRhythm_6 rfl rfl lk_Push_61 mo_Car_goesAhead (by decide) rfl rfl rfl (Nat.le_of_ble_eq_true rfl) (Nat.le_of_ble_eq_true rfl) ?_
      refine V2.to (l' := [some (.ref 2)]) ?_ rfl rfl rfl rfl
      refine V2_aload_n (i := 0) d_Car_goesAhead_0 rfl rfl ?_
      refine V2_get (v := F 2 3) d_Car_goesAhead_1 fl_Car_19 (by decide) rfl (by decide) rfl rfl ?_
      refine V2_topi (fun v33 ev33 => ?_)
      refine V2_if_ne (tgt := 11) d_Car_goesAhead_4 rfl (fun c34 => ?_) (fun c34 => ?_)
      · refine V2_iconst (v := 0) d_Car_goesAhead_11 rfl ?_
        refine V2_zreturn d_Car_goesAhead_12 rfl (by decide) ?_
        refine V2.to (st' := [.int (0 : Int32), .int v1]) ?_ rfl rfl rfl rfl
        refine V2_if_eq (tgt := 16) d_Push_asRhythm_9 rfl (fun _ => ?_) (fun c => absurd (by decide) c)
        refine V2_iconst (v := 0) d_Push_asRhythm_16 rfl ?_
        refine V2_iadd d_Push_asRhythm_17 ?_
        refine V2_topi (fun v35 ev35 => ?_)
        refine V2_ireturn d_Push_asRhythm_18 rfl ?_
        refine V2.to (st' := [.int v35]) ?_ rfl rfl rfl rfl
        refine V2_aload_n (i := 2) d_Push_pushOf_78 rfl rfl ?_
        refine V2_get (v := F 2 2) d_Push_pushOf_79 fl_Push_67 (by decide) rfl (by decide) rfl rfl ?_
        refine V2_topi (fun v36 ev36 => ?_)
        refine V2_bipush (v := 8) d_Push_pushOf_82 rfl ?_
        refine V2_idiv d_Push_pushOf_84 (by decide) ?_
        refine V2_topi (fun v37 ev37 => ?_)
        refine V2_iadd d_Push_pushOf_85 ?_
        refine V2_topi (fun v38 ev38 => ?_)
        refine V2_ireturn d_Push_pushOf_86 rfl ?_
        exact xQi hQ (by subst ev38 ev37 ev36 ev35 ev33 ev21 ev2 ev1; first | (simp_all [pushK]; done) | (rw [xmx0]; simp_all [pushK]; done)) rfl
      · refine V2_iconst (v := 1) d_Car_goesAhead_7 rfl ?_
        refine V2_goto (tgt := 12) d_Car_goesAhead_8 rfl ?_
        refine V2_zreturn d_Car_goesAhead_12 rfl (by decide) ?_
        refine V2.to (st' := [.int (1 : Int32), .int v1]) ?_ rfl rfl rfl rfl
        refine V2_if_eq (tgt := 16) d_Push_asRhythm_9 rfl (fun c => absurd c (by decide)) (fun _ => ?_)
        refine V2_iconst (v := 2) d_Push_asRhythm_12 rfl ?_
        refine V2_goto (tgt := 17) d_Push_asRhythm_13 rfl ?_
        refine V2_iadd d_Push_asRhythm_17 ?_
        refine V2_topi (fun v39 ev39 => ?_)
        refine V2_ireturn d_Push_asRhythm_18 rfl ?_
        refine V2.to (st' := [.int v39]) ?_ rfl rfl rfl rfl
        refine V2_aload_n (i := 2) d_Push_pushOf_78 rfl rfl ?_
        refine V2_get (v := F 2 2) d_Push_pushOf_79 fl_Push_67 (by decide) rfl (by decide) rfl rfl ?_
        refine V2_topi (fun v40 ev40 => ?_)
        refine V2_bipush (v := 8) d_Push_pushOf_82 rfl ?_
        refine V2_idiv d_Push_pushOf_84 (by decide) ?_
        refine V2_topi (fun v41 ev41 => ?_)
        refine V2_iadd d_Push_pushOf_85 ?_
        refine V2_topi (fun v42 ev42 => ?_)
        refine V2_ireturn d_Push_pushOf_86 rfl ?_
        exact xQi hQ (by subst ev42 ev41 ev40 ev39 ev33 ev21 ev2 ev1; first | (simp_all [pushK]; done) | (rw [xmx0]; simp_all [pushK]; done)) rfl
  by_cases c3_5 : v2 = 5
  · refine V2_tableIn (tgt := 87) (off := 76) d_Push_pushOf_11 (by rw [c3_5]; decide) (by rw [c3_5]; decide) (by rw [c3_5]; decide) rfl ?_
    refine V2_iconst (v := 0) d_Push_pushOf_87 rfl ?_
    refine V2_iload_n (i := 3) d_Push_pushOf_88 rfl rfl ?_
    refine V2_aload_n (i := 2) d_Push_pushOf_89 rfl rfl ?_
    refine V2_callS [.int v1, .ref 2] d_Push_pushOf_90 rfl rfl lk_Push_58 mo_Push_asLate (Nat.le_of_ble_eq_true rfl) (Nat.le_of_ble_eq_true rfl) ?_
    refine V2.to (l' := [some (.int v1), some (.ref 2)]) ?_ rfl rfl rfl rfl
    refine V2_aload_n (i := 1) d_Push_asLate_0 rfl rfl ?_
    refine V2_get (v := F 2 5) d_Push_asLate_1 fl_Push_71 (by decide) rfl (by decide) rfl rfl ?_
    refine V2_topi (fun v43 ev43 => ?_)
    refine V2_iconst (v := 2) d_Push_asLate_4 rfl ?_
    refine V2_iremM d_Push_asLate_5 (by decide) ?_
    refine V2_topi (fun v44 ev44 => ?_)
    refine V2_if_ne (tgt := 17) d_Push_asLate_6 rfl (fun c45 => ?_) (fun c45 => ?_)
    · refine V2_iconst (v := 0) d_Push_asLate_17 rfl ?_
      refine V2_ireturn d_Push_asLate_18 rfl ?_
      refine V2.to (st' := [.int (0 : Int32), .int (0 : Int32)]) ?_ rfl rfl rfl rfl
      refine V2_aload_n (i := 2) d_Push_pushOf_93 rfl rfl ?_
      refine V2_get (v := F 2 5) d_Push_pushOf_94 fl_Push_71 (by decide) rfl (by decide) rfl rfl ?_
      refine V2_topi (fun v46 ev46 => ?_)
      refine V2_bipush (v := 8) d_Push_pushOf_97 rfl ?_
      refine V2_idiv d_Push_pushOf_99 (by decide) ?_
      refine V2_topi (fun v47 ev47 => ?_)
      refine V2_isub d_Push_pushOf_100 ?_
      refine V2_topi (fun v48 ev48 => ?_)
      refine V2_mmax d_Push_pushOf_101 lz_Push_74 (Nat.le_of_ble_eq_true rfl) ?_
      refine V2_topi (fun v49 ev49 => ?_)
      refine V2_ireturn d_Push_pushOf_104 rfl ?_
      exact xQi hQ (by subst ev49 ev48 ev47 ev46 ev44 ev43 ev2 ev1; first | (simp_all [pushK]; done) | (rw [xmx0]; simp_all [pushK]; done)) rfl
    · refine V2_iload_n (i := 0) d_Push_asLate_9 rfl rfl ?_
      refine V2_aload_n (i := 1) d_Push_asLate_10 rfl rfl ?_
      refine V2_callS [.int v1, .ref 2] d_Push_asLate_11 rfl rfl lk_Push_80 mo_Push_asPusher (Nat.le_of_ble_eq_true rfl) (Nat.le_of_ble_eq_true rfl) ?_
      refine V2.to (l' := [some (.int v1), some (.ref 2)]) ?_ rfl rfl rfl rfl
      refine V2_aload_n (i := 1) d_Push_asPusher_0 rfl rfl ?_
      refine V2_callV [] d_Push_asPusher_1 rfl rfl lk_Push_61 mo_Car_goesAhead (by decide) rfl rfl rfl (Nat.le_of_ble_eq_true rfl) (Nat.le_of_ble_eq_true rfl) ?_
      refine V2.to (l' := [some (.ref 2)]) ?_ rfl rfl rfl rfl
      refine V2_aload_n (i := 0) d_Car_goesAhead_0 rfl rfl ?_
      refine V2_get (v := F 2 3) d_Car_goesAhead_1 fl_Car_19 (by decide) rfl (by decide) rfl rfl ?_
      refine V2_topi (fun v50 ev50 => ?_)
      refine V2_if_ne (tgt := 11) d_Car_goesAhead_4 rfl (fun c51 => ?_) (fun c51 => ?_)
      · refine V2_iconst (v := 0) d_Car_goesAhead_11 rfl ?_
        refine V2_zreturn d_Car_goesAhead_12 rfl (by decide) ?_
        refine V2.to (st' := [.int (0 : Int32)]) ?_ rfl rfl rfl rfl
        refine V2_if_eq (tgt := 11) d_Push_asPusher_4 rfl (fun _ => ?_) (fun c => absurd (by decide) c)
        refine V2_iconst (v := 0) d_Push_asPusher_11 rfl ?_
        refine V2_ireturn d_Push_asPusher_12 rfl ?_
        refine V2.to (st' := [.int (0 : Int32)]) ?_ rfl rfl rfl rfl
        refine V2_goto (tgt := 18) d_Push_asLate_14 rfl ?_
        refine V2_ireturn d_Push_asLate_18 rfl ?_
        refine V2.to (st' := [.int (0 : Int32), .int (0 : Int32)]) ?_ rfl rfl rfl rfl
        refine V2_aload_n (i := 2) d_Push_pushOf_93 rfl rfl ?_
        refine V2_get (v := F 2 5) d_Push_pushOf_94 fl_Push_71 (by decide) rfl (by decide) rfl rfl ?_
        refine V2_topi (fun v52 ev52 => ?_)
        refine V2_bipush (v := 8) d_Push_pushOf_97 rfl ?_
        refine V2_idiv d_Push_pushOf_99 (by decide) ?_
        refine V2_topi (fun v53 ev53 => ?_)
        refine V2_isub d_Push_pushOf_100 ?_
        refine V2_topi (fun v54 ev54 => ?_)
        refine V2_mmax d_Push_pushOf_101 lz_Push_74 (Nat.le_of_ble_eq_true rfl) ?_
        refine V2_topi (fun v55 ev55 => ?_)
        refine V2_ireturn d_Push_pushOf_104 rfl ?_
        exact xQi hQ (by subst ev55 ev54 ev53 ev52 ev50 ev44 ev43 ev2 ev1; first | (simp_all [pushK]; done) | (rw [xmx0]; simp_all [pushK]; done)) rfl
      · refine V2_iconst (v := 1) d_Car_goesAhead_7 rfl ?_
        refine V2_goto (tgt := 12) d_Car_goesAhead_8 rfl ?_
        refine V2_zreturn d_Car_goesAhead_12 rfl (by decide) ?_
        refine V2.to (st' := [.int (1 : Int32)]) ?_ rfl rfl rfl rfl
        refine V2_if_eq (tgt := 11) d_Push_asPusher_4 rfl (fun c => absurd c (by decide)) (fun _ => ?_)
        refine V2_iload_n (i := 0) d_Push_asPusher_7 rfl rfl ?_
        refine V2_goto (tgt := 12) d_Push_asPusher_8 rfl ?_
        refine V2_ireturn d_Push_asPusher_12 rfl ?_
        refine V2.to (st' := [.int v1]) ?_ rfl rfl rfl rfl
        refine V2_goto (tgt := 18) d_Push_asLate_14 rfl ?_
        refine V2_ireturn d_Push_asLate_18 rfl ?_
        refine V2.to (st' := [.int v1, .int (0 : Int32)]) ?_ rfl rfl rfl rfl
        refine V2_aload_n (i := 2) d_Push_pushOf_93 rfl rfl ?_
        refine V2_get (v := F 2 5) d_Push_pushOf_94 fl_Push_71 (by decide) rfl (by decide) rfl rfl ?_
        refine V2_topi (fun v56 ev56 => ?_)
        refine V2_bipush (v := 8) d_Push_pushOf_97 rfl ?_
        refine V2_idiv d_Push_pushOf_99 (by decide) ?_
        refine V2_topi (fun v57 ev57 => ?_)
        refine V2_isub d_Push_pushOf_100 ?_
        refine V2_topi (fun v58 ev58 => ?_)
        refine V2_mmax d_Push_pushOf_101 lz_Push_74 (Nat.le_of_ble_eq_true rfl) ?_
        refine V2_topi (fun v59 ev59 => ?_)
        refine V2_ireturn d_Push_pushOf_104 rfl ?_
        exact xQi hQ (by subst ev59 ev58 ev57 ev56 ev50 ev44 ev43 ev2 ev1; first | (simp_all [pushK]; done) | (rw [xmx0]; simp_all [pushK]; done)) rfl
  by_cases c3_6 : v2 = 6
  · refine V2_tableIn (tgt := 105) (off := 94) d_Push_pushOf_11 (by rw [c3_6]; decide) (by rw [c3_6]; decide) (by rw [c3_6]; decide) rfl ?_
    refine V2_iconst (v := 0) d_Push_pushOf_105 rfl ?_
    refine V2_ireturn d_Push_pushOf_106 rfl ?_
    exact xQi hQ (by subst ev2 ev1; first | (simp_all [pushK]; done) | (rw [xmx0]; simp_all [pushK]; done)) rfl
  refine V2_tableOut (tgt := 107) d_Push_pushOf_11 (by have := lv_neT (a := 1) c3_1 rfl; have := lv_neT (a := 2) c3_2 rfl; have := lv_neT (a := 3) c3_3 rfl; have := lv_neT (a := 4) c3_4 rfl; have := lv_neT (a := 5) c3_5 rfl; have := lv_neT (a := 6) c3_6 rfl; omega) rfl ?_
  refine V2_iload_n (i := 3) d_Push_pushOf_107 rfl rfl ?_
  refine V2_aload_n (i := 2) d_Push_pushOf_108 rfl rfl ?_
  refine V2_callS [.int v1, .ref 2] d_Push_pushOf_109 rfl rfl lk_Push_80 mo_Push_asPusher (Nat.le_of_ble_eq_true rfl) (Nat.le_of_ble_eq_true rfl) ?_
  refine V2.to (l' := [some (.int v1), some (.ref 2)]) ?_ rfl rfl rfl rfl
  refine V2_aload_n (i := 1) d_Push_asPusher_0 rfl rfl ?_
  refine V2_callV [] d_Push_asPusher_1 rfl rfl lk_Push_61 mo_Car_goesAhead (by decide) rfl rfl rfl (Nat.le_of_ble_eq_true rfl) (Nat.le_of_ble_eq_true rfl) ?_
  refine V2.to (l' := [some (.ref 2)]) ?_ rfl rfl rfl rfl
  refine V2_aload_n (i := 0) d_Car_goesAhead_0 rfl rfl ?_
  refine V2_get (v := F 2 3) d_Car_goesAhead_1 fl_Car_19 (by decide) rfl (by decide) rfl rfl ?_
  refine V2_topi (fun v60 ev60 => ?_)
  refine V2_if_ne (tgt := 11) d_Car_goesAhead_4 rfl (fun c61 => ?_) (fun c61 => ?_)
  · refine V2_iconst (v := 0) d_Car_goesAhead_11 rfl ?_
    refine V2_zreturn d_Car_goesAhead_12 rfl (by decide) ?_
    refine V2.to (st' := [.int (0 : Int32)]) ?_ rfl rfl rfl rfl
    refine V2_if_eq (tgt := 11) d_Push_asPusher_4 rfl (fun _ => ?_) (fun c => absurd (by decide) c)
    refine V2_iconst (v := 0) d_Push_asPusher_11 rfl ?_
    refine V2_ireturn d_Push_asPusher_12 rfl ?_
    refine V2.to (st' := [.int (0 : Int32)]) ?_ rfl rfl rfl rfl
    refine V2_ireturn d_Push_pushOf_112 rfl ?_
    exact xQi hQ (by subst ev60 ev2 ev1; first | (simp_all [pushK]; done) | (rw [xmx0]; simp_all [pushK]; done)) rfl
  · refine V2_iconst (v := 1) d_Car_goesAhead_7 rfl ?_
    refine V2_goto (tgt := 12) d_Car_goesAhead_8 rfl ?_
    refine V2_zreturn d_Car_goesAhead_12 rfl (by decide) ?_
    refine V2.to (st' := [.int (1 : Int32)]) ?_ rfl rfl rfl rfl
    refine V2_if_eq (tgt := 11) d_Push_asPusher_4 rfl (fun c => absurd c (by decide)) (fun _ => ?_)
    refine V2_iload_n (i := 0) d_Push_asPusher_7 rfl rfl ?_
    refine V2_goto (tgt := 12) d_Push_asPusher_8 rfl ?_
    refine V2_ireturn d_Push_asPusher_12 rfl ?_
    refine V2.to (st' := [.int v1]) ?_ rfl rfl rfl rfl
    refine V2_ireturn d_Push_pushOf_112 rfl ?_
    exact xQi hQ (by subst ev60 ev2 ev1; first | (simp_all [pushK]; done) | (rw [xmx0]; simp_all [pushK]; done)) rfl
theorem c_Push_pushOfSet_2_loop {L : Nat} {xs : Nat → Int32} {d : Nat} {Q : Option Value → xF → Prop} {F : xF} {P : Nat} {set : Int32} (hP : F 4 1 = nI P) (hP2 : F 6 1 = nI P) (hl : P ≤ 6) : ∀ (n : Nat) (p : Nat) (v : Int32), p ≤ P → P < n + p → v = sumTo (fun p => @ite _ (inSet set p) (Classical.propDecidable _) (pushK (F 5 p) (F 7 p) (F 2 3) (F 2 2) (F 2 5)) 0) p → (Q (some (.int (sumTo (fun p => @ite _ (inSet set p) (Classical.propDecidable _) (pushK (F 5 p) (F 7 p) (F 2 3) (F 2 2) (F 2 5)) 0) P))) F) → V2 L xs (d + 4) m_Push_pushOfSet 5 [some (.ref 3), some (.int set), some (.ref 2), some (.int v), some (.int (nI p))] [] F Q := by
  intro n
  induction n with
  | zero => exact fun p v h1 h2 => absurd h2 (by omega)
  | succ n ih =>
    intro p v h1 h2 h3 hQ
    refine V2_iload (i := 4) d_Push_pushOfSet_5 rfl ?_
    refine V2_aload_n (i := 0) d_Push_pushOfSet_7 rfl rfl ?_
    refine V2_callV [] d_Push_pushOfSet_8 rfl rfl lk_Push_83 mo_Push_size (by decide) rfl rfl rfl (Nat.le_of_ble_eq_true rfl) (Nat.le_of_ble_eq_true rfl) ?_
    refine c_Push_size hP ?_
    refine V2_icmp_ge (tgt := 43) d_Push_pushOfSet_11 rfl (fun c1 => ?_) (fun c1 => ?_)
    · refine V2_iload_n (i := 3) d_Push_pushOfSet_43 rfl rfl ?_
      refine V2_ireturn d_Push_pushOfSet_44 rfl ?_
      have hpp : p = P := by
        skip
        exact Nat.le_antisymm h1 ((nI_leI (by omega) (by omega)).mp c1)
      subst hpp
      exact xQi hQ h3 rfl
    · have hp : p < P := Nat.not_le.mp (fun hh => c1 ((nI_leI (by omega) (by omega)).mpr hh))
      refine V2_iload_n (i := 3) d_Push_pushOfSet_14 rfl rfl ?_
      refine V2_iload_n (i := 1) d_Push_pushOfSet_15 rfl rfl ?_
      refine V2_iload (i := 4) d_Push_pushOfSet_16 rfl ?_
      refine V2_callS [.int set, .int (nI p)] d_Push_pushOfSet_18 rfl rfl lk_Push_84 mo_Push_isIn (Nat.le_of_ble_eq_true rfl) (Nat.le_of_ble_eq_true rfl) ?_
      refine c_Push_isIn ?_
      refine V2_topi (fun v2 ev2 => ?_)
      refine V2_if_eq (tgt := 34) d_Push_pushOfSet_21 rfl (fun c3 => ?_) (fun c3 => ?_)
      · refine V2_iconst (v := 0) d_Push_pushOfSet_34 rfl ?_
        refine V2_iadd d_Push_pushOfSet_35 ?_
        refine V2_topi (fun v4 ev4 => ?_)
        refine V2_istore_n (i := 3) (l' := [some (.ref 3), some (.int set), some (.ref 2), some (.int v4), some (.int (nI p))]) d_Push_pushOfSet_36 rfl (xst_r (Nat.le_of_ble_eq_true rfl) rfl rfl) ?_
        obtain ⟨v5, ev5⟩ : ∃ y : Int32, y = nI p + 1 := ⟨_, rfl⟩
        refine V2_iinc (i := 4) (v := v5) (l' := [some (.ref 3), some (.int set), some (.ref 2), some (.int v4), some (.int v5)]) d_Push_pushOfSet_37 rfl (by rw [ev5]; rfl) (xst_i (Nat.le_of_ble_eq_true rfl) rfl rfl) ?_
        refine V2_goto (tgt := 5) d_Push_pushOfSet_40 rfl ?_
        exact V2.to (ih (p + 1) v4 (by omega) (by omega) (by subst ev5 ev4 ev2; rw [h3]; exact (sum_out (f := (fun p => pushK (F 5 p) (F 7 p) (F 2 3) (F 2 2) (F 2 5))) (set := set) (xin_f c3)).symm) hQ) rfl (by rw [ev5, nI_1]) rfl rfl
      · refine V2_aload_n (i := 0) d_Push_pushOfSet_24 rfl rfl ?_
        refine V2_iload (i := 4) d_Push_pushOfSet_25 rfl ?_
        refine V2_aload_n (i := 2) d_Push_pushOfSet_27 rfl rfl ?_
        refine V2_callV [.int (nI p), .ref 2] d_Push_pushOfSet_28 rfl rfl lk_Push_91 mo_Push_pushOf (by decide) rfl rfl rfl (Nat.le_of_ble_eq_true rfl) (Nat.le_of_ble_eq_true rfl) ?_
        refine c_Push_pushOf_2 hP hP2 hl hp ?_
        refine V2_topi (fun v6 ev6 => ?_)
        refine V2_goto (tgt := 35) d_Push_pushOfSet_31 rfl ?_
        refine V2_iadd d_Push_pushOfSet_35 ?_
        refine V2_topi (fun v7 ev7 => ?_)
        refine V2_istore_n (i := 3) (l' := [some (.ref 3), some (.int set), some (.ref 2), some (.int v7), some (.int (nI p))]) d_Push_pushOfSet_36 rfl (xst_r (Nat.le_of_ble_eq_true rfl) rfl rfl) ?_
        obtain ⟨v8, ev8⟩ : ∃ y : Int32, y = nI p + 1 := ⟨_, rfl⟩
        refine V2_iinc (i := 4) (v := v8) (l' := [some (.ref 3), some (.int set), some (.ref 2), some (.int v7), some (.int v8)]) d_Push_pushOfSet_37 rfl (by rw [ev8]; rfl) (xst_i (Nat.le_of_ble_eq_true rfl) rfl rfl) ?_
        refine V2_goto (tgt := 5) d_Push_pushOfSet_40 rfl ?_
        exact V2.to (ih (p + 1) v7 (by omega) (by omega) (by subst ev8 ev7 ev6 ev2; rw [h3]; exact (sum_in (f := (fun p => pushK (F 5 p) (F 7 p) (F 2 3) (F 2 2) (F 2 5))) (set := set) (xin_t c3)).symm) hQ) rfl (by rw [ev8, nI_1]) rfl rfl
theorem c_Push_pushOfSet_2 {L : Nat} {xs : Nat → Int32} {d : Nat} {Q : Option Value → xF → Prop} {F : xF} {P : Nat} {set : Int32} (hP : F 4 1 = nI P) (hP2 : F 6 1 = nI P) (hl : P ≤ 6) (hQ : Q (some (.int (sumTo (fun p => @ite _ (inSet set p) (Classical.propDecidable _) (pushK (F 5 p) (F 7 p) (F 2 3) (F 2 2) (F 2 5)) 0) P))) F) : V2 L xs (d + 4) m_Push_pushOfSet 0 (xEntry [.ref 3, .int set, .ref 2] 5) [] F Q := by
  refine V2.to (l' := [some (.ref 3), some (.int set), some (.ref 2), none, none]) ?_ rfl rfl rfl rfl
  refine V2_iconst (v := 0) d_Push_pushOfSet_0 rfl ?_
  refine V2_istore_n (i := 3) (l' := [some (.ref 3), some (.int set), some (.ref 2), some (.int (0 : Int32)), none]) d_Push_pushOfSet_1 rfl (xst_r (Nat.le_of_ble_eq_true rfl) rfl rfl) ?_
  refine V2_iconst (v := 0) d_Push_pushOfSet_2 rfl ?_
  refine V2_istore (i := 4) (l' := [some (.ref 3), some (.int set), some (.ref 2), some (.int (0 : Int32)), some (.int (0 : Int32))]) d_Push_pushOfSet_3 (xst_i (Nat.le_of_ble_eq_true rfl) rfl rfl) ?_
  exact c_Push_pushOfSet_2_loop hP hP2 hl (P + 1) 0 0 (by omega) (by omega) rfl hQ
theorem c_Push_pushOf_35 {L : Nat} {xs : Nat → Int32} {d : Nat} {Q : Option Value → xF → Prop} {F : xF} {p P : Nat} (hP : F 4 1 = nI P) (hP2 : F 6 1 = nI P) (hl : P ≤ 6) (hp : p < P) (hQ : Q (some (.int (pushK (F 5 p) (F 7 p) (F 35 3) (F 35 2) (F 35 5)))) F) : V2 L xs (d + 3) m_Push_pushOf 0 (xEntry [.ref 3, .int (nI p), .ref 35] 4) [] F Q := by
  refine V2.to (l' := [some (.ref 3), some (.int (nI p)), some (.ref 35), none]) ?_ rfl rfl rfl rfl
  refine V2_aload_n (i := 0) d_Push_pushOf_0 rfl rfl ?_
  refine V2_iload_n (i := 1) d_Push_pushOf_1 rfl rfl ?_
  refine V2_callV [.int (nI p)] d_Push_pushOf_2 rfl rfl lk_Push_51 mo_Push_levelOf (by decide) rfl rfl rfl (Nat.le_of_ble_eq_true rfl) (Nat.le_of_ble_eq_true rfl) ?_
  refine c_Push_levelOf hP hP2 hl hp ?_
  refine V2_topi (fun v1 ev1 => ?_)
  refine V2_istore_n (i := 3) (l' := [some (.ref 3), some (.int (nI p)), some (.ref 35), some (.int v1)]) d_Push_pushOf_5 rfl (xst_r (Nat.le_of_ble_eq_true rfl) rfl rfl) ?_
  refine V2_aload_n (i := 0) d_Push_pushOf_6 rfl rfl ?_
  refine V2_iload_n (i := 1) d_Push_pushOf_7 rfl rfl ?_
  refine V2_callV [.int (nI p)] d_Push_pushOf_8 rfl rfl lk_Push_46 mo_Push_kindOf (by decide) rfl rfl rfl (Nat.le_of_ble_eq_true rfl) (Nat.le_of_ble_eq_true rfl) ?_
  refine c_Push_kindOf hP hP2 hl hp ?_
  refine V2_topi (fun v2 ev2 => ?_)
  by_cases c3_1 : v2 = 1
  · refine V2_tableIn (tgt := 48) (off := 37) d_Push_pushOf_11 (by rw [c3_1]; decide) (by rw [c3_1]; decide) (by rw [c3_1]; decide) rfl ?_
    refine V2_iload_n (i := 3) d_Push_pushOf_48 rfl rfl ?_
    refine V2_aload_n (i := 2) d_Push_pushOf_49 rfl rfl ?_
    refine V2_callS [.int v1, .ref 35] d_Push_pushOf_50 rfl rfl lk_Push_54 mo_Push_asRhythm (Nat.le_of_ble_eq_true rfl) (Nat.le_of_ble_eq_true rfl) ?_
    refine V2.to (l' := [some (.int v1), some (.ref 35)]) ?_ rfl rfl rfl rfl
    refine V2_iload_n (i := 0) d_Push_asRhythm_0 rfl rfl ?_
    refine V2_aload_n (i := 1) d_Push_asRhythm_1 rfl rfl ?_
    refine V2_callS [.int v1, .ref 35] d_Push_asRhythm_2 rfl rfl lk_Push_80 mo_Push_asPusher (Nat.le_of_ble_eq_true rfl) (Nat.le_of_ble_eq_true rfl) ?_
    refine V2.to (l' := [some (.int v1), some (.ref 35)]) ?_ rfl rfl rfl rfl
    refine V2_aload_n (i := 1) d_Push_asPusher_0 rfl rfl ?_
    refine V2_callV [] d_Push_asPusher_1 rfl rfl lk_Push_61 mo_Car_goesAhead (by decide) rfl rfl rfl (Nat.le_of_ble_eq_true rfl) (Nat.le_of_ble_eq_true rfl) ?_
    refine V2.to (l' := [some (.ref 35)]) ?_ rfl rfl rfl rfl
    refine V2_aload_n (i := 0) d_Car_goesAhead_0 rfl rfl ?_
    refine V2_get (v := F 35 3) d_Car_goesAhead_1 fl_Car_19 (by decide) rfl (by decide) rfl rfl ?_
    refine V2_topi (fun v4 ev4 => ?_)
    refine V2_if_ne (tgt := 11) d_Car_goesAhead_4 rfl (fun c5 => ?_) (fun c5 => ?_)
    · refine V2_iconst (v := 0) d_Car_goesAhead_11 rfl ?_
      refine V2_zreturn d_Car_goesAhead_12 rfl (by decide) ?_
      refine V2.to (st' := [.int (0 : Int32)]) ?_ rfl rfl rfl rfl
      refine V2_if_eq (tgt := 11) d_Push_asPusher_4 rfl (fun _ => ?_) (fun c => absurd (by decide) c)
      refine V2_iconst (v := 0) d_Push_asPusher_11 rfl ?_
      refine V2_ireturn d_Push_asPusher_12 rfl ?_
      refine V2.to (st' := [.int (0 : Int32)]) ?_ rfl rfl rfl rfl
      refine V2_aload_n (i := 1) d_Push_asRhythm_5 rfl rfl ?_
      refine V2_callV [] d_Push_asRhythm_6 rfl rfl lk_Push_61 mo_Car_goesAhead (by decide) rfl rfl rfl (Nat.le_of_ble_eq_true rfl) (Nat.le_of_ble_eq_true rfl) ?_
      refine V2.to (l' := [some (.ref 35)]) ?_ rfl rfl rfl rfl
      refine V2_aload_n (i := 0) d_Car_goesAhead_0 rfl rfl ?_
      refine V2_get (v := F 35 3) d_Car_goesAhead_1 fl_Car_19 (by decide) rfl (by decide) rfl rfl ?_
      refine V2_topi (fun v6 ev6 => ?_)
      refine V2_if_ne (tgt := 11) d_Car_goesAhead_4 rfl (fun c7 => ?_) (fun c7 => ?_)
      · refine V2_iconst (v := 0) d_Car_goesAhead_11 rfl ?_
        refine V2_zreturn d_Car_goesAhead_12 rfl (by decide) ?_
        refine V2.to (st' := [.int (0 : Int32), .int (0 : Int32)]) ?_ rfl rfl rfl rfl
        refine V2_if_eq (tgt := 16) d_Push_asRhythm_9 rfl (fun _ => ?_) (fun c => absurd (by decide) c)
        refine V2_iconst (v := 0) d_Push_asRhythm_16 rfl ?_
        refine V2_iadd d_Push_asRhythm_17 ?_
        refine V2_topi (fun v8 ev8 => ?_)
        refine V2_ireturn d_Push_asRhythm_18 rfl ?_
        refine V2.to (st' := [.int v8]) ?_ rfl rfl rfl rfl
        refine V2_ireturn d_Push_pushOf_53 rfl ?_
        exact xQi hQ (by subst ev8 ev6 ev4 ev2 ev1; first | (simp_all [pushK]; done) | (rw [xmx0]; simp_all [pushK]; done)) rfl
      · refine V2_iconst (v := 1) d_Car_goesAhead_7 rfl ?_
        refine V2_goto (tgt := 12) d_Car_goesAhead_8 rfl ?_
        refine V2_zreturn d_Car_goesAhead_12 rfl (by decide) ?_
        refine V2.to (st' := [.int (1 : Int32), .int (0 : Int32)]) ?_ rfl rfl rfl rfl
        refine V2_if_eq (tgt := 16) d_Push_asRhythm_9 rfl (fun c => absurd c (by decide)) (fun _ => ?_)
        refine V2_iconst (v := 2) d_Push_asRhythm_12 rfl ?_
        refine V2_goto (tgt := 17) d_Push_asRhythm_13 rfl ?_
        refine V2_iadd d_Push_asRhythm_17 ?_
        refine V2_topi (fun v9 ev9 => ?_)
        refine V2_ireturn d_Push_asRhythm_18 rfl ?_
        refine V2.to (st' := [.int v9]) ?_ rfl rfl rfl rfl
        refine V2_ireturn d_Push_pushOf_53 rfl ?_
        exact xQi hQ (by subst ev9 ev6 ev4 ev2 ev1; first | (simp_all [pushK]; done) | (rw [xmx0]; simp_all [pushK]; done)) rfl
    · refine V2_iconst (v := 1) d_Car_goesAhead_7 rfl ?_
      refine V2_goto (tgt := 12) d_Car_goesAhead_8 rfl ?_
      refine V2_zreturn d_Car_goesAhead_12 rfl (by decide) ?_
      refine V2.to (st' := [.int (1 : Int32)]) ?_ rfl rfl rfl rfl
      refine V2_if_eq (tgt := 11) d_Push_asPusher_4 rfl (fun c => absurd c (by decide)) (fun _ => ?_)
      refine V2_iload_n (i := 0) d_Push_asPusher_7 rfl rfl ?_
      refine V2_goto (tgt := 12) d_Push_asPusher_8 rfl ?_
      refine V2_ireturn d_Push_asPusher_12 rfl ?_
      refine V2.to (st' := [.int v1]) ?_ rfl rfl rfl rfl
      refine V2_aload_n (i := 1) d_Push_asRhythm_5 rfl rfl ?_
      refine V2_callV [] d_Push_asRhythm_6 rfl rfl lk_Push_61 mo_Car_goesAhead (by decide) rfl rfl rfl (Nat.le_of_ble_eq_true rfl) (Nat.le_of_ble_eq_true rfl) ?_
      refine V2.to (l' := [some (.ref 35)]) ?_ rfl rfl rfl rfl
      refine V2_aload_n (i := 0) d_Car_goesAhead_0 rfl rfl ?_
      refine V2_get (v := F 35 3) d_Car_goesAhead_1 fl_Car_19 (by decide) rfl (by decide) rfl rfl ?_
      refine V2_topi (fun v10 ev10 => ?_)
      refine V2_if_ne (tgt := 11) d_Car_goesAhead_4 rfl (fun c11 => ?_) (fun c11 => ?_)
      · refine V2_iconst (v := 0) d_Car_goesAhead_11 rfl ?_
        refine V2_zreturn d_Car_goesAhead_12 rfl (by decide) ?_
        refine V2.to (st' := [.int (0 : Int32), .int v1]) ?_ rfl rfl rfl rfl
        refine V2_if_eq (tgt := 16) d_Push_asRhythm_9 rfl (fun _ => ?_) (fun c => absurd (by decide) c)
        refine V2_iconst (v := 0) d_Push_asRhythm_16 rfl ?_
        refine V2_iadd d_Push_asRhythm_17 ?_
        refine V2_topi (fun v12 ev12 => ?_)
        refine V2_ireturn d_Push_asRhythm_18 rfl ?_
        refine V2.to (st' := [.int v12]) ?_ rfl rfl rfl rfl
        refine V2_ireturn d_Push_pushOf_53 rfl ?_
        exact xQi hQ (by subst ev12 ev10 ev4 ev2 ev1; first | (simp_all [pushK]; done) | (rw [xmx0]; simp_all [pushK]; done)) rfl
      · refine V2_iconst (v := 1) d_Car_goesAhead_7 rfl ?_
        refine V2_goto (tgt := 12) d_Car_goesAhead_8 rfl ?_
        refine V2_zreturn d_Car_goesAhead_12 rfl (by decide) ?_
        refine V2.to (st' := [.int (1 : Int32), .int v1]) ?_ rfl rfl rfl rfl
        refine V2_if_eq (tgt := 16) d_Push_asRhythm_9 rfl (fun c => absurd c (by decide)) (fun _ => ?_)
        refine V2_iconst (v := 2) d_Push_asRhythm_12 rfl ?_
        refine V2_goto (tgt := 17) d_Push_asRhythm_13 rfl ?_
        refine V2_iadd d_Push_asRhythm_17 ?_
        refine V2_topi (fun v13 ev13 => ?_)
        refine V2_ireturn d_Push_asRhythm_18 rfl ?_
        refine V2.to (st' := [.int v13]) ?_ rfl rfl rfl rfl
        refine V2_ireturn d_Push_pushOf_53 rfl ?_
        exact xQi hQ (by subst ev13 ev10 ev4 ev2 ev1; first | (simp_all [pushK]; done) | (rw [xmx0]; simp_all [pushK]; done)) rfl
  by_cases c3_2 : v2 = 2
  · refine V2_tableIn (tgt := 54) (off := 43) d_Push_pushOf_11 (by rw [c3_2]; decide) (by rw [c3_2]; decide) (by rw [c3_2]; decide) rfl ?_
    refine V2_iload_n (i := 3) d_Push_pushOf_54 rfl rfl ?_
    refine V2_aload_n (i := 2) d_Push_pushOf_55 rfl rfl ?_
    refine V2_callS [.int v1, .ref 35] d_Push_pushOf_56 rfl rfl lk_Push_58 mo_Push_asLate (Nat.le_of_ble_eq_true rfl) (Nat.le_of_ble_eq_true rfl) ?_
    refine V2.to (l' := [some (.int v1), some (.ref 35)]) ?_ rfl rfl rfl rfl
    refine V2_aload_n (i := 1) d_Push_asLate_0 rfl rfl ?_
    refine V2_get (v := F 35 5) d_Push_asLate_1 fl_Push_71 (by decide) rfl (by decide) rfl rfl ?_
    refine V2_topi (fun v14 ev14 => ?_)
    refine V2_iconst (v := 2) d_Push_asLate_4 rfl ?_
    refine V2_iremM d_Push_asLate_5 (by decide) ?_
    refine V2_topi (fun v15 ev15 => ?_)
    refine V2_if_ne (tgt := 17) d_Push_asLate_6 rfl (fun c16 => ?_) (fun c16 => ?_)
    · refine V2_iconst (v := 0) d_Push_asLate_17 rfl ?_
      refine V2_ireturn d_Push_asLate_18 rfl ?_
      refine V2.to (st' := [.int (0 : Int32)]) ?_ rfl rfl rfl rfl
      refine V2_ireturn d_Push_pushOf_59 rfl ?_
      exact xQi hQ (by subst ev15 ev14 ev2 ev1; first | (simp_all [pushK]; done) | (rw [xmx0]; simp_all [pushK]; done)) rfl
    · refine V2_iload_n (i := 0) d_Push_asLate_9 rfl rfl ?_
      refine V2_aload_n (i := 1) d_Push_asLate_10 rfl rfl ?_
      refine V2_callS [.int v1, .ref 35] d_Push_asLate_11 rfl rfl lk_Push_80 mo_Push_asPusher (Nat.le_of_ble_eq_true rfl) (Nat.le_of_ble_eq_true rfl) ?_
      refine V2.to (l' := [some (.int v1), some (.ref 35)]) ?_ rfl rfl rfl rfl
      refine V2_aload_n (i := 1) d_Push_asPusher_0 rfl rfl ?_
      refine V2_callV [] d_Push_asPusher_1 rfl rfl lk_Push_61 mo_Car_goesAhead (by decide) rfl rfl rfl (Nat.le_of_ble_eq_true rfl) (Nat.le_of_ble_eq_true rfl) ?_
      refine V2.to (l' := [some (.ref 35)]) ?_ rfl rfl rfl rfl
      refine V2_aload_n (i := 0) d_Car_goesAhead_0 rfl rfl ?_
      refine V2_get (v := F 35 3) d_Car_goesAhead_1 fl_Car_19 (by decide) rfl (by decide) rfl rfl ?_
      refine V2_topi (fun v17 ev17 => ?_)
      refine V2_if_ne (tgt := 11) d_Car_goesAhead_4 rfl (fun c18 => ?_) (fun c18 => ?_)
      · refine V2_iconst (v := 0) d_Car_goesAhead_11 rfl ?_
        refine V2_zreturn d_Car_goesAhead_12 rfl (by decide) ?_
        refine V2.to (st' := [.int (0 : Int32)]) ?_ rfl rfl rfl rfl
        refine V2_if_eq (tgt := 11) d_Push_asPusher_4 rfl (fun _ => ?_) (fun c => absurd (by decide) c)
        refine V2_iconst (v := 0) d_Push_asPusher_11 rfl ?_
        refine V2_ireturn d_Push_asPusher_12 rfl ?_
        refine V2.to (st' := [.int (0 : Int32)]) ?_ rfl rfl rfl rfl
        refine V2_goto (tgt := 18) d_Push_asLate_14 rfl ?_
        refine V2_ireturn d_Push_asLate_18 rfl ?_
        refine V2.to (st' := [.int (0 : Int32)]) ?_ rfl rfl rfl rfl
        refine V2_ireturn d_Push_pushOf_59 rfl ?_
        exact xQi hQ (by subst ev17 ev15 ev14 ev2 ev1; first | (simp_all [pushK]; done) | (rw [xmx0]; simp_all [pushK]; done)) rfl
      · refine V2_iconst (v := 1) d_Car_goesAhead_7 rfl ?_
        refine V2_goto (tgt := 12) d_Car_goesAhead_8 rfl ?_
        refine V2_zreturn d_Car_goesAhead_12 rfl (by decide) ?_
        refine V2.to (st' := [.int (1 : Int32)]) ?_ rfl rfl rfl rfl
        refine V2_if_eq (tgt := 11) d_Push_asPusher_4 rfl (fun c => absurd c (by decide)) (fun _ => ?_)
        refine V2_iload_n (i := 0) d_Push_asPusher_7 rfl rfl ?_
        refine V2_goto (tgt := 12) d_Push_asPusher_8 rfl ?_
        refine V2_ireturn d_Push_asPusher_12 rfl ?_
        refine V2.to (st' := [.int v1]) ?_ rfl rfl rfl rfl
        refine V2_goto (tgt := 18) d_Push_asLate_14 rfl ?_
        refine V2_ireturn d_Push_asLate_18 rfl ?_
        refine V2.to (st' := [.int v1]) ?_ rfl rfl rfl rfl
        refine V2_ireturn d_Push_pushOf_59 rfl ?_
        exact xQi hQ (by subst ev17 ev15 ev14 ev2 ev1; first | (simp_all [pushK]; done) | (rw [xmx0]; simp_all [pushK]; done)) rfl
  by_cases c3_3 : v2 = 3
  · refine V2_tableIn (tgt := 60) (off := 49) d_Push_pushOf_11 (by rw [c3_3]; decide) (by rw [c3_3]; decide) (by rw [c3_3]; decide) rfl ?_
    refine V2_aload_n (i := 2) d_Push_pushOf_60 rfl rfl ?_
    refine V2_callV [] d_Push_pushOf_61 rfl rfl lk_Push_61 mo_Car_goesAhead (by decide) rfl rfl rfl (Nat.le_of_ble_eq_true rfl) (Nat.le_of_ble_eq_true rfl) ?_
    refine V2.to (l' := [some (.ref 35)]) ?_ rfl rfl rfl rfl
    refine V2_aload_n (i := 0) d_Car_goesAhead_0 rfl rfl ?_
    refine V2_get (v := F 35 3) d_Car_goesAhead_1 fl_Car_19 (by decide) rfl (by decide) rfl rfl ?_
    refine V2_topi (fun v19 ev19 => ?_)
    refine V2_if_ne (tgt := 11) d_Car_goesAhead_4 rfl (fun c20 => ?_) (fun c20 => ?_)
    · refine V2_iconst (v := 0) d_Car_goesAhead_11 rfl ?_
      refine V2_zreturn d_Car_goesAhead_12 rfl (by decide) ?_
      refine V2.to (st' := [.int (0 : Int32)]) ?_ rfl rfl rfl rfl
      refine V2_if_eq (tgt := 71) d_Push_pushOf_64 rfl (fun _ => ?_) (fun c => absurd (by decide) c)
      refine V2_iload_n (i := 3) d_Push_pushOf_71 rfl rfl ?_
      refine V2_ireturn d_Push_pushOf_72 rfl ?_
      exact xQi hQ (by subst ev19 ev2 ev1; first | (simp_all [pushK]; done) | (rw [xmx0]; simp_all [pushK]; done)) rfl
    · refine V2_iconst (v := 1) d_Car_goesAhead_7 rfl ?_
      refine V2_goto (tgt := 12) d_Car_goesAhead_8 rfl ?_
      refine V2_zreturn d_Car_goesAhead_12 rfl (by decide) ?_
      refine V2.to (st' := [.int (1 : Int32)]) ?_ rfl rfl rfl rfl
      refine V2_if_eq (tgt := 71) d_Push_pushOf_64 rfl (fun c => absurd c (by decide)) (fun _ => ?_)
      refine V2_iconst (v := 0) d_Push_pushOf_67 rfl ?_
      refine V2_goto (tgt := 72) d_Push_pushOf_68 rfl ?_
      refine V2_ireturn d_Push_pushOf_72 rfl ?_
      exact xQi hQ (by subst ev19 ev2 ev1; first | (simp_all [pushK]; done) | (rw [xmx0]; simp_all [pushK]; done)) rfl
  by_cases c3_4 : v2 = 4
  · refine V2_tableIn (tgt := 73) (off := 62) d_Push_pushOf_11 (by rw [c3_4]; decide) (by rw [c3_4]; decide) (by rw [c3_4]; decide) rfl ?_
    refine V2_iload_n (i := 3) d_Push_pushOf_73 rfl rfl ?_
    refine V2_aload_n (i := 2) d_Push_pushOf_74 rfl rfl ?_
    refine V2_callS [.int v1, .ref 35] d_Push_pushOf_75 rfl rfl lk_Push_54 mo_Push_asRhythm (Nat.le_of_ble_eq_true rfl) (Nat.le_of_ble_eq_true rfl) ?_
    refine V2.to (l' := [some (.int v1), some (.ref 35)]) ?_ rfl rfl rfl rfl
    refine V2_iload_n (i := 0) d_Push_asRhythm_0 rfl rfl ?_
    refine V2_aload_n (i := 1) d_Push_asRhythm_1 rfl rfl ?_
    refine V2_callS [.int v1, .ref 35] d_Push_asRhythm_2 rfl rfl lk_Push_80 mo_Push_asPusher (Nat.le_of_ble_eq_true rfl) (Nat.le_of_ble_eq_true rfl) ?_
    refine V2.to (l' := [some (.int v1), some (.ref 35)]) ?_ rfl rfl rfl rfl
    refine V2_aload_n (i := 1) d_Push_asPusher_0 rfl rfl ?_
    refine V2_callV [] d_Push_asPusher_1 rfl rfl lk_Push_61 mo_Car_goesAhead (by decide) rfl rfl rfl (Nat.le_of_ble_eq_true rfl) (Nat.le_of_ble_eq_true rfl) ?_
    refine V2.to (l' := [some (.ref 35)]) ?_ rfl rfl rfl rfl
    refine V2_aload_n (i := 0) d_Car_goesAhead_0 rfl rfl ?_
    refine V2_get (v := F 35 3) d_Car_goesAhead_1 fl_Car_19 (by decide) rfl (by decide) rfl rfl ?_
    refine V2_topi (fun v21 ev21 => ?_)
    refine V2_if_ne (tgt := 11) d_Car_goesAhead_4 rfl (fun c22 => ?_) (fun c22 => ?_)
    · refine V2_iconst (v := 0) d_Car_goesAhead_11 rfl ?_
      refine V2_zreturn d_Car_goesAhead_12 rfl (by decide) ?_
      refine V2.to (st' := [.int (0 : Int32)]) ?_ rfl rfl rfl rfl
      refine V2_if_eq (tgt := 11) d_Push_asPusher_4 rfl (fun _ => ?_) (fun c => absurd (by decide) c)
      refine V2_iconst (v := 0) d_Push_asPusher_11 rfl ?_
      refine V2_ireturn d_Push_asPusher_12 rfl ?_
      refine V2.to (st' := [.int (0 : Int32)]) ?_ rfl rfl rfl rfl
      refine V2_aload_n (i := 1) d_Push_asRhythm_5 rfl rfl ?_
      refine V2_callV [] d_Push_asRhythm_6 rfl rfl lk_Push_61 mo_Car_goesAhead (by decide) rfl rfl rfl (Nat.le_of_ble_eq_true rfl) (Nat.le_of_ble_eq_true rfl) ?_
      refine V2.to (l' := [some (.ref 35)]) ?_ rfl rfl rfl rfl
      refine V2_aload_n (i := 0) d_Car_goesAhead_0 rfl rfl ?_
      refine V2_get (v := F 35 3) d_Car_goesAhead_1 fl_Car_19 (by decide) rfl (by decide) rfl rfl ?_
      refine V2_topi (fun v23 ev23 => ?_)
      refine V2_if_ne (tgt := 11) d_Car_goesAhead_4 rfl (fun c24 => ?_) (fun c24 => ?_)
      · refine V2_iconst (v := 0) d_Car_goesAhead_11 rfl ?_
        refine V2_zreturn d_Car_goesAhead_12 rfl (by decide) ?_
        refine V2.to (st' := [.int (0 : Int32), .int (0 : Int32)]) ?_ rfl rfl rfl rfl
        refine V2_if_eq (tgt := 16) d_Push_asRhythm_9 rfl (fun _ => ?_) (fun c => absurd (by decide) c)
        refine V2_iconst (v := 0) d_Push_asRhythm_16 rfl ?_
        refine V2_iadd d_Push_asRhythm_17 ?_
        refine V2_topi (fun v25 ev25 => ?_)
        refine V2_ireturn d_Push_asRhythm_18 rfl ?_
        refine V2.to (st' := [.int v25]) ?_ rfl rfl rfl rfl
        refine V2_aload_n (i := 2) d_Push_pushOf_78 rfl rfl ?_
        refine V2_get (v := F 35 2) d_Push_pushOf_79 fl_Push_67 (by decide) rfl (by decide) rfl rfl ?_
        refine V2_topi (fun v26 ev26 => ?_)
        refine V2_bipush (v := 8) d_Push_pushOf_82 rfl ?_
        refine V2_idiv d_Push_pushOf_84 (by decide) ?_
        refine V2_topi (fun v27 ev27 => ?_)
        refine V2_iadd d_Push_pushOf_85 ?_
        refine V2_topi (fun v28 ev28 => ?_)
        refine V2_ireturn d_Push_pushOf_86 rfl ?_
        exact xQi hQ (by subst ev28 ev27 ev26 ev25 ev23 ev21 ev2 ev1; first | (simp_all [pushK]; done) | (rw [xmx0]; simp_all [pushK]; done)) rfl
      · refine V2_iconst (v := 1) d_Car_goesAhead_7 rfl ?_
        refine V2_goto (tgt := 12) d_Car_goesAhead_8 rfl ?_
        refine V2_zreturn d_Car_goesAhead_12 rfl (by decide) ?_
        refine V2.to (st' := [.int (1 : Int32), .int (0 : Int32)]) ?_ rfl rfl rfl rfl
        refine V2_if_eq (tgt := 16) d_Push_asRhythm_9 rfl (fun c => absurd c (by decide)) (fun _ => ?_)
        refine V2_iconst (v := 2) d_Push_asRhythm_12 rfl ?_
        refine V2_goto (tgt := 17) d_Push_asRhythm_13 rfl ?_
        refine V2_iadd d_Push_asRhythm_17 ?_
        refine V2_topi (fun v29 ev29 => ?_)
        refine V2_ireturn d_Push_asRhythm_18 rfl ?_
        refine V2.to (st' := [.int v29]) ?_ rfl rfl rfl rfl
        refine V2_aload_n (i := 2) d_Push_pushOf_78 rfl rfl ?_
        refine V2_get (v := F 35 2) d_Push_pushOf_79 fl_Push_67 (by decide) rfl (by decide) rfl rfl ?_
        refine V2_topi (fun v30 ev30 => ?_)
        refine V2_bipush (v := 8) d_Push_pushOf_82 rfl ?_
        refine V2_idiv d_Push_pushOf_84 (by decide) ?_
        refine V2_topi (fun v31 ev31 => ?_)
        refine V2_iadd d_Push_pushOf_85 ?_
        refine V2_topi (fun v32 ev32 => ?_)
        refine V2_ireturn d_Push_pushOf_86 rfl ?_
        exact xQi hQ (by subst ev32 ev31 ev30 ev29 ev23 ev21 ev2 ev1; first | (simp_all [pushK]; done) | (rw [xmx0]; simp_all [pushK]; done)) rfl
    · refine V2_iconst (v := 1) d_Car_goesAhead_7 rfl ?_
      refine V2_goto (tgt := 12) d_Car_goesAhead_8 rfl ?_
      refine V2_zreturn d_Car_goesAhead_12 rfl (by decide) ?_
      refine V2.to (st' := [.int (1 : Int32)]) ?_ rfl rfl rfl rfl
      refine V2_if_eq (tgt := 11) d_Push_asPusher_4 rfl (fun c => absurd c (by decide)) (fun _ => ?_)
      refine V2_iload_n (i := 0) d_Push_asPusher_7 rfl rfl ?_
      refine V2_goto (tgt := 12) d_Push_asPusher_8 rfl ?_
      refine V2_ireturn d_Push_asPusher_12 rfl ?_
      refine V2.to (st' := [.int v1]) ?_ rfl rfl rfl rfl
      refine V2_aload_n (i := 1) d_Push_asRhythm_5 rfl rfl ?_
      refine V2_callV [] d_Push_asRhythm_6 rfl rfl lk_Push_61 mo_Car_goesAhead (by decide) rfl rfl rfl (Nat.le_of_ble_eq_true rfl) (Nat.le_of_ble_eq_true rfl) ?_
      refine V2.to (l' := [some (.ref 35)]) ?_ rfl rfl rfl rfl
      refine V2_aload_n (i := 0) d_Car_goesAhead_0 rfl rfl ?_
      refine V2_get (v := F 35 3) d_Car_goesAhead_1 fl_Car_19 (by decide) rfl (by decide) rfl rfl ?_
      refine V2_topi (fun v33 ev33 => ?_)
      refine V2_if_ne (tgt := 11) d_Car_goesAhead_4 rfl (fun c34 => ?_) (fun c34 => ?_)
      · refine V2_iconst (v := 0) d_Car_goesAhead_11 rfl ?_
        refine V2_zreturn d_Car_goesAhead_12 rfl (by decide) ?_
        refine V2.to (st' := [.int (0 : Int32), .int v1]) ?_ rfl rfl rfl rfl
        refine V2_if_eq (tgt := 16) d_Push_asRhythm_9 rfl (fun _ => ?_) (fun c => absurd (by decide) c)
        refine V2_iconst (v := 0) d_Push_asRhythm_16 rfl ?_
        refine V2_iadd d_Push_asRhythm_17 ?_
        refine V2_topi (fun v35 ev35 => ?_)
        refine V2_ireturn d_Push_asRhythm_18 rfl ?_
        refine V2.to (st' := [.int v35]) ?_ rfl rfl rfl rfl
        refine V2_aload_n (i := 2) d_Push_pushOf_78 rfl rfl ?_
        refine V2_get (v := F 35 2) d_Push_pushOf_79 fl_Push_67 (by decide) rfl (by decide) rfl rfl ?_
        refine V2_topi (fun v36 ev36 => ?_)
        refine V2_bipush (v := 8) d_Push_pushOf_82 rfl ?_
        refine V2_idiv d_Push_pushOf_84 (by decide) ?_
        refine V2_topi (fun v37 ev37 => ?_)
        refine V2_iadd d_Push_pushOf_85 ?_
        refine V2_topi (fun v38 ev38 => ?_)
        refine V2_ireturn d_Push_pushOf_86 rfl ?_
        exact xQi hQ (by subst ev38 ev37 ev36 ev35 ev33 ev21 ev2 ev1; first | (simp_all [pushK]; done) | (rw [xmx0]; simp_all [pushK]; done)) rfl
      · refine V2_iconst (v := 1) d_Car_goesAhead_7 rfl ?_
        refine V2_goto (tgt := 12) d_Car_goesAhead_8 rfl ?_
        refine V2_zreturn d_Car_goesAhead_12 rfl (by decide) ?_
        refine V2.to (st' := [.int (1 : Int32), .int v1]) ?_ rfl rfl rfl rfl
        refine V2_if_eq (tgt := 16) d_Push_asRhythm_9 rfl (fun c => absurd c (by decide)) (fun _ => ?_)
        refine V2_iconst (v := 2) d_Push_asRhythm_12 rfl ?_
        refine V2_goto (tgt := 17) d_Push_asRhythm_13 rfl ?_
        refine V2_iadd d_Push_asRhythm_17 ?_
        refine V2_topi (fun v39 ev39 => ?_)
        refine V2_ireturn d_Push_asRhythm_18 rfl ?_
        refine V2.to (st' := [.int v39]) ?_ rfl rfl rfl rfl
        refine V2_aload_n (i := 2) d_Push_pushOf_78 rfl rfl ?_
        refine V2_get (v := F 35 2) d_Push_pushOf_79 fl_Push_67 (by decide) rfl (by decide) rfl rfl ?_
        refine V2_topi (fun v40 ev40 => ?_)
        refine V2_bipush (v := 8) d_Push_pushOf_82 rfl ?_
        refine V2_idiv d_Push_pushOf_84 (by decide) ?_
        refine V2_topi (fun v41 ev41 => ?_)
        refine V2_iadd d_Push_pushOf_85 ?_
        refine V2_topi (fun v42 ev42 => ?_)
        refine V2_ireturn d_Push_pushOf_86 rfl ?_
        exact xQi hQ (by subst ev42 ev41 ev40 ev39 ev33 ev21 ev2 ev1; first | (simp_all [pushK]; done) | (rw [xmx0]; simp_all [pushK]; done)) rfl
  by_cases c3_5 : v2 = 5
  · refine V2_tableIn (tgt := 87) (off := 76) d_Push_pushOf_11 (by rw [c3_5]; decide) (by rw [c3_5]; decide) (by rw [c3_5]; decide) rfl ?_
    refine V2_iconst (v := 0) d_Push_pushOf_87 rfl ?_
    refine V2_iload_n (i := 3) d_Push_pushOf_88 rfl rfl ?_
    refine V2_aload_n (i := 2) d_Push_pushOf_89 rfl rfl ?_
    refine V2_callS [.int v1, .ref 35] d_Push_pushOf_90 rfl rfl lk_Push_58 mo_Push_asLate (Nat.le_of_ble_eq_true rfl) (Nat.le_of_ble_eq_true rfl) ?_
    refine V2.to (l' := [some (.int v1), some (.ref 35)]) ?_ rfl rfl rfl rfl
    refine V2_aload_n (i := 1) d_Push_asLate_0 rfl rfl ?_
    refine V2_get (v := F 35 5) d_Push_asLate_1 fl_Push_71 (by decide) rfl (by decide) rfl rfl ?_
    refine V2_topi (fun v43 ev43 => ?_)
    refine V2_iconst (v := 2) d_Push_asLate_4 rfl ?_
    refine V2_iremM d_Push_asLate_5 (by decide) ?_
    refine V2_topi (fun v44 ev44 => ?_)
    refine V2_if_ne (tgt := 17) d_Push_asLate_6 rfl (fun c45 => ?_) (fun c45 => ?_)
    · refine V2_iconst (v := 0) d_Push_asLate_17 rfl ?_
      refine V2_ireturn d_Push_asLate_18 rfl ?_
      refine V2.to (st' := [.int (0 : Int32), .int (0 : Int32)]) ?_ rfl rfl rfl rfl
      refine V2_aload_n (i := 2) d_Push_pushOf_93 rfl rfl ?_
      refine V2_get (v := F 35 5) d_Push_pushOf_94 fl_Push_71 (by decide) rfl (by decide) rfl rfl ?_
      refine V2_topi (fun v46 ev46 => ?_)
      refine V2_bipush (v := 8) d_Push_pushOf_97 rfl ?_
      refine V2_idiv d_Push_pushOf_99 (by decide) ?_
      refine V2_topi (fun v47 ev47 => ?_)
      refine V2_isub d_Push_pushOf_100 ?_
      refine V2_topi (fun v48 ev48 => ?_)
      refine V2_mmax d_Push_pushOf_101 lz_Push_74 (Nat.le_of_ble_eq_true rfl) ?_
      refine V2_topi (fun v49 ev49 => ?_)
      refine V2_ireturn d_Push_pushOf_104 rfl ?_
      exact xQi hQ (by subst ev49 ev48 ev47 ev46 ev44 ev43 ev2 ev1; first | (simp_all [pushK]; done) | (rw [xmx0]; simp_all [pushK]; done)) rfl
    · refine V2_iload_n (i := 0) d_Push_asLate_9 rfl rfl ?_
      refine V2_aload_n (i := 1) d_Push_asLate_10 rfl rfl ?_
      refine V2_callS [.int v1, .ref 35] d_Push_asLate_11 rfl rfl lk_Push_80 mo_Push_asPusher (Nat.le_of_ble_eq_true rfl) (Nat.le_of_ble_eq_true rfl) ?_
      refine V2.to (l' := [some (.int v1), some (.ref 35)]) ?_ rfl rfl rfl rfl
      refine V2_aload_n (i := 1) d_Push_asPusher_0 rfl rfl ?_
      refine V2_callV [] d_Push_asPusher_1 rfl rfl lk_Push_61 mo_Car_goesAhead (by decide) rfl rfl rfl (Nat.le_of_ble_eq_true rfl) (Nat.le_of_ble_eq_true rfl) ?_
      refine V2.to (l' := [some (.ref 35)]) ?_ rfl rfl rfl rfl
      refine V2_aload_n (i := 0) d_Car_goesAhead_0 rfl rfl ?_
      refine V2_get (v := F 35 3) d_Car_goesAhead_1 fl_Car_19 (by decide) rfl (by decide) rfl rfl ?_
      refine V2_topi (fun v50 ev50 => ?_)
      refine V2_if_ne (tgt := 11) d_Car_goesAhead_4 rfl (fun c51 => ?_) (fun c51 => ?_)
      · refine V2_iconst (v := 0) d_Car_goesAhead_11 rfl ?_
        refine V2_zreturn d_Car_goesAhead_12 rfl (by decide) ?_
        refine V2.to (st' := [.int (0 : Int32)]) ?_ rfl rfl rfl rfl
        refine V2_if_eq (tgt := 11) d_Push_asPusher_4 rfl (fun _ => ?_) (fun c => absurd (by decide) c)
        refine V2_iconst (v := 0) d_Push_asPusher_11 rfl ?_
        refine V2_ireturn d_Push_asPusher_12 rfl ?_
        refine V2.to (st' := [.int (0 : Int32)]) ?_ rfl rfl rfl rfl
        refine V2_goto (tgt := 18) d_Push_asLate_14 rfl ?_
        refine V2_ireturn d_Push_asLate_18 rfl ?_
        refine V2.to (st' := [.int (0 : Int32), .int (0 : Int32)]) ?_ rfl rfl rfl rfl
        refine V2_aload_n (i := 2) d_Push_pushOf_93 rfl rfl ?_
        refine V2_get (v := F 35 5) d_Push_pushOf_94 fl_Push_71 (by decide) rfl (by decide) rfl rfl ?_
        refine V2_topi (fun v52 ev52 => ?_)
        refine V2_bipush (v := 8) d_Push_pushOf_97 rfl ?_
        refine V2_idiv d_Push_pushOf_99 (by decide) ?_
        refine V2_topi (fun v53 ev53 => ?_)
        refine V2_isub d_Push_pushOf_100 ?_
        refine V2_topi (fun v54 ev54 => ?_)
        refine V2_mmax d_Push_pushOf_101 lz_Push_74 (Nat.le_of_ble_eq_true rfl) ?_
        refine V2_topi (fun v55 ev55 => ?_)
        refine V2_ireturn d_Push_pushOf_104 rfl ?_
        exact xQi hQ (by subst ev55 ev54 ev53 ev52 ev50 ev44 ev43 ev2 ev1; first | (simp_all [pushK]; done) | (rw [xmx0]; simp_all [pushK]; done)) rfl
      · refine V2_iconst (v := 1) d_Car_goesAhead_7 rfl ?_
        refine V2_goto (tgt := 12) d_Car_goesAhead_8 rfl ?_
        refine V2_zreturn d_Car_goesAhead_12 rfl (by decide) ?_
        refine V2.to (st' := [.int (1 : Int32)]) ?_ rfl rfl rfl rfl
        refine V2_if_eq (tgt := 11) d_Push_asPusher_4 rfl (fun c => absurd c (by decide)) (fun _ => ?_)
        refine V2_iload_n (i := 0) d_Push_asPusher_7 rfl rfl ?_
        refine V2_goto (tgt := 12) d_Push_asPusher_8 rfl ?_
        refine V2_ireturn d_Push_asPusher_12 rfl ?_
        refine V2.to (st' := [.int v1]) ?_ rfl rfl rfl rfl
        refine V2_goto (tgt := 18) d_Push_asLate_14 rfl ?_
        refine V2_ireturn d_Push_asLate_18 rfl ?_
        refine V2.to (st' := [.int v1, .int (0 : Int32)]) ?_ rfl rfl rfl rfl
        refine V2_aload_n (i := 2) d_Push_pushOf_93 rfl rfl ?_
        refine V2_get (v := F 35 5) d_Push_pushOf_94 fl_Push_71 (by decide) rfl (by decide) rfl rfl ?_
        refine V2_topi (fun v56 ev56 => ?_)
        refine V2_bipush (v := 8) d_Push_pushOf_97 rfl ?_
        refine V2_idiv d_Push_pushOf_99 (by decide) ?_
        refine V2_topi (fun v57 ev57 => ?_)
        refine V2_isub d_Push_pushOf_100 ?_
        refine V2_topi (fun v58 ev58 => ?_)
        refine V2_mmax d_Push_pushOf_101 lz_Push_74 (Nat.le_of_ble_eq_true rfl) ?_
        refine V2_topi (fun v59 ev59 => ?_)
        refine V2_ireturn d_Push_pushOf_104 rfl ?_
        exact xQi hQ (by subst ev59 ev58 ev57 ev56 ev50 ev44 ev43 ev2 ev1; first | (simp_all [pushK]; done) | (rw [xmx0]; simp_all [pushK]; done)) rfl
  by_cases c3_6 : v2 = 6
  · refine V2_tableIn (tgt := 105) (off := 94) d_Push_pushOf_11 (by rw [c3_6]; decide) (by rw [c3_6]; decide) (by rw [c3_6]; decide) rfl ?_
    refine V2_iconst (v := 0) d_Push_pushOf_105 rfl ?_
    refine V2_ireturn d_Push_pushOf_106 rfl ?_
    exact xQi hQ (by subst ev2 ev1; first | (simp_all [pushK]; done) | (rw [xmx0]; simp_all [pushK]; done)) rfl
  refine V2_tableOut (tgt := 107) d_Push_pushOf_11 (by have := lv_neT (a := 1) c3_1 rfl; have := lv_neT (a := 2) c3_2 rfl; have := lv_neT (a := 3) c3_3 rfl; have := lv_neT (a := 4) c3_4 rfl; have := lv_neT (a := 5) c3_5 rfl; have := lv_neT (a := 6) c3_6 rfl; omega) rfl ?_
  refine V2_iload_n (i := 3) d_Push_pushOf_107 rfl rfl ?_
  refine V2_aload_n (i := 2) d_Push_pushOf_108 rfl rfl ?_
  refine V2_callS [.int v1, .ref 35] d_Push_pushOf_109 rfl rfl lk_Push_80 mo_Push_asPusher (Nat.le_of_ble_eq_true rfl) (Nat.le_of_ble_eq_true rfl) ?_
  refine V2.to (l' := [some (.int v1), some (.ref 35)]) ?_ rfl rfl rfl rfl
  refine V2_aload_n (i := 1) d_Push_asPusher_0 rfl rfl ?_
  refine V2_callV [] d_Push_asPusher_1 rfl rfl lk_Push_61 mo_Car_goesAhead (by decide) rfl rfl rfl (Nat.le_of_ble_eq_true rfl) (Nat.le_of_ble_eq_true rfl) ?_
  refine V2.to (l' := [some (.ref 35)]) ?_ rfl rfl rfl rfl
  refine V2_aload_n (i := 0) d_Car_goesAhead_0 rfl rfl ?_
  refine V2_get (v := F 35 3) d_Car_goesAhead_1 fl_Car_19 (by decide) rfl (by decide) rfl rfl ?_
  refine V2_topi (fun v60 ev60 => ?_)
  refine V2_if_ne (tgt := 11) d_Car_goesAhead_4 rfl (fun c61 => ?_) (fun c61 => ?_)
  · refine V2_iconst (v := 0) d_Car_goesAhead_11 rfl ?_
    refine V2_zreturn d_Car_goesAhead_12 rfl (by decide) ?_
    refine V2.to (st' := [.int (0 : Int32)]) ?_ rfl rfl rfl rfl
    refine V2_if_eq (tgt := 11) d_Push_asPusher_4 rfl (fun _ => ?_) (fun c => absurd (by decide) c)
    refine V2_iconst (v := 0) d_Push_asPusher_11 rfl ?_
    refine V2_ireturn d_Push_asPusher_12 rfl ?_
    refine V2.to (st' := [.int (0 : Int32)]) ?_ rfl rfl rfl rfl
    refine V2_ireturn d_Push_pushOf_112 rfl ?_
    exact xQi hQ (by subst ev60 ev2 ev1; first | (simp_all [pushK]; done) | (rw [xmx0]; simp_all [pushK]; done)) rfl
  · refine V2_iconst (v := 1) d_Car_goesAhead_7 rfl ?_
    refine V2_goto (tgt := 12) d_Car_goesAhead_8 rfl ?_
    refine V2_zreturn d_Car_goesAhead_12 rfl (by decide) ?_
    refine V2.to (st' := [.int (1 : Int32)]) ?_ rfl rfl rfl rfl
    refine V2_if_eq (tgt := 11) d_Push_asPusher_4 rfl (fun c => absurd c (by decide)) (fun _ => ?_)
    refine V2_iload_n (i := 0) d_Push_asPusher_7 rfl rfl ?_
    refine V2_goto (tgt := 12) d_Push_asPusher_8 rfl ?_
    refine V2_ireturn d_Push_asPusher_12 rfl ?_
    refine V2.to (st' := [.int v1]) ?_ rfl rfl rfl rfl
    refine V2_ireturn d_Push_pushOf_112 rfl ?_
    exact xQi hQ (by subst ev60 ev2 ev1; first | (simp_all [pushK]; done) | (rw [xmx0]; simp_all [pushK]; done)) rfl
theorem c_Push_pushOfSet_35_loop {L : Nat} {xs : Nat → Int32} {d : Nat} {Q : Option Value → xF → Prop} {F : xF} {P : Nat} {set : Int32} (hP : F 4 1 = nI P) (hP2 : F 6 1 = nI P) (hl : P ≤ 6) : ∀ (n : Nat) (p : Nat) (v : Int32), p ≤ P → P < n + p → v = sumTo (fun p => @ite _ (inSet set p) (Classical.propDecidable _) (pushK (F 5 p) (F 7 p) (F 35 3) (F 35 2) (F 35 5)) 0) p → (Q (some (.int (sumTo (fun p => @ite _ (inSet set p) (Classical.propDecidable _) (pushK (F 5 p) (F 7 p) (F 35 3) (F 35 2) (F 35 5)) 0) P))) F) → V2 L xs (d + 4) m_Push_pushOfSet 5 [some (.ref 3), some (.int set), some (.ref 35), some (.int v), some (.int (nI p))] [] F Q := by
  intro n
  induction n with
  | zero => exact fun p v h1 h2 => absurd h2 (by omega)
  | succ n ih =>
    intro p v h1 h2 h3 hQ
    refine V2_iload (i := 4) d_Push_pushOfSet_5 rfl ?_
    refine V2_aload_n (i := 0) d_Push_pushOfSet_7 rfl rfl ?_
    refine V2_callV [] d_Push_pushOfSet_8 rfl rfl lk_Push_83 mo_Push_size (by decide) rfl rfl rfl (Nat.le_of_ble_eq_true rfl) (Nat.le_of_ble_eq_true rfl) ?_
    refine c_Push_size hP ?_
    refine V2_icmp_ge (tgt := 43) d_Push_pushOfSet_11 rfl (fun c1 => ?_) (fun c1 => ?_)
    · refine V2_iload_n (i := 3) d_Push_pushOfSet_43 rfl rfl ?_
      refine V2_ireturn d_Push_pushOfSet_44 rfl ?_
      have hpp : p = P := by
        skip
        exact Nat.le_antisymm h1 ((nI_leI (by omega) (by omega)).mp c1)
      subst hpp
      exact xQi hQ h3 rfl
    · have hp : p < P := Nat.not_le.mp (fun hh => c1 ((nI_leI (by omega) (by omega)).mpr hh))
      refine V2_iload_n (i := 3) d_Push_pushOfSet_14 rfl rfl ?_
      refine V2_iload_n (i := 1) d_Push_pushOfSet_15 rfl rfl ?_
      refine V2_iload (i := 4) d_Push_pushOfSet_16 rfl ?_
      refine V2_callS [.int set, .int (nI p)] d_Push_pushOfSet_18 rfl rfl lk_Push_84 mo_Push_isIn (Nat.le_of_ble_eq_true rfl) (Nat.le_of_ble_eq_true rfl) ?_
      refine c_Push_isIn ?_
      refine V2_topi (fun v2 ev2 => ?_)
      refine V2_if_eq (tgt := 34) d_Push_pushOfSet_21 rfl (fun c3 => ?_) (fun c3 => ?_)
      · refine V2_iconst (v := 0) d_Push_pushOfSet_34 rfl ?_
        refine V2_iadd d_Push_pushOfSet_35 ?_
        refine V2_topi (fun v4 ev4 => ?_)
        refine V2_istore_n (i := 3) (l' := [some (.ref 3), some (.int set), some (.ref 35), some (.int v4), some (.int (nI p))]) d_Push_pushOfSet_36 rfl (xst_r (Nat.le_of_ble_eq_true rfl) rfl rfl) ?_
        obtain ⟨v5, ev5⟩ : ∃ y : Int32, y = nI p + 1 := ⟨_, rfl⟩
        refine V2_iinc (i := 4) (v := v5) (l' := [some (.ref 3), some (.int set), some (.ref 35), some (.int v4), some (.int v5)]) d_Push_pushOfSet_37 rfl (by rw [ev5]; rfl) (xst_i (Nat.le_of_ble_eq_true rfl) rfl rfl) ?_
        refine V2_goto (tgt := 5) d_Push_pushOfSet_40 rfl ?_
        exact V2.to (ih (p + 1) v4 (by omega) (by omega) (by subst ev5 ev4 ev2; rw [h3]; exact (sum_out (f := (fun p => pushK (F 5 p) (F 7 p) (F 35 3) (F 35 2) (F 35 5))) (set := set) (xin_f c3)).symm) hQ) rfl (by rw [ev5, nI_1]) rfl rfl
      · refine V2_aload_n (i := 0) d_Push_pushOfSet_24 rfl rfl ?_
        refine V2_iload (i := 4) d_Push_pushOfSet_25 rfl ?_
        refine V2_aload_n (i := 2) d_Push_pushOfSet_27 rfl rfl ?_
        refine V2_callV [.int (nI p), .ref 35] d_Push_pushOfSet_28 rfl rfl lk_Push_91 mo_Push_pushOf (by decide) rfl rfl rfl (Nat.le_of_ble_eq_true rfl) (Nat.le_of_ble_eq_true rfl) ?_
        refine c_Push_pushOf_35 hP hP2 hl hp ?_
        refine V2_topi (fun v6 ev6 => ?_)
        refine V2_goto (tgt := 35) d_Push_pushOfSet_31 rfl ?_
        refine V2_iadd d_Push_pushOfSet_35 ?_
        refine V2_topi (fun v7 ev7 => ?_)
        refine V2_istore_n (i := 3) (l' := [some (.ref 3), some (.int set), some (.ref 35), some (.int v7), some (.int (nI p))]) d_Push_pushOfSet_36 rfl (xst_r (Nat.le_of_ble_eq_true rfl) rfl rfl) ?_
        obtain ⟨v8, ev8⟩ : ∃ y : Int32, y = nI p + 1 := ⟨_, rfl⟩
        refine V2_iinc (i := 4) (v := v8) (l' := [some (.ref 3), some (.int set), some (.ref 35), some (.int v7), some (.int v8)]) d_Push_pushOfSet_37 rfl (by rw [ev8]; rfl) (xst_i (Nat.le_of_ble_eq_true rfl) rfl rfl) ?_
        refine V2_goto (tgt := 5) d_Push_pushOfSet_40 rfl ?_
        exact V2.to (ih (p + 1) v7 (by omega) (by omega) (by subst ev8 ev7 ev6 ev2; rw [h3]; exact (sum_in (f := (fun p => pushK (F 5 p) (F 7 p) (F 35 3) (F 35 2) (F 35 5))) (set := set) (xin_t c3)).symm) hQ) rfl (by rw [ev8, nI_1]) rfl rfl
theorem c_Push_pushOfSet_35 {L : Nat} {xs : Nat → Int32} {d : Nat} {Q : Option Value → xF → Prop} {F : xF} {P : Nat} {set : Int32} (hP : F 4 1 = nI P) (hP2 : F 6 1 = nI P) (hl : P ≤ 6) (hQ : Q (some (.int (sumTo (fun p => @ite _ (inSet set p) (Classical.propDecidable _) (pushK (F 5 p) (F 7 p) (F 35 3) (F 35 2) (F 35 5)) 0) P))) F) : V2 L xs (d + 4) m_Push_pushOfSet 0 (xEntry [.ref 3, .int set, .ref 35] 5) [] F Q := by
  refine V2.to (l' := [some (.ref 3), some (.int set), some (.ref 35), none, none]) ?_ rfl rfl rfl rfl
  refine V2_iconst (v := 0) d_Push_pushOfSet_0 rfl ?_
  refine V2_istore_n (i := 3) (l' := [some (.ref 3), some (.int set), some (.ref 35), some (.int (0 : Int32)), none]) d_Push_pushOfSet_1 rfl (xst_r (Nat.le_of_ble_eq_true rfl) rfl rfl) ?_
  refine V2_iconst (v := 0) d_Push_pushOfSet_2 rfl ?_
  refine V2_istore (i := 4) (l' := [some (.ref 3), some (.int set), some (.ref 35), some (.int (0 : Int32)), some (.int (0 : Int32))]) d_Push_pushOfSet_3 (xst_i (Nat.le_of_ble_eq_true rfl) rfl rfl) ?_
  exact c_Push_pushOfSet_35_loop hP hP2 hl (P + 1) 0 0 (by omega) (by omega) rfl hQ
theorem c_Push_pushOf_42 {L : Nat} {xs : Nat → Int32} {d : Nat} {Q : Option Value → xF → Prop} {F : xF} {p P : Nat} (hP : F 4 1 = nI P) (hP2 : F 6 1 = nI P) (hl : P ≤ 6) (hp : p < P) (hQ : Q (some (.int (pushK (F 5 p) (F 7 p) (F 42 3) (F 42 2) (F 42 5)))) F) : V2 L xs (d + 3) m_Push_pushOf 0 (xEntry [.ref 3, .int (nI p), .ref 42] 4) [] F Q := by
  refine V2.to (l' := [some (.ref 3), some (.int (nI p)), some (.ref 42), none]) ?_ rfl rfl rfl rfl
  refine V2_aload_n (i := 0) d_Push_pushOf_0 rfl rfl ?_
  refine V2_iload_n (i := 1) d_Push_pushOf_1 rfl rfl ?_
  refine V2_callV [.int (nI p)] d_Push_pushOf_2 rfl rfl lk_Push_51 mo_Push_levelOf (by decide) rfl rfl rfl (Nat.le_of_ble_eq_true rfl) (Nat.le_of_ble_eq_true rfl) ?_
  refine c_Push_levelOf hP hP2 hl hp ?_
  refine V2_topi (fun v1 ev1 => ?_)
  refine V2_istore_n (i := 3) (l' := [some (.ref 3), some (.int (nI p)), some (.ref 42), some (.int v1)]) d_Push_pushOf_5 rfl (xst_r (Nat.le_of_ble_eq_true rfl) rfl rfl) ?_
  refine V2_aload_n (i := 0) d_Push_pushOf_6 rfl rfl ?_
  refine V2_iload_n (i := 1) d_Push_pushOf_7 rfl rfl ?_
  refine V2_callV [.int (nI p)] d_Push_pushOf_8 rfl rfl lk_Push_46 mo_Push_kindOf (by decide) rfl rfl rfl (Nat.le_of_ble_eq_true rfl) (Nat.le_of_ble_eq_true rfl) ?_
  refine c_Push_kindOf hP hP2 hl hp ?_
  refine V2_topi (fun v2 ev2 => ?_)
  by_cases c3_1 : v2 = 1
  · refine V2_tableIn (tgt := 48) (off := 37) d_Push_pushOf_11 (by rw [c3_1]; decide) (by rw [c3_1]; decide) (by rw [c3_1]; decide) rfl ?_
    refine V2_iload_n (i := 3) d_Push_pushOf_48 rfl rfl ?_
    refine V2_aload_n (i := 2) d_Push_pushOf_49 rfl rfl ?_
    refine V2_callS [.int v1, .ref 42] d_Push_pushOf_50 rfl rfl lk_Push_54 mo_Push_asRhythm (Nat.le_of_ble_eq_true rfl) (Nat.le_of_ble_eq_true rfl) ?_
    refine V2.to (l' := [some (.int v1), some (.ref 42)]) ?_ rfl rfl rfl rfl
    refine V2_iload_n (i := 0) d_Push_asRhythm_0 rfl rfl ?_
    refine V2_aload_n (i := 1) d_Push_asRhythm_1 rfl rfl ?_
    refine V2_callS [.int v1, .ref 42] d_Push_asRhythm_2 rfl rfl lk_Push_80 mo_Push_asPusher (Nat.le_of_ble_eq_true rfl) (Nat.le_of_ble_eq_true rfl) ?_
    refine V2.to (l' := [some (.int v1), some (.ref 42)]) ?_ rfl rfl rfl rfl
    refine V2_aload_n (i := 1) d_Push_asPusher_0 rfl rfl ?_
    refine V2_callV [] d_Push_asPusher_1 rfl rfl lk_Push_61 mo_Car_goesAhead (by decide) rfl rfl rfl (Nat.le_of_ble_eq_true rfl) (Nat.le_of_ble_eq_true rfl) ?_
    refine V2.to (l' := [some (.ref 42)]) ?_ rfl rfl rfl rfl
    refine V2_aload_n (i := 0) d_Car_goesAhead_0 rfl rfl ?_
    refine V2_get (v := F 42 3) d_Car_goesAhead_1 fl_Car_19 (by decide) rfl (by decide) rfl rfl ?_
    refine V2_topi (fun v4 ev4 => ?_)
    refine V2_if_ne (tgt := 11) d_Car_goesAhead_4 rfl (fun c5 => ?_) (fun c5 => ?_)
    · refine V2_iconst (v := 0) d_Car_goesAhead_11 rfl ?_
      refine V2_zreturn d_Car_goesAhead_12 rfl (by decide) ?_
      refine V2.to (st' := [.int (0 : Int32)]) ?_ rfl rfl rfl rfl
      refine V2_if_eq (tgt := 11) d_Push_asPusher_4 rfl (fun _ => ?_) (fun c => absurd (by decide) c)
      refine V2_iconst (v := 0) d_Push_asPusher_11 rfl ?_
      refine V2_ireturn d_Push_asPusher_12 rfl ?_
      refine V2.to (st' := [.int (0 : Int32)]) ?_ rfl rfl rfl rfl
      refine V2_aload_n (i := 1) d_Push_asRhythm_5 rfl rfl ?_
      refine V2_callV [] d_Push_asRhythm_6 rfl rfl lk_Push_61 mo_Car_goesAhead (by decide) rfl rfl rfl (Nat.le_of_ble_eq_true rfl) (Nat.le_of_ble_eq_true rfl) ?_
      refine V2.to (l' := [some (.ref 42)]) ?_ rfl rfl rfl rfl
      refine V2_aload_n (i := 0) d_Car_goesAhead_0 rfl rfl ?_
      refine V2_get (v := F 42 3) d_Car_goesAhead_1 fl_Car_19 (by decide) rfl (by decide) rfl rfl ?_
      refine V2_topi (fun v6 ev6 => ?_)
      refine V2_if_ne (tgt := 11) d_Car_goesAhead_4 rfl (fun c7 => ?_) (fun c7 => ?_)
      · refine V2_iconst (v := 0) d_Car_goesAhead_11 rfl ?_
        refine V2_zreturn d_Car_goesAhead_12 rfl (by decide) ?_
        refine V2.to (st' := [.int (0 : Int32), .int (0 : Int32)]) ?_ rfl rfl rfl rfl
        refine V2_if_eq (tgt := 16) d_Push_asRhythm_9 rfl (fun _ => ?_) (fun c => absurd (by decide) c)
        refine V2_iconst (v := 0) d_Push_asRhythm_16 rfl ?_
        refine V2_iadd d_Push_asRhythm_17 ?_
        refine V2_topi (fun v8 ev8 => ?_)
        refine V2_ireturn d_Push_asRhythm_18 rfl ?_
        refine V2.to (st' := [.int v8]) ?_ rfl rfl rfl rfl
        refine V2_ireturn d_Push_pushOf_53 rfl ?_
        exact xQi hQ (by subst ev8 ev6 ev4 ev2 ev1; first | (simp_all [pushK]; done) | (rw [xmx0]; simp_all [pushK]; done)) rfl
      · refine V2_iconst (v := 1) d_Car_goesAhead_7 rfl ?_
        refine V2_goto (tgt := 12) d_Car_goesAhead_8 rfl ?_
        refine V2_zreturn d_Car_goesAhead_12 rfl (by decide) ?_
        refine V2.to (st' := [.int (1 : Int32), .int (0 : Int32)]) ?_ rfl rfl rfl rfl
        refine V2_if_eq (tgt := 16) d_Push_asRhythm_9 rfl (fun c => absurd c (by decide)) (fun _ => ?_)
        refine V2_iconst (v := 2) d_Push_asRhythm_12 rfl ?_
        refine V2_goto (tgt := 17) d_Push_asRhythm_13 rfl ?_
        refine V2_iadd d_Push_asRhythm_17 ?_
        refine V2_topi (fun v9 ev9 => ?_)
        refine V2_ireturn d_Push_asRhythm_18 rfl ?_
        refine V2.to (st' := [.int v9]) ?_ rfl rfl rfl rfl
        refine V2_ireturn d_Push_pushOf_53 rfl ?_
        exact xQi hQ (by subst ev9 ev6 ev4 ev2 ev1; first | (simp_all [pushK]; done) | (rw [xmx0]; simp_all [pushK]; done)) rfl
    · refine V2_iconst (v := 1) d_Car_goesAhead_7 rfl ?_
      refine V2_goto (tgt := 12) d_Car_goesAhead_8 rfl ?_
      refine V2_zreturn d_Car_goesAhead_12 rfl (by decide) ?_
      refine V2.to (st' := [.int (1 : Int32)]) ?_ rfl rfl rfl rfl
      refine V2_if_eq (tgt := 11) d_Push_asPusher_4 rfl (fun c => absurd c (by decide)) (fun _ => ?_)
      refine V2_iload_n (i := 0) d_Push_asPusher_7 rfl rfl ?_
      refine V2_goto (tgt := 12) d_Push_asPusher_8 rfl ?_
      refine V2_ireturn d_Push_asPusher_12 rfl ?_
      refine V2.to (st' := [.int v1]) ?_ rfl rfl rfl rfl
      refine V2_aload_n (i := 1) d_Push_asRhythm_5 rfl rfl ?_
      refine V2_callV [] d_Push_asRhythm_6 rfl rfl lk_Push_61 mo_Car_goesAhead (by decide) rfl rfl rfl (Nat.le_of_ble_eq_true rfl) (Nat.le_of_ble_eq_true rfl) ?_
      refine V2.to (l' := [some (.ref 42)]) ?_ rfl rfl rfl rfl
      refine V2_aload_n (i := 0) d_Car_goesAhead_0 rfl rfl ?_
      refine V2_get (v := F 42 3) d_Car_goesAhead_1 fl_Car_19 (by decide) rfl (by decide) rfl rfl ?_
      refine V2_topi (fun v10 ev10 => ?_)
      refine V2_if_ne (tgt := 11) d_Car_goesAhead_4 rfl (fun c11 => ?_) (fun c11 => ?_)
      · refine V2_iconst (v := 0) d_Car_goesAhead_11 rfl ?_
        refine V2_zreturn d_Car_goesAhead_12 rfl (by decide) ?_
        refine V2.to (st' := [.int (0 : Int32), .int v1]) ?_ rfl rfl rfl rfl
        refine V2_if_eq (tgt := 16) d_Push_asRhythm_9 rfl (fun _ => ?_) (fun c => absurd (by decide) c)
        refine V2_iconst (v := 0) d_Push_asRhythm_16 rfl ?_
        refine V2_iadd d_Push_asRhythm_17 ?_
        refine V2_topi (fun v12 ev12 => ?_)
        refine V2_ireturn d_Push_asRhythm_18 rfl ?_
        refine V2.to (st' := [.int v12]) ?_ rfl rfl rfl rfl
        refine V2_ireturn d_Push_pushOf_53 rfl ?_
        exact xQi hQ (by subst ev12 ev10 ev4 ev2 ev1; first | (simp_all [pushK]; done) | (rw [xmx0]; simp_all [pushK]; done)) rfl
      · refine V2_iconst (v := 1) d_Car_goesAhead_7 rfl ?_
        refine V2_goto (tgt := 12) d_Car_goesAhead_8 rfl ?_
        refine V2_zreturn d_Car_goesAhead_12 rfl (by decide) ?_
        refine V2.to (st' := [.int (1 : Int32), .int v1]) ?_ rfl rfl rfl rfl
        refine V2_if_eq (tgt := 16) d_Push_asRhythm_9 rfl (fun c => absurd c (by decide)) (fun _ => ?_)
        refine V2_iconst (v := 2) d_Push_asRhythm_12 rfl ?_
        refine V2_goto (tgt := 17) d_Push_asRhythm_13 rfl ?_
        refine V2_iadd d_Push_asRhythm_17 ?_
        refine V2_topi (fun v13 ev13 => ?_)
        refine V2_ireturn d_Push_asRhythm_18 rfl ?_
        refine V2.to (st' := [.int v13]) ?_ rfl rfl rfl rfl
        refine V2_ireturn d_Push_pushOf_53 rfl ?_
        exact xQi hQ (by subst ev13 ev10 ev4 ev2 ev1; first | (simp_all [pushK]; done) | (rw [xmx0]; simp_all [pushK]; done)) rfl
  by_cases c3_2 : v2 = 2
  · refine V2_tableIn (tgt := 54) (off := 43) d_Push_pushOf_11 (by rw [c3_2]; decide) (by rw [c3_2]; decide) (by rw [c3_2]; decide) rfl ?_
    refine V2_iload_n (i := 3) d_Push_pushOf_54 rfl rfl ?_
    refine V2_aload_n (i := 2) d_Push_pushOf_55 rfl rfl ?_
    refine V2_callS [.int v1, .ref 42] d_Push_pushOf_56 rfl rfl lk_Push_58 mo_Push_asLate (Nat.le_of_ble_eq_true rfl) (Nat.le_of_ble_eq_true rfl) ?_
    refine V2.to (l' := [some (.int v1), some (.ref 42)]) ?_ rfl rfl rfl rfl
    refine V2_aload_n (i := 1) d_Push_asLate_0 rfl rfl ?_
    refine V2_get (v := F 42 5) d_Push_asLate_1 fl_Push_71 (by decide) rfl (by decide) rfl rfl ?_
    refine V2_topi (fun v14 ev14 => ?_)
    refine V2_iconst (v := 2) d_Push_asLate_4 rfl ?_
    refine V2_iremM d_Push_asLate_5 (by decide) ?_
    refine V2_topi (fun v15 ev15 => ?_)
    refine V2_if_ne (tgt := 17) d_Push_asLate_6 rfl (fun c16 => ?_) (fun c16 => ?_)
    · refine V2_iconst (v := 0) d_Push_asLate_17 rfl ?_
      refine V2_ireturn d_Push_asLate_18 rfl ?_
      refine V2.to (st' := [.int (0 : Int32)]) ?_ rfl rfl rfl rfl
      refine V2_ireturn d_Push_pushOf_59 rfl ?_
      exact xQi hQ (by subst ev15 ev14 ev2 ev1; first | (simp_all [pushK]; done) | (rw [xmx0]; simp_all [pushK]; done)) rfl
    · refine V2_iload_n (i := 0) d_Push_asLate_9 rfl rfl ?_
      refine V2_aload_n (i := 1) d_Push_asLate_10 rfl rfl ?_
      refine V2_callS [.int v1, .ref 42] d_Push_asLate_11 rfl rfl lk_Push_80 mo_Push_asPusher (Nat.le_of_ble_eq_true rfl) (Nat.le_of_ble_eq_true rfl) ?_
      refine V2.to (l' := [some (.int v1), some (.ref 42)]) ?_ rfl rfl rfl rfl
      refine V2_aload_n (i := 1) d_Push_asPusher_0 rfl rfl ?_
      refine V2_callV [] d_Push_asPusher_1 rfl rfl lk_Push_61 mo_Car_goesAhead (by decide) rfl rfl rfl (Nat.le_of_ble_eq_true rfl) (Nat.le_of_ble_eq_true rfl) ?_
      refine V2.to (l' := [some (.ref 42)]) ?_ rfl rfl rfl rfl
      refine V2_aload_n (i := 0) d_Car_goesAhead_0 rfl rfl ?_
      refine V2_get (v := F 42 3) d_Car_goesAhead_1 fl_Car_19 (by decide) rfl (by decide) rfl rfl ?_
      refine V2_topi (fun v17 ev17 => ?_)
      refine V2_if_ne (tgt := 11) d_Car_goesAhead_4 rfl (fun c18 => ?_) (fun c18 => ?_)
      · refine V2_iconst (v := 0) d_Car_goesAhead_11 rfl ?_
        refine V2_zreturn d_Car_goesAhead_12 rfl (by decide) ?_
        refine V2.to (st' := [.int (0 : Int32)]) ?_ rfl rfl rfl rfl
        refine V2_if_eq (tgt := 11) d_Push_asPusher_4 rfl (fun _ => ?_) (fun c => absurd (by decide) c)
        refine V2_iconst (v := 0) d_Push_asPusher_11 rfl ?_
        refine V2_ireturn d_Push_asPusher_12 rfl ?_
        refine V2.to (st' := [.int (0 : Int32)]) ?_ rfl rfl rfl rfl
        refine V2_goto (tgt := 18) d_Push_asLate_14 rfl ?_
        refine V2_ireturn d_Push_asLate_18 rfl ?_
        refine V2.to (st' := [.int (0 : Int32)]) ?_ rfl rfl rfl rfl
        refine V2_ireturn d_Push_pushOf_59 rfl ?_
        exact xQi hQ (by subst ev17 ev15 ev14 ev2 ev1; first | (simp_all [pushK]; done) | (rw [xmx0]; simp_all [pushK]; done)) rfl
      · refine V2_iconst (v := 1) d_Car_goesAhead_7 rfl ?_
        refine V2_goto (tgt := 12) d_Car_goesAhead_8 rfl ?_
        refine V2_zreturn d_Car_goesAhead_12 rfl (by decide) ?_
        refine V2.to (st' := [.int (1 : Int32)]) ?_ rfl rfl rfl rfl
        refine V2_if_eq (tgt := 11) d_Push_asPusher_4 rfl (fun c => absurd c (by decide)) (fun _ => ?_)
        refine V2_iload_n (i := 0) d_Push_asPusher_7 rfl rfl ?_
        refine V2_goto (tgt := 12) d_Push_asPusher_8 rfl ?_
        refine V2_ireturn d_Push_asPusher_12 rfl ?_
        refine V2.to (st' := [.int v1]) ?_ rfl rfl rfl rfl
        refine V2_goto (tgt := 18) d_Push_asLate_14 rfl ?_
        refine V2_ireturn d_Push_asLate_18 rfl ?_
        refine V2.to (st' := [.int v1]) ?_ rfl rfl rfl rfl
        refine V2_ireturn d_Push_pushOf_59 rfl ?_
        exact xQi hQ (by subst ev17 ev15 ev14 ev2 ev1; first | (simp_all [pushK]; done) | (rw [xmx0]; simp_all [pushK]; done)) rfl
  by_cases c3_3 : v2 = 3
  · refine V2_tableIn (tgt := 60) (off := 49) d_Push_pushOf_11 (by rw [c3_3]; decide) (by rw [c3_3]; decide) (by rw [c3_3]; decide) rfl ?_
    refine V2_aload_n (i := 2) d_Push_pushOf_60 rfl rfl ?_
    refine V2_callV [] d_Push_pushOf_61 rfl rfl lk_Push_61 mo_Car_goesAhead (by decide) rfl rfl rfl (Nat.le_of_ble_eq_true rfl) (Nat.le_of_ble_eq_true rfl) ?_
    refine V2.to (l' := [some (.ref 42)]) ?_ rfl rfl rfl rfl
    refine V2_aload_n (i := 0) d_Car_goesAhead_0 rfl rfl ?_
    refine V2_get (v := F 42 3) d_Car_goesAhead_1 fl_Car_19 (by decide) rfl (by decide) rfl rfl ?_
    refine V2_topi (fun v19 ev19 => ?_)
    refine V2_if_ne (tgt := 11) d_Car_goesAhead_4 rfl (fun c20 => ?_) (fun c20 => ?_)
    · refine V2_iconst (v := 0) d_Car_goesAhead_11 rfl ?_
      refine V2_zreturn d_Car_goesAhead_12 rfl (by decide) ?_
      refine V2.to (st' := [.int (0 : Int32)]) ?_ rfl rfl rfl rfl
      refine V2_if_eq (tgt := 71) d_Push_pushOf_64 rfl (fun _ => ?_) (fun c => absurd (by decide) c)
      refine V2_iload_n (i := 3) d_Push_pushOf_71 rfl rfl ?_
      refine V2_ireturn d_Push_pushOf_72 rfl ?_
      exact xQi hQ (by subst ev19 ev2 ev1; first | (simp_all [pushK]; done) | (rw [xmx0]; simp_all [pushK]; done)) rfl
    · refine V2_iconst (v := 1) d_Car_goesAhead_7 rfl ?_
      refine V2_goto (tgt := 12) d_Car_goesAhead_8 rfl ?_
      refine V2_zreturn d_Car_goesAhead_12 rfl (by decide) ?_
      refine V2.to (st' := [.int (1 : Int32)]) ?_ rfl rfl rfl rfl
      refine V2_if_eq (tgt := 71) d_Push_pushOf_64 rfl (fun c => absurd c (by decide)) (fun _ => ?_)
      refine V2_iconst (v := 0) d_Push_pushOf_67 rfl ?_
      refine V2_goto (tgt := 72) d_Push_pushOf_68 rfl ?_
      refine V2_ireturn d_Push_pushOf_72 rfl ?_
      exact xQi hQ (by subst ev19 ev2 ev1; first | (simp_all [pushK]; done) | (rw [xmx0]; simp_all [pushK]; done)) rfl
  by_cases c3_4 : v2 = 4
  · refine V2_tableIn (tgt := 73) (off := 62) d_Push_pushOf_11 (by rw [c3_4]; decide) (by rw [c3_4]; decide) (by rw [c3_4]; decide) rfl ?_
    refine V2_iload_n (i := 3) d_Push_pushOf_73 rfl rfl ?_
    refine V2_aload_n (i := 2) d_Push_pushOf_74 rfl rfl ?_
    refine V2_callS [.int v1, .ref 42] d_Push_pushOf_75 rfl rfl lk_Push_54 mo_Push_asRhythm (Nat.le_of_ble_eq_true rfl) (Nat.le_of_ble_eq_true rfl) ?_
    refine V2.to (l' := [some (.int v1), some (.ref 42)]) ?_ rfl rfl rfl rfl
    refine V2_iload_n (i := 0) d_Push_asRhythm_0 rfl rfl ?_
    refine V2_aload_n (i := 1) d_Push_asRhythm_1 rfl rfl ?_
    refine V2_callS [.int v1, .ref 42] d_Push_asRhythm_2 rfl rfl lk_Push_80 mo_Push_asPusher (Nat.le_of_ble_eq_true rfl) (Nat.le_of_ble_eq_true rfl) ?_
    refine V2.to (l' := [some (.int v1), some (.ref 42)]) ?_ rfl rfl rfl rfl
    refine V2_aload_n (i := 1) d_Push_asPusher_0 rfl rfl ?_
    refine V2_callV [] d_Push_asPusher_1 rfl rfl lk_Push_61 mo_Car_goesAhead (by decide) rfl rfl rfl (Nat.le_of_ble_eq_true rfl) (Nat.le_of_ble_eq_true rfl) ?_
    refine V2.to (l' := [some (.ref 42)]) ?_ rfl rfl rfl rfl
    refine V2_aload_n (i := 0) d_Car_goesAhead_0 rfl rfl ?_
    refine V2_get (v := F 42 3) d_Car_goesAhead_1 fl_Car_19 (by decide) rfl (by decide) rfl rfl ?_
    refine V2_topi (fun v21 ev21 => ?_)
    refine V2_if_ne (tgt := 11) d_Car_goesAhead_4 rfl (fun c22 => ?_) (fun c22 => ?_)
    · refine V2_iconst (v := 0) d_Car_goesAhead_11 rfl ?_
      refine V2_zreturn d_Car_goesAhead_12 rfl (by decide) ?_
      refine V2.to (st' := [.int (0 : Int32)]) ?_ rfl rfl rfl rfl
      refine V2_if_eq (tgt := 11) d_Push_asPusher_4 rfl (fun _ => ?_) (fun c => absurd (by decide) c)
      refine V2_iconst (v := 0) d_Push_asPusher_11 rfl ?_
      refine V2_ireturn d_Push_asPusher_12 rfl ?_
      refine V2.to (st' := [.int (0 : Int32)]) ?_ rfl rfl rfl rfl
      refine V2_aload_n (i := 1) d_Push_asRhythm_5 rfl rfl ?_
      refine V2_callV [] d_Push_asRhythm_6 rfl rfl lk_Push_61 mo_Car_goesAhead (by decide) rfl rfl rfl (Nat.le_of_ble_eq_true rfl) (Nat.le_of_ble_eq_true rfl) ?_
      refine V2.to (l' := [some (.ref 42)]) ?_ rfl rfl rfl rfl
      refine V2_aload_n (i := 0) d_Car_goesAhead_0 rfl rfl ?_
      refine V2_get (v := F 42 3) d_Car_goesAhead_1 fl_Car_19 (by decide) rfl (by decide) rfl rfl ?_
      refine V2_topi (fun v23 ev23 => ?_)
      refine V2_if_ne (tgt := 11) d_Car_goesAhead_4 rfl (fun c24 => ?_) (fun c24 => ?_)
      · refine V2_iconst (v := 0) d_Car_goesAhead_11 rfl ?_
        refine V2_zreturn d_Car_goesAhead_12 rfl (by decide) ?_
        refine V2.to (st' := [.int (0 : Int32), .int (0 : Int32)]) ?_ rfl rfl rfl rfl
        refine V2_if_eq (tgt := 16) d_Push_asRhythm_9 rfl (fun _ => ?_) (fun c => absurd (by decide) c)
        refine V2_iconst (v := 0) d_Push_asRhythm_16 rfl ?_
        refine V2_iadd d_Push_asRhythm_17 ?_
        refine V2_topi (fun v25 ev25 => ?_)
        refine V2_ireturn d_Push_asRhythm_18 rfl ?_
        refine V2.to (st' := [.int v25]) ?_ rfl rfl rfl rfl
        refine V2_aload_n (i := 2) d_Push_pushOf_78 rfl rfl ?_
        refine V2_get (v := F 42 2) d_Push_pushOf_79 fl_Push_67 (by decide) rfl (by decide) rfl rfl ?_
        refine V2_topi (fun v26 ev26 => ?_)
        refine V2_bipush (v := 8) d_Push_pushOf_82 rfl ?_
        refine V2_idiv d_Push_pushOf_84 (by decide) ?_
        refine V2_topi (fun v27 ev27 => ?_)
        refine V2_iadd d_Push_pushOf_85 ?_
        refine V2_topi (fun v28 ev28 => ?_)
        refine V2_ireturn d_Push_pushOf_86 rfl ?_
        exact xQi hQ (by subst ev28 ev27 ev26 ev25 ev23 ev21 ev2 ev1; first | (simp_all [pushK]; done) | (rw [xmx0]; simp_all [pushK]; done)) rfl
      · refine V2_iconst (v := 1) d_Car_goesAhead_7 rfl ?_
        refine V2_goto (tgt := 12) d_Car_goesAhead_8 rfl ?_
        refine V2_zreturn d_Car_goesAhead_12 rfl (by decide) ?_
        refine V2.to (st' := [.int (1 : Int32), .int (0 : Int32)]) ?_ rfl rfl rfl rfl
        refine V2_if_eq (tgt := 16) d_Push_asRhythm_9 rfl (fun c => absurd c (by decide)) (fun _ => ?_)
        refine V2_iconst (v := 2) d_Push_asRhythm_12 rfl ?_
        refine V2_goto (tgt := 17) d_Push_asRhythm_13 rfl ?_
        refine V2_iadd d_Push_asRhythm_17 ?_
        refine V2_topi (fun v29 ev29 => ?_)
        refine V2_ireturn d_Push_asRhythm_18 rfl ?_
        refine V2.to (st' := [.int v29]) ?_ rfl rfl rfl rfl
        refine V2_aload_n (i := 2) d_Push_pushOf_78 rfl rfl ?_
        refine V2_get (v := F 42 2) d_Push_pushOf_79 fl_Push_67 (by decide) rfl (by decide) rfl rfl ?_
        refine V2_topi (fun v30 ev30 => ?_)
        refine V2_bipush (v := 8) d_Push_pushOf_82 rfl ?_
        refine V2_idiv d_Push_pushOf_84 (by decide) ?_
        refine V2_topi (fun v31 ev31 => ?_)
        refine V2_iadd d_Push_pushOf_85 ?_
        refine V2_topi (fun v32 ev32 => ?_)
        refine V2_ireturn d_Push_pushOf_86 rfl ?_
        exact xQi hQ (by subst ev32 ev31 ev30 ev29 ev23 ev21 ev2 ev1; first | (simp_all [pushK]; done) | (rw [xmx0]; simp_all [pushK]; done)) rfl
    · refine V2_iconst (v := 1) d_Car_goesAhead_7 rfl ?_
      refine V2_goto (tgt := 12) d_Car_goesAhead_8 rfl ?_
      refine V2_zreturn d_Car_goesAhead_12 rfl (by decide) ?_
      refine V2.to (st' := [.int (1 : Int32)]) ?_ rfl rfl rfl rfl
      refine V2_if_eq (tgt := 11) d_Push_asPusher_4 rfl (fun c => absurd c (by decide)) (fun _ => ?_)
      refine V2_iload_n (i := 0) d_Push_asPusher_7 rfl rfl ?_
      refine V2_goto (tgt := 12) d_Push_asPusher_8 rfl ?_
      refine V2_ireturn d_Push_asPusher_12 rfl ?_
      refine V2.to (st' := [.int v1]) ?_ rfl rfl rfl rfl
      refine V2_aload_n (i := 1) d_Push_asRhythm_5 rfl rfl ?_
      refine V2_callV [] d_Push_asRhythm_6 rfl rfl lk_Push_61 mo_Car_goesAhead (by decide) rfl rfl rfl (Nat.le_of_ble_eq_true rfl) (Nat.le_of_ble_eq_true rfl) ?_
      refine V2.to (l' := [some (.ref 42)]) ?_ rfl rfl rfl rfl
      refine V2_aload_n (i := 0) d_Car_goesAhead_0 rfl rfl ?_
      refine V2_get (v := F 42 3) d_Car_goesAhead_1 fl_Car_19 (by decide) rfl (by decide) rfl rfl ?_
      refine V2_topi (fun v33 ev33 => ?_)
      refine V2_if_ne (tgt := 11) d_Car_goesAhead_4 rfl (fun c34 => ?_) (fun c34 => ?_)
      · refine V2_iconst (v := 0) d_Car_goesAhead_11 rfl ?_
        refine V2_zreturn d_Car_goesAhead_12 rfl (by decide) ?_
        refine V2.to (st' := [.int (0 : Int32), .int v1]) ?_ rfl rfl rfl rfl
        refine V2_if_eq (tgt := 16) d_Push_asRhythm_9 rfl (fun _ => ?_) (fun c => absurd (by decide) c)
        refine V2_iconst (v := 0) d_Push_asRhythm_16 rfl ?_
        refine V2_iadd d_Push_asRhythm_17 ?_
        refine V2_topi (fun v35 ev35 => ?_)
        refine V2_ireturn d_Push_asRhythm_18 rfl ?_
        refine V2.to (st' := [.int v35]) ?_ rfl rfl rfl rfl
        refine V2_aload_n (i := 2) d_Push_pushOf_78 rfl rfl ?_
        refine V2_get (v := F 42 2) d_Push_pushOf_79 fl_Push_67 (by decide) rfl (by decide) rfl rfl ?_
        refine V2_topi (fun v36 ev36 => ?_)
        refine V2_bipush (v := 8) d_Push_pushOf_82 rfl ?_
        refine V2_idiv d_Push_pushOf_84 (by decide) ?_
        refine V2_topi (fun v37 ev37 => ?_)
        refine V2_iadd d_Push_pushOf_85 ?_
        refine V2_topi (fun v38 ev38 => ?_)
        refine V2_ireturn d_Push_pushOf_86 rfl ?_
        exact xQi hQ (by subst ev38 ev37 ev36 ev35 ev33 ev21 ev2 ev1; first | (simp_all [pushK]; done) | (rw [xmx0]; simp_all [pushK]; done)) rfl
      · refine V2_iconst (v := 1) d_Car_goesAhead_7 rfl ?_
        refine V2_goto (tgt := 12) d_Car_goesAhead_8 rfl ?_
        refine V2_zreturn d_Car_goesAhead_12 rfl (by decide) ?_
        refine V2.to (st' := [.int (1 : Int32), .int v1]) ?_ rfl rfl rfl rfl
        refine V2_if_eq (tgt := 16) d_Push_asRhythm_9 rfl (fun c => absurd c (by decide)) (fun _ => ?_)
        refine V2_iconst (v := 2) d_Push_asRhythm_12 rfl ?_
        refine V2_goto (tgt := 17) d_Push_asRhythm_13 rfl ?_
        refine V2_iadd d_Push_asRhythm_17 ?_
        refine V2_topi (fun v39 ev39 => ?_)
        refine V2_ireturn d_Push_asRhythm_18 rfl ?_
        refine V2.to (st' := [.int v39]) ?_ rfl rfl rfl rfl
        refine V2_aload_n (i := 2) d_Push_pushOf_78 rfl rfl ?_
        refine V2_get (v := F 42 2) d_Push_pushOf_79 fl_Push_67 (by decide) rfl (by decide) rfl rfl ?_
        refine V2_topi (fun v40 ev40 => ?_)
        refine V2_bipush (v := 8) d_Push_pushOf_82 rfl ?_
        refine V2_idiv d_Push_pushOf_84 (by decide) ?_
        refine V2_topi (fun v41 ev41 => ?_)
        refine V2_iadd d_Push_pushOf_85 ?_
        refine V2_topi (fun v42 ev42 => ?_)
        refine V2_ireturn d_Push_pushOf_86 rfl ?_
        exact xQi hQ (by subst ev42 ev41 ev40 ev39 ev33 ev21 ev2 ev1; first | (simp_all [pushK]; done) | (rw [xmx0]; simp_all [pushK]; done)) rfl
  by_cases c3_5 : v2 = 5
  · refine V2_tableIn (tgt := 87) (off := 76) d_Push_pushOf_11 (by rw [c3_5]; decide) (by rw [c3_5]; decide) (by rw [c3_5]; decide) rfl ?_
    refine V2_iconst (v := 0) d_Push_pushOf_87 rfl ?_
    refine V2_iload_n (i := 3) d_Push_pushOf_88 rfl rfl ?_
    refine V2_aload_n (i := 2) d_Push_pushOf_89 rfl rfl ?_
    refine V2_callS [.int v1, .ref 42] d_Push_pushOf_90 rfl rfl lk_Push_58 mo_Push_asLate (Nat.le_of_ble_eq_true rfl) (Nat.le_of_ble_eq_true rfl) ?_
    refine V2.to (l' := [some (.int v1), some (.ref 42)]) ?_ rfl rfl rfl rfl
    refine V2_aload_n (i := 1) d_Push_asLate_0 rfl rfl ?_
    refine V2_get (v := F 42 5) d_Push_asLate_1 fl_Push_71 (by decide) rfl (by decide) rfl rfl ?_
    refine V2_topi (fun v43 ev43 => ?_)
    refine V2_iconst (v := 2) d_Push_asLate_4 rfl ?_
    refine V2_iremM d_Push_asLate_5 (by decide) ?_
    refine V2_topi (fun v44 ev44 => ?_)
    refine V2_if_ne (tgt := 17) d_Push_asLate_6 rfl (fun c45 => ?_) (fun c45 => ?_)
    · refine V2_iconst (v := 0) d_Push_asLate_17 rfl ?_
      refine V2_ireturn d_Push_asLate_18 rfl ?_
      refine V2.to (st' := [.int (0 : Int32), .int (0 : Int32)]) ?_ rfl rfl rfl rfl
      refine V2_aload_n (i := 2) d_Push_pushOf_93 rfl rfl ?_
      refine V2_get (v := F 42 5) d_Push_pushOf_94 fl_Push_71 (by decide) rfl (by decide) rfl rfl ?_
      refine V2_topi (fun v46 ev46 => ?_)
      refine V2_bipush (v := 8) d_Push_pushOf_97 rfl ?_
      refine V2_idiv d_Push_pushOf_99 (by decide) ?_
      refine V2_topi (fun v47 ev47 => ?_)
      refine V2_isub d_Push_pushOf_100 ?_
      refine V2_topi (fun v48 ev48 => ?_)
      refine V2_mmax d_Push_pushOf_101 lz_Push_74 (Nat.le_of_ble_eq_true rfl) ?_
      refine V2_topi (fun v49 ev49 => ?_)
      refine V2_ireturn d_Push_pushOf_104 rfl ?_
      exact xQi hQ (by subst ev49 ev48 ev47 ev46 ev44 ev43 ev2 ev1; first | (simp_all [pushK]; done) | (rw [xmx0]; simp_all [pushK]; done)) rfl
    · refine V2_iload_n (i := 0) d_Push_asLate_9 rfl rfl ?_
      refine V2_aload_n (i := 1) d_Push_asLate_10 rfl rfl ?_
      refine V2_callS [.int v1, .ref 42] d_Push_asLate_11 rfl rfl lk_Push_80 mo_Push_asPusher (Nat.le_of_ble_eq_true rfl) (Nat.le_of_ble_eq_true rfl) ?_
      refine V2.to (l' := [some (.int v1), some (.ref 42)]) ?_ rfl rfl rfl rfl
      refine V2_aload_n (i := 1) d_Push_asPusher_0 rfl rfl ?_
      refine V2_callV [] d_Push_asPusher_1 rfl rfl lk_Push_61 mo_Car_goesAhead (by decide) rfl rfl rfl (Nat.le_of_ble_eq_true rfl) (Nat.le_of_ble_eq_true rfl) ?_
      refine V2.to (l' := [some (.ref 42)]) ?_ rfl rfl rfl rfl
      refine V2_aload_n (i := 0) d_Car_goesAhead_0 rfl rfl ?_
      refine V2_get (v := F 42 3) d_Car_goesAhead_1 fl_Car_19 (by decide) rfl (by decide) rfl rfl ?_
      refine V2_topi (fun v50 ev50 => ?_)
      refine V2_if_ne (tgt := 11) d_Car_goesAhead_4 rfl (fun c51 => ?_) (fun c51 => ?_)
      · refine V2_iconst (v := 0) d_Car_goesAhead_11 rfl ?_
        refine V2_zreturn d_Car_goesAhead_12 rfl (by decide) ?_
        refine V2.to (st' := [.int (0 : Int32)]) ?_ rfl rfl rfl rfl
        refine V2_if_eq (tgt := 11) d_Push_asPusher_4 rfl (fun _ => ?_) (fun c => absurd (by decide) c)
        refine V2_iconst (v := 0) d_Push_asPusher_11 rfl ?_
        refine V2_ireturn d_Push_asPusher_12 rfl ?_
        refine V2.to (st' := [.int (0 : Int32)]) ?_ rfl rfl rfl rfl
        refine V2_goto (tgt := 18) d_Push_asLate_14 rfl ?_
        refine V2_ireturn d_Push_asLate_18 rfl ?_
        refine V2.to (st' := [.int (0 : Int32), .int (0 : Int32)]) ?_ rfl rfl rfl rfl
        refine V2_aload_n (i := 2) d_Push_pushOf_93 rfl rfl ?_
        refine V2_get (v := F 42 5) d_Push_pushOf_94 fl_Push_71 (by decide) rfl (by decide) rfl rfl ?_
        refine V2_topi (fun v52 ev52 => ?_)
        refine V2_bipush (v := 8) d_Push_pushOf_97 rfl ?_
        refine V2_idiv d_Push_pushOf_99 (by decide) ?_
        refine V2_topi (fun v53 ev53 => ?_)
        refine V2_isub d_Push_pushOf_100 ?_
        refine V2_topi (fun v54 ev54 => ?_)
        refine V2_mmax d_Push_pushOf_101 lz_Push_74 (Nat.le_of_ble_eq_true rfl) ?_
        refine V2_topi (fun v55 ev55 => ?_)
        refine V2_ireturn d_Push_pushOf_104 rfl ?_
        exact xQi hQ (by subst ev55 ev54 ev53 ev52 ev50 ev44 ev43 ev2 ev1; first | (simp_all [pushK]; done) | (rw [xmx0]; simp_all [pushK]; done)) rfl
      · refine V2_iconst (v := 1) d_Car_goesAhead_7 rfl ?_
        refine V2_goto (tgt := 12) d_Car_goesAhead_8 rfl ?_
        refine V2_zreturn d_Car_goesAhead_12 rfl (by decide) ?_
        refine V2.to (st' := [.int (1 : Int32)]) ?_ rfl rfl rfl rfl
        refine V2_if_eq (tgt := 11) d_Push_asPusher_4 rfl (fun c => absurd c (by decide)) (fun _ => ?_)
        refine V2_iload_n (i := 0) d_Push_asPusher_7 rfl rfl ?_
        refine V2_goto (tgt := 12) d_Push_asPusher_8 rfl ?_
        refine V2_ireturn d_Push_asPusher_12 rfl ?_
        refine V2.to (st' := [.int v1]) ?_ rfl rfl rfl rfl
        refine V2_goto (tgt := 18) d_Push_asLate_14 rfl ?_
        refine V2_ireturn d_Push_asLate_18 rfl ?_
        refine V2.to (st' := [.int v1, .int (0 : Int32)]) ?_ rfl rfl rfl rfl
        refine V2_aload_n (i := 2) d_Push_pushOf_93 rfl rfl ?_
        refine V2_get (v := F 42 5) d_Push_pushOf_94 fl_Push_71 (by decide) rfl (by decide) rfl rfl ?_
        refine V2_topi (fun v56 ev56 => ?_)
        refine V2_bipush (v := 8) d_Push_pushOf_97 rfl ?_
        refine V2_idiv d_Push_pushOf_99 (by decide) ?_
        refine V2_topi (fun v57 ev57 => ?_)
        refine V2_isub d_Push_pushOf_100 ?_
        refine V2_topi (fun v58 ev58 => ?_)
        refine V2_mmax d_Push_pushOf_101 lz_Push_74 (Nat.le_of_ble_eq_true rfl) ?_
        refine V2_topi (fun v59 ev59 => ?_)
        refine V2_ireturn d_Push_pushOf_104 rfl ?_
        exact xQi hQ (by subst ev59 ev58 ev57 ev56 ev50 ev44 ev43 ev2 ev1; first | (simp_all [pushK]; done) | (rw [xmx0]; simp_all [pushK]; done)) rfl
  by_cases c3_6 : v2 = 6
  · refine V2_tableIn (tgt := 105) (off := 94) d_Push_pushOf_11 (by rw [c3_6]; decide) (by rw [c3_6]; decide) (by rw [c3_6]; decide) rfl ?_
    refine V2_iconst (v := 0) d_Push_pushOf_105 rfl ?_
    refine V2_ireturn d_Push_pushOf_106 rfl ?_
    exact xQi hQ (by subst ev2 ev1; first | (simp_all [pushK]; done) | (rw [xmx0]; simp_all [pushK]; done)) rfl
  refine V2_tableOut (tgt := 107) d_Push_pushOf_11 (by have := lv_neT (a := 1) c3_1 rfl; have := lv_neT (a := 2) c3_2 rfl; have := lv_neT (a := 3) c3_3 rfl; have := lv_neT (a := 4) c3_4 rfl; have := lv_neT (a := 5) c3_5 rfl; have := lv_neT (a := 6) c3_6 rfl; omega) rfl ?_
  refine V2_iload_n (i := 3) d_Push_pushOf_107 rfl rfl ?_
  refine V2_aload_n (i := 2) d_Push_pushOf_108 rfl rfl ?_
  refine V2_callS [.int v1, .ref 42] d_Push_pushOf_109 rfl rfl lk_Push_80 mo_Push_asPusher (Nat.le_of_ble_eq_true rfl) (Nat.le_of_ble_eq_true rfl) ?_
  refine V2.to (l' := [some (.int v1), some (.ref 42)]) ?_ rfl rfl rfl rfl
  refine V2_aload_n (i := 1) d_Push_asPusher_0 rfl rfl ?_
  refine V2_callV [] d_Push_asPusher_1 rfl rfl lk_Push_61 mo_Car_goesAhead (by decide) rfl rfl rfl (Nat.le_of_ble_eq_true rfl) (Nat.le_of_ble_eq_true rfl) ?_
  refine V2.to (l' := [some (.ref 42)]) ?_ rfl rfl rfl rfl
  refine V2_aload_n (i := 0) d_Car_goesAhead_0 rfl rfl ?_
  refine V2_get (v := F 42 3) d_Car_goesAhead_1 fl_Car_19 (by decide) rfl (by decide) rfl rfl ?_
  refine V2_topi (fun v60 ev60 => ?_)
  refine V2_if_ne (tgt := 11) d_Car_goesAhead_4 rfl (fun c61 => ?_) (fun c61 => ?_)
  · refine V2_iconst (v := 0) d_Car_goesAhead_11 rfl ?_
    refine V2_zreturn d_Car_goesAhead_12 rfl (by decide) ?_
    refine V2.to (st' := [.int (0 : Int32)]) ?_ rfl rfl rfl rfl
    refine V2_if_eq (tgt := 11) d_Push_asPusher_4 rfl (fun _ => ?_) (fun c => absurd (by decide) c)
    refine V2_iconst (v := 0) d_Push_asPusher_11 rfl ?_
    refine V2_ireturn d_Push_asPusher_12 rfl ?_
    refine V2.to (st' := [.int (0 : Int32)]) ?_ rfl rfl rfl rfl
    refine V2_ireturn d_Push_pushOf_112 rfl ?_
    exact xQi hQ (by subst ev60 ev2 ev1; first | (simp_all [pushK]; done) | (rw [xmx0]; simp_all [pushK]; done)) rfl
  · refine V2_iconst (v := 1) d_Car_goesAhead_7 rfl ?_
    refine V2_goto (tgt := 12) d_Car_goesAhead_8 rfl ?_
    refine V2_zreturn d_Car_goesAhead_12 rfl (by decide) ?_
    refine V2.to (st' := [.int (1 : Int32)]) ?_ rfl rfl rfl rfl
    refine V2_if_eq (tgt := 11) d_Push_asPusher_4 rfl (fun c => absurd c (by decide)) (fun _ => ?_)
    refine V2_iload_n (i := 0) d_Push_asPusher_7 rfl rfl ?_
    refine V2_goto (tgt := 12) d_Push_asPusher_8 rfl ?_
    refine V2_ireturn d_Push_asPusher_12 rfl ?_
    refine V2.to (st' := [.int v1]) ?_ rfl rfl rfl rfl
    refine V2_ireturn d_Push_pushOf_112 rfl ?_
    exact xQi hQ (by subst ev60 ev2 ev1; first | (simp_all [pushK]; done) | (rw [xmx0]; simp_all [pushK]; done)) rfl
theorem c_Push_pushOfSet_42_loop {L : Nat} {xs : Nat → Int32} {d : Nat} {Q : Option Value → xF → Prop} {F : xF} {P : Nat} {set : Int32} (hP : F 4 1 = nI P) (hP2 : F 6 1 = nI P) (hl : P ≤ 6) : ∀ (n : Nat) (p : Nat) (v : Int32), p ≤ P → P < n + p → v = sumTo (fun p => @ite _ (inSet set p) (Classical.propDecidable _) (pushK (F 5 p) (F 7 p) (F 42 3) (F 42 2) (F 42 5)) 0) p → (Q (some (.int (sumTo (fun p => @ite _ (inSet set p) (Classical.propDecidable _) (pushK (F 5 p) (F 7 p) (F 42 3) (F 42 2) (F 42 5)) 0) P))) F) → V2 L xs (d + 4) m_Push_pushOfSet 5 [some (.ref 3), some (.int set), some (.ref 42), some (.int v), some (.int (nI p))] [] F Q := by
  intro n
  induction n with
  | zero => exact fun p v h1 h2 => absurd h2 (by omega)
  | succ n ih =>
    intro p v h1 h2 h3 hQ
    refine V2_iload (i := 4) d_Push_pushOfSet_5 rfl ?_
    refine V2_aload_n (i := 0) d_Push_pushOfSet_7 rfl rfl ?_
    refine V2_callV [] d_Push_pushOfSet_8 rfl rfl lk_Push_83 mo_Push_size (by decide) rfl rfl rfl (Nat.le_of_ble_eq_true rfl) (Nat.le_of_ble_eq_true rfl) ?_
    refine c_Push_size hP ?_
    refine V2_icmp_ge (tgt := 43) d_Push_pushOfSet_11 rfl (fun c1 => ?_) (fun c1 => ?_)
    · refine V2_iload_n (i := 3) d_Push_pushOfSet_43 rfl rfl ?_
      refine V2_ireturn d_Push_pushOfSet_44 rfl ?_
      have hpp : p = P := by
        skip
        exact Nat.le_antisymm h1 ((nI_leI (by omega) (by omega)).mp c1)
      subst hpp
      exact xQi hQ h3 rfl
    · have hp : p < P := Nat.not_le.mp (fun hh => c1 ((nI_leI (by omega) (by omega)).mpr hh))
      refine V2_iload_n (i := 3) d_Push_pushOfSet_14 rfl rfl ?_
      refine V2_iload_n (i := 1) d_Push_pushOfSet_15 rfl rfl ?_
      refine V2_iload (i := 4) d_Push_pushOfSet_16 rfl ?_
      refine V2_callS [.int set, .int (nI p)] d_Push_pushOfSet_18 rfl rfl lk_Push_84 mo_Push_isIn (Nat.le_of_ble_eq_true rfl) (Nat.le_of_ble_eq_true rfl) ?_
      refine c_Push_isIn ?_
      refine V2_topi (fun v2 ev2 => ?_)
      refine V2_if_eq (tgt := 34) d_Push_pushOfSet_21 rfl (fun c3 => ?_) (fun c3 => ?_)
      · refine V2_iconst (v := 0) d_Push_pushOfSet_34 rfl ?_
        refine V2_iadd d_Push_pushOfSet_35 ?_
        refine V2_topi (fun v4 ev4 => ?_)
        refine V2_istore_n (i := 3) (l' := [some (.ref 3), some (.int set), some (.ref 42), some (.int v4), some (.int (nI p))]) d_Push_pushOfSet_36 rfl (xst_r (Nat.le_of_ble_eq_true rfl) rfl rfl) ?_
        obtain ⟨v5, ev5⟩ : ∃ y : Int32, y = nI p + 1 := ⟨_, rfl⟩
        refine V2_iinc (i := 4) (v := v5) (l' := [some (.ref 3), some (.int set), some (.ref 42), some (.int v4), some (.int v5)]) d_Push_pushOfSet_37 rfl (by rw [ev5]; rfl) (xst_i (Nat.le_of_ble_eq_true rfl) rfl rfl) ?_
        refine V2_goto (tgt := 5) d_Push_pushOfSet_40 rfl ?_
        exact V2.to (ih (p + 1) v4 (by omega) (by omega) (by subst ev5 ev4 ev2; rw [h3]; exact (sum_out (f := (fun p => pushK (F 5 p) (F 7 p) (F 42 3) (F 42 2) (F 42 5))) (set := set) (xin_f c3)).symm) hQ) rfl (by rw [ev5, nI_1]) rfl rfl
      · refine V2_aload_n (i := 0) d_Push_pushOfSet_24 rfl rfl ?_
        refine V2_iload (i := 4) d_Push_pushOfSet_25 rfl ?_
        refine V2_aload_n (i := 2) d_Push_pushOfSet_27 rfl rfl ?_
        refine V2_callV [.int (nI p), .ref 42] d_Push_pushOfSet_28 rfl rfl lk_Push_91 mo_Push_pushOf (by decide) rfl rfl rfl (Nat.le_of_ble_eq_true rfl) (Nat.le_of_ble_eq_true rfl) ?_
        refine c_Push_pushOf_42 hP hP2 hl hp ?_
        refine V2_topi (fun v6 ev6 => ?_)
        refine V2_goto (tgt := 35) d_Push_pushOfSet_31 rfl ?_
        refine V2_iadd d_Push_pushOfSet_35 ?_
        refine V2_topi (fun v7 ev7 => ?_)
        refine V2_istore_n (i := 3) (l' := [some (.ref 3), some (.int set), some (.ref 42), some (.int v7), some (.int (nI p))]) d_Push_pushOfSet_36 rfl (xst_r (Nat.le_of_ble_eq_true rfl) rfl rfl) ?_
        obtain ⟨v8, ev8⟩ : ∃ y : Int32, y = nI p + 1 := ⟨_, rfl⟩
        refine V2_iinc (i := 4) (v := v8) (l' := [some (.ref 3), some (.int set), some (.ref 42), some (.int v7), some (.int v8)]) d_Push_pushOfSet_37 rfl (by rw [ev8]; rfl) (xst_i (Nat.le_of_ble_eq_true rfl) rfl rfl) ?_
        refine V2_goto (tgt := 5) d_Push_pushOfSet_40 rfl ?_
        exact V2.to (ih (p + 1) v7 (by omega) (by omega) (by subst ev8 ev7 ev6 ev2; rw [h3]; exact (sum_in (f := (fun p => pushK (F 5 p) (F 7 p) (F 42 3) (F 42 2) (F 42 5))) (set := set) (xin_t c3)).symm) hQ) rfl (by rw [ev8, nI_1]) rfl rfl
theorem c_Push_pushOfSet_42 {L : Nat} {xs : Nat → Int32} {d : Nat} {Q : Option Value → xF → Prop} {F : xF} {P : Nat} {set : Int32} (hP : F 4 1 = nI P) (hP2 : F 6 1 = nI P) (hl : P ≤ 6) (hQ : Q (some (.int (sumTo (fun p => @ite _ (inSet set p) (Classical.propDecidable _) (pushK (F 5 p) (F 7 p) (F 42 3) (F 42 2) (F 42 5)) 0) P))) F) : V2 L xs (d + 4) m_Push_pushOfSet 0 (xEntry [.ref 3, .int set, .ref 42] 5) [] F Q := by
  refine V2.to (l' := [some (.ref 3), some (.int set), some (.ref 42), none, none]) ?_ rfl rfl rfl rfl
  refine V2_iconst (v := 0) d_Push_pushOfSet_0 rfl ?_
  refine V2_istore_n (i := 3) (l' := [some (.ref 3), some (.int set), some (.ref 42), some (.int (0 : Int32)), none]) d_Push_pushOfSet_1 rfl (xst_r (Nat.le_of_ble_eq_true rfl) rfl rfl) ?_
  refine V2_iconst (v := 0) d_Push_pushOfSet_2 rfl ?_
  refine V2_istore (i := 4) (l' := [some (.ref 3), some (.int set), some (.ref 42), some (.int (0 : Int32)), some (.int (0 : Int32))]) d_Push_pushOfSet_3 (xst_i (Nat.le_of_ble_eq_true rfl) rfl rfl) ?_
  exact c_Push_pushOfSet_42_loop hP hP2 hl (P + 1) 0 0 (by omega) (by omega) rfl hQ
theorem c_Push_pushOf_43 {L : Nat} {xs : Nat → Int32} {d : Nat} {Q : Option Value → xF → Prop} {F : xF} {p P : Nat} (hP : F 4 1 = nI P) (hP2 : F 6 1 = nI P) (hl : P ≤ 6) (hp : p < P) (hQ : Q (some (.int (pushK (F 5 p) (F 7 p) (F 43 3) (F 43 2) (F 43 5)))) F) : V2 L xs (d + 3) m_Push_pushOf 0 (xEntry [.ref 3, .int (nI p), .ref 43] 4) [] F Q := by
  refine V2.to (l' := [some (.ref 3), some (.int (nI p)), some (.ref 43), none]) ?_ rfl rfl rfl rfl
  refine V2_aload_n (i := 0) d_Push_pushOf_0 rfl rfl ?_
  refine V2_iload_n (i := 1) d_Push_pushOf_1 rfl rfl ?_
  refine V2_callV [.int (nI p)] d_Push_pushOf_2 rfl rfl lk_Push_51 mo_Push_levelOf (by decide) rfl rfl rfl (Nat.le_of_ble_eq_true rfl) (Nat.le_of_ble_eq_true rfl) ?_
  refine c_Push_levelOf hP hP2 hl hp ?_
  refine V2_topi (fun v1 ev1 => ?_)
  refine V2_istore_n (i := 3) (l' := [some (.ref 3), some (.int (nI p)), some (.ref 43), some (.int v1)]) d_Push_pushOf_5 rfl (xst_r (Nat.le_of_ble_eq_true rfl) rfl rfl) ?_
  refine V2_aload_n (i := 0) d_Push_pushOf_6 rfl rfl ?_
  refine V2_iload_n (i := 1) d_Push_pushOf_7 rfl rfl ?_
  refine V2_callV [.int (nI p)] d_Push_pushOf_8 rfl rfl lk_Push_46 mo_Push_kindOf (by decide) rfl rfl rfl (Nat.le_of_ble_eq_true rfl) (Nat.le_of_ble_eq_true rfl) ?_
  refine c_Push_kindOf hP hP2 hl hp ?_
  refine V2_topi (fun v2 ev2 => ?_)
  by_cases c3_1 : v2 = 1
  · refine V2_tableIn (tgt := 48) (off := 37) d_Push_pushOf_11 (by rw [c3_1]; decide) (by rw [c3_1]; decide) (by rw [c3_1]; decide) rfl ?_
    refine V2_iload_n (i := 3) d_Push_pushOf_48 rfl rfl ?_
    refine V2_aload_n (i := 2) d_Push_pushOf_49 rfl rfl ?_
    refine V2_callS [.int v1, .ref 43] d_Push_pushOf_50 rfl rfl lk_Push_54 mo_Push_asRhythm (Nat.le_of_ble_eq_true rfl) (Nat.le_of_ble_eq_true rfl) ?_
    refine V2.to (l' := [some (.int v1), some (.ref 43)]) ?_ rfl rfl rfl rfl
    refine V2_iload_n (i := 0) d_Push_asRhythm_0 rfl rfl ?_
    refine V2_aload_n (i := 1) d_Push_asRhythm_1 rfl rfl ?_
    refine V2_callS [.int v1, .ref 43] d_Push_asRhythm_2 rfl rfl lk_Push_80 mo_Push_asPusher (Nat.le_of_ble_eq_true rfl) (Nat.le_of_ble_eq_true rfl) ?_
    refine V2.to (l' := [some (.int v1), some (.ref 43)]) ?_ rfl rfl rfl rfl
    refine V2_aload_n (i := 1) d_Push_asPusher_0 rfl rfl ?_
    refine V2_callV [] d_Push_asPusher_1 rfl rfl lk_Push_61 mo_Car_goesAhead (by decide) rfl rfl rfl (Nat.le_of_ble_eq_true rfl) (Nat.le_of_ble_eq_true rfl) ?_
    refine V2.to (l' := [some (.ref 43)]) ?_ rfl rfl rfl rfl
    refine V2_aload_n (i := 0) d_Car_goesAhead_0 rfl rfl ?_
    refine V2_get (v := F 43 3) d_Car_goesAhead_1 fl_Car_19 (by decide) rfl (by decide) rfl rfl ?_
    refine V2_topi (fun v4 ev4 => ?_)
    refine V2_if_ne (tgt := 11) d_Car_goesAhead_4 rfl (fun c5 => ?_) (fun c5 => ?_)
    · refine V2_iconst (v := 0) d_Car_goesAhead_11 rfl ?_
      refine V2_zreturn d_Car_goesAhead_12 rfl (by decide) ?_
      refine V2.to (st' := [.int (0 : Int32)]) ?_ rfl rfl rfl rfl
      refine V2_if_eq (tgt := 11) d_Push_asPusher_4 rfl (fun _ => ?_) (fun c => absurd (by decide) c)
      refine V2_iconst (v := 0) d_Push_asPusher_11 rfl ?_
      refine V2_ireturn d_Push_asPusher_12 rfl ?_
      refine V2.to (st' := [.int (0 : Int32)]) ?_ rfl rfl rfl rfl
      refine V2_aload_n (i := 1) d_Push_asRhythm_5 rfl rfl ?_
      refine V2_callV [] d_Push_asRhythm_6 rfl rfl lk_Push_61 mo_Car_goesAhead (by decide) rfl rfl rfl (Nat.le_of_ble_eq_true rfl) (Nat.le_of_ble_eq_true rfl) ?_
      refine V2.to (l' := [some (.ref 43)]) ?_ rfl rfl rfl rfl
      refine V2_aload_n (i := 0) d_Car_goesAhead_0 rfl rfl ?_
      refine V2_get (v := F 43 3) d_Car_goesAhead_1 fl_Car_19 (by decide) rfl (by decide) rfl rfl ?_
      refine V2_topi (fun v6 ev6 => ?_)
      refine V2_if_ne (tgt := 11) d_Car_goesAhead_4 rfl (fun c7 => ?_) (fun c7 => ?_)
      · refine V2_iconst (v := 0) d_Car_goesAhead_11 rfl ?_
        refine V2_zreturn d_Car_goesAhead_12 rfl (by decide) ?_
        refine V2.to (st' := [.int (0 : Int32), .int (0 : Int32)]) ?_ rfl rfl rfl rfl
        refine V2_if_eq (tgt := 16) d_Push_asRhythm_9 rfl (fun _ => ?_) (fun c => absurd (by decide) c)
        refine V2_iconst (v := 0) d_Push_asRhythm_16 rfl ?_
        refine V2_iadd d_Push_asRhythm_17 ?_
        refine V2_topi (fun v8 ev8 => ?_)
        refine V2_ireturn d_Push_asRhythm_18 rfl ?_
        refine V2.to (st' := [.int v8]) ?_ rfl rfl rfl rfl
        refine V2_ireturn d_Push_pushOf_53 rfl ?_
        exact xQi hQ (by subst ev8 ev6 ev4 ev2 ev1; first | (simp_all [pushK]; done) | (rw [xmx0]; simp_all [pushK]; done)) rfl
      · refine V2_iconst (v := 1) d_Car_goesAhead_7 rfl ?_
        refine V2_goto (tgt := 12) d_Car_goesAhead_8 rfl ?_
        refine V2_zreturn d_Car_goesAhead_12 rfl (by decide) ?_
        refine V2.to (st' := [.int (1 : Int32), .int (0 : Int32)]) ?_ rfl rfl rfl rfl
        refine V2_if_eq (tgt := 16) d_Push_asRhythm_9 rfl (fun c => absurd c (by decide)) (fun _ => ?_)
        refine V2_iconst (v := 2) d_Push_asRhythm_12 rfl ?_
        refine V2_goto (tgt := 17) d_Push_asRhythm_13 rfl ?_
        refine V2_iadd d_Push_asRhythm_17 ?_
        refine V2_topi (fun v9 ev9 => ?_)
        refine V2_ireturn d_Push_asRhythm_18 rfl ?_
        refine V2.to (st' := [.int v9]) ?_ rfl rfl rfl rfl
        refine V2_ireturn d_Push_pushOf_53 rfl ?_
        exact xQi hQ (by subst ev9 ev6 ev4 ev2 ev1; first | (simp_all [pushK]; done) | (rw [xmx0]; simp_all [pushK]; done)) rfl
    · refine V2_iconst (v := 1) d_Car_goesAhead_7 rfl ?_
      refine V2_goto (tgt := 12) d_Car_goesAhead_8 rfl ?_
      refine V2_zreturn d_Car_goesAhead_12 rfl (by decide) ?_
      refine V2.to (st' := [.int (1 : Int32)]) ?_ rfl rfl rfl rfl
      refine V2_if_eq (tgt := 11) d_Push_asPusher_4 rfl (fun c => absurd c (by decide)) (fun _ => ?_)
      refine V2_iload_n (i := 0) d_Push_asPusher_7 rfl rfl ?_
      refine V2_goto (tgt := 12) d_Push_asPusher_8 rfl ?_
      refine V2_ireturn d_Push_asPusher_12 rfl ?_
      refine V2.to (st' := [.int v1]) ?_ rfl rfl rfl rfl
      refine V2_aload_n (i := 1) d_Push_asRhythm_5 rfl rfl ?_
      refine V2_callV [] d_Push_asRhythm_6 rfl rfl lk_Push_61 mo_Car_goesAhead (by decide) rfl rfl rfl (Nat.le_of_ble_eq_true rfl) (Nat.le_of_ble_eq_true rfl) ?_
      refine V2.to (l' := [some (.ref 43)]) ?_ rfl rfl rfl rfl
      refine V2_aload_n (i := 0) d_Car_goesAhead_0 rfl rfl ?_
      refine V2_get (v := F 43 3) d_Car_goesAhead_1 fl_Car_19 (by decide) rfl (by decide) rfl rfl ?_
      refine V2_topi (fun v10 ev10 => ?_)
      refine V2_if_ne (tgt := 11) d_Car_goesAhead_4 rfl (fun c11 => ?_) (fun c11 => ?_)
      · refine V2_iconst (v := 0) d_Car_goesAhead_11 rfl ?_
        refine V2_zreturn d_Car_goesAhead_12 rfl (by decide) ?_
        refine V2.to (st' := [.int (0 : Int32), .int v1]) ?_ rfl rfl rfl rfl
        refine V2_if_eq (tgt := 16) d_Push_asRhythm_9 rfl (fun _ => ?_) (fun c => absurd (by decide) c)
        refine V2_iconst (v := 0) d_Push_asRhythm_16 rfl ?_
        refine V2_iadd d_Push_asRhythm_17 ?_
        refine V2_topi (fun v12 ev12 => ?_)
        refine V2_ireturn d_Push_asRhythm_18 rfl ?_
        refine V2.to (st' := [.int v12]) ?_ rfl rfl rfl rfl
        refine V2_ireturn d_Push_pushOf_53 rfl ?_
        exact xQi hQ (by subst ev12 ev10 ev4 ev2 ev1; first | (simp_all [pushK]; done) | (rw [xmx0]; simp_all [pushK]; done)) rfl
      · refine V2_iconst (v := 1) d_Car_goesAhead_7 rfl ?_
        refine V2_goto (tgt := 12) d_Car_goesAhead_8 rfl ?_
        refine V2_zreturn d_Car_goesAhead_12 rfl (by decide) ?_
        refine V2.to (st' := [.int (1 : Int32), .int v1]) ?_ rfl rfl rfl rfl
        refine V2_if_eq (tgt := 16) d_Push_asRhythm_9 rfl (fun c => absurd c (by decide)) (fun _ => ?_)
        refine V2_iconst (v := 2) d_Push_asRhythm_12 rfl ?_
        refine V2_goto (tgt := 17) d_Push_asRhythm_13 rfl ?_
        refine V2_iadd d_Push_asRhythm_17 ?_
        refine V2_topi (fun v13 ev13 => ?_)
        refine V2_ireturn d_Push_asRhythm_18 rfl ?_
        refine V2.to (st' := [.int v13]) ?_ rfl rfl rfl rfl
        refine V2_ireturn d_Push_pushOf_53 rfl ?_
        exact xQi hQ (by subst ev13 ev10 ev4 ev2 ev1; first | (simp_all [pushK]; done) | (rw [xmx0]; simp_all [pushK]; done)) rfl
  by_cases c3_2 : v2 = 2
  · refine V2_tableIn (tgt := 54) (off := 43) d_Push_pushOf_11 (by rw [c3_2]; decide) (by rw [c3_2]; decide) (by rw [c3_2]; decide) rfl ?_
    refine V2_iload_n (i := 3) d_Push_pushOf_54 rfl rfl ?_
    refine V2_aload_n (i := 2) d_Push_pushOf_55 rfl rfl ?_
    refine V2_callS [.int v1, .ref 43] d_Push_pushOf_56 rfl rfl lk_Push_58 mo_Push_asLate (Nat.le_of_ble_eq_true rfl) (Nat.le_of_ble_eq_true rfl) ?_
    refine V2.to (l' := [some (.int v1), some (.ref 43)]) ?_ rfl rfl rfl rfl
    refine V2_aload_n (i := 1) d_Push_asLate_0 rfl rfl ?_
    refine V2_get (v := F 43 5) d_Push_asLate_1 fl_Push_71 (by decide) rfl (by decide) rfl rfl ?_
    refine V2_topi (fun v14 ev14 => ?_)
    refine V2_iconst (v := 2) d_Push_asLate_4 rfl ?_
    refine V2_iremM d_Push_asLate_5 (by decide) ?_
    refine V2_topi (fun v15 ev15 => ?_)
    refine V2_if_ne (tgt := 17) d_Push_asLate_6 rfl (fun c16 => ?_) (fun c16 => ?_)
    · refine V2_iconst (v := 0) d_Push_asLate_17 rfl ?_
      refine V2_ireturn d_Push_asLate_18 rfl ?_
      refine V2.to (st' := [.int (0 : Int32)]) ?_ rfl rfl rfl rfl
      refine V2_ireturn d_Push_pushOf_59 rfl ?_
      exact xQi hQ (by subst ev15 ev14 ev2 ev1; first | (simp_all [pushK]; done) | (rw [xmx0]; simp_all [pushK]; done)) rfl
    · refine V2_iload_n (i := 0) d_Push_asLate_9 rfl rfl ?_
      refine V2_aload_n (i := 1) d_Push_asLate_10 rfl rfl ?_
      refine V2_callS [.int v1, .ref 43] d_Push_asLate_11 rfl rfl lk_Push_80 mo_Push_asPusher (Nat.le_of_ble_eq_true rfl) (Nat.le_of_ble_eq_true rfl) ?_
      refine V2.to (l' := [some (.int v1), some (.ref 43)]) ?_ rfl rfl rfl rfl
      refine V2_aload_n (i := 1) d_Push_asPusher_0 rfl rfl ?_
      refine V2_callV [] d_Push_asPusher_1 rfl rfl lk_Push_61 mo_Car_goesAhead (by decide) rfl rfl rfl (Nat.le_of_ble_eq_true rfl) (Nat.le_of_ble_eq_true rfl) ?_
      refine V2.to (l' := [some (.ref 43)]) ?_ rfl rfl rfl rfl
      refine V2_aload_n (i := 0) d_Car_goesAhead_0 rfl rfl ?_
      refine V2_get (v := F 43 3) d_Car_goesAhead_1 fl_Car_19 (by decide) rfl (by decide) rfl rfl ?_
      refine V2_topi (fun v17 ev17 => ?_)
      refine V2_if_ne (tgt := 11) d_Car_goesAhead_4 rfl (fun c18 => ?_) (fun c18 => ?_)
      · refine V2_iconst (v := 0) d_Car_goesAhead_11 rfl ?_
        refine V2_zreturn d_Car_goesAhead_12 rfl (by decide) ?_
        refine V2.to (st' := [.int (0 : Int32)]) ?_ rfl rfl rfl rfl
        refine V2_if_eq (tgt := 11) d_Push_asPusher_4 rfl (fun _ => ?_) (fun c => absurd (by decide) c)
        refine V2_iconst (v := 0) d_Push_asPusher_11 rfl ?_
        refine V2_ireturn d_Push_asPusher_12 rfl ?_
        refine V2.to (st' := [.int (0 : Int32)]) ?_ rfl rfl rfl rfl
        refine V2_goto (tgt := 18) d_Push_asLate_14 rfl ?_
        refine V2_ireturn d_Push_asLate_18 rfl ?_
        refine V2.to (st' := [.int (0 : Int32)]) ?_ rfl rfl rfl rfl
        refine V2_ireturn d_Push_pushOf_59 rfl ?_
        exact xQi hQ (by subst ev17 ev15 ev14 ev2 ev1; first | (simp_all [pushK]; done) | (rw [xmx0]; simp_all [pushK]; done)) rfl
      · refine V2_iconst (v := 1) d_Car_goesAhead_7 rfl ?_
        refine V2_goto (tgt := 12) d_Car_goesAhead_8 rfl ?_
        refine V2_zreturn d_Car_goesAhead_12 rfl (by decide) ?_
        refine V2.to (st' := [.int (1 : Int32)]) ?_ rfl rfl rfl rfl
        refine V2_if_eq (tgt := 11) d_Push_asPusher_4 rfl (fun c => absurd c (by decide)) (fun _ => ?_)
        refine V2_iload_n (i := 0) d_Push_asPusher_7 rfl rfl ?_
        refine V2_goto (tgt := 12) d_Push_asPusher_8 rfl ?_
        refine V2_ireturn d_Push_asPusher_12 rfl ?_
        refine V2.to (st' := [.int v1]) ?_ rfl rfl rfl rfl
        refine V2_goto (tgt := 18) d_Push_asLate_14 rfl ?_
        refine V2_ireturn d_Push_asLate_18 rfl ?_
        refine V2.to (st' := [.int v1]) ?_ rfl rfl rfl rfl
        refine V2_ireturn d_Push_pushOf_59 rfl ?_
        exact xQi hQ (by subst ev17 ev15 ev14 ev2 ev1; first | (simp_all [pushK]; done) | (rw [xmx0]; simp_all [pushK]; done)) rfl
  by_cases c3_3 : v2 = 3
  · refine V2_tableIn (tgt := 60) (off := 49) d_Push_pushOf_11 (by rw [c3_3]; decide) (by rw [c3_3]; decide) (by rw [c3_3]; decide) rfl ?_
    refine V2_aload_n (i := 2) d_Push_pushOf_60 rfl rfl ?_
    refine V2_callV [] d_Push_pushOf_61 rfl rfl lk_Push_61 mo_Car_goesAhead (by decide) rfl rfl rfl (Nat.le_of_ble_eq_true rfl) (Nat.le_of_ble_eq_true rfl) ?_
    refine V2.to (l' := [some (.ref 43)]) ?_ rfl rfl rfl rfl
    refine V2_aload_n (i := 0) d_Car_goesAhead_0 rfl rfl ?_
    refine V2_get (v := F 43 3) d_Car_goesAhead_1 fl_Car_19 (by decide) rfl (by decide) rfl rfl ?_
    refine V2_topi (fun v19 ev19 => ?_)
    refine V2_if_ne (tgt := 11) d_Car_goesAhead_4 rfl (fun c20 => ?_) (fun c20 => ?_)
    · refine V2_iconst (v := 0) d_Car_goesAhead_11 rfl ?_
      refine V2_zreturn d_Car_goesAhead_12 rfl (by decide) ?_
      refine V2.to (st' := [.int (0 : Int32)]) ?_ rfl rfl rfl rfl
      refine V2_if_eq (tgt := 71) d_Push_pushOf_64 rfl (fun _ => ?_) (fun c => absurd (by decide) c)
      refine V2_iload_n (i := 3) d_Push_pushOf_71 rfl rfl ?_
      refine V2_ireturn d_Push_pushOf_72 rfl ?_
      exact xQi hQ (by subst ev19 ev2 ev1; first | (simp_all [pushK]; done) | (rw [xmx0]; simp_all [pushK]; done)) rfl
    · refine V2_iconst (v := 1) d_Car_goesAhead_7 rfl ?_
      refine V2_goto (tgt := 12) d_Car_goesAhead_8 rfl ?_
      refine V2_zreturn d_Car_goesAhead_12 rfl (by decide) ?_
      refine V2.to (st' := [.int (1 : Int32)]) ?_ rfl rfl rfl rfl
      refine V2_if_eq (tgt := 71) d_Push_pushOf_64 rfl (fun c => absurd c (by decide)) (fun _ => ?_)
      refine V2_iconst (v := 0) d_Push_pushOf_67 rfl ?_
      refine V2_goto (tgt := 72) d_Push_pushOf_68 rfl ?_
      refine V2_ireturn d_Push_pushOf_72 rfl ?_
      exact xQi hQ (by subst ev19 ev2 ev1; first | (simp_all [pushK]; done) | (rw [xmx0]; simp_all [pushK]; done)) rfl
  by_cases c3_4 : v2 = 4
  · refine V2_tableIn (tgt := 73) (off := 62) d_Push_pushOf_11 (by rw [c3_4]; decide) (by rw [c3_4]; decide) (by rw [c3_4]; decide) rfl ?_
    refine V2_iload_n (i := 3) d_Push_pushOf_73 rfl rfl ?_
    refine V2_aload_n (i := 2) d_Push_pushOf_74 rfl rfl ?_
    refine V2_callS [.int v1, .ref 43] d_Push_pushOf_75 rfl rfl lk_Push_54 mo_Push_asRhythm (Nat.le_of_ble_eq_true rfl) (Nat.le_of_ble_eq_true rfl) ?_
    refine V2.to (l' := [some (.int v1), some (.ref 43)]) ?_ rfl rfl rfl rfl
    refine V2_iload_n (i := 0) d_Push_asRhythm_0 rfl rfl ?_
    refine V2_aload_n (i := 1) d_Push_asRhythm_1 rfl rfl ?_
    refine V2_callS [.int v1, .ref 43] d_Push_asRhythm_2 rfl rfl lk_Push_80 mo_Push_asPusher (Nat.le_of_ble_eq_true rfl) (Nat.le_of_ble_eq_true rfl) ?_
    refine V2.to (l' := [some (.int v1), some (.ref 43)]) ?_ rfl rfl rfl rfl
    refine V2_aload_n (i := 1) d_Push_asPusher_0 rfl rfl ?_
    refine V2_callV [] d_Push_asPusher_1 rfl rfl lk_Push_61 mo_Car_goesAhead (by decide) rfl rfl rfl (Nat.le_of_ble_eq_true rfl) (Nat.le_of_ble_eq_true rfl) ?_
    refine V2.to (l' := [some (.ref 43)]) ?_ rfl rfl rfl rfl
    refine V2_aload_n (i := 0) d_Car_goesAhead_0 rfl rfl ?_
    refine V2_get (v := F 43 3) d_Car_goesAhead_1 fl_Car_19 (by decide) rfl (by decide) rfl rfl ?_
    refine V2_topi (fun v21 ev21 => ?_)
    refine V2_if_ne (tgt := 11) d_Car_goesAhead_4 rfl (fun c22 => ?_) (fun c22 => ?_)
    · refine V2_iconst (v := 0) d_Car_goesAhead_11 rfl ?_
      refine V2_zreturn d_Car_goesAhead_12 rfl (by decide) ?_
      refine V2.to (st' := [.int (0 : Int32)]) ?_ rfl rfl rfl rfl
      refine V2_if_eq (tgt := 11) d_Push_asPusher_4 rfl (fun _ => ?_) (fun c => absurd (by decide) c)
      refine V2_iconst (v := 0) d_Push_asPusher_11 rfl ?_
      refine V2_ireturn d_Push_asPusher_12 rfl ?_
      refine V2.to (st' := [.int (0 : Int32)]) ?_ rfl rfl rfl rfl
      refine V2_aload_n (i := 1) d_Push_asRhythm_5 rfl rfl ?_
      refine V2_callV [] d_Push_asRhythm_6 rfl rfl lk_Push_61 mo_Car_goesAhead (by decide) rfl rfl rfl (Nat.le_of_ble_eq_true rfl) (Nat.le_of_ble_eq_true rfl) ?_
      refine V2.to (l' := [some (.ref 43)]) ?_ rfl rfl rfl rfl
      refine V2_aload_n (i := 0) d_Car_goesAhead_0 rfl rfl ?_
      refine V2_get (v := F 43 3) d_Car_goesAhead_1 fl_Car_19 (by decide) rfl (by decide) rfl rfl ?_
      refine V2_topi (fun v23 ev23 => ?_)
      refine V2_if_ne (tgt := 11) d_Car_goesAhead_4 rfl (fun c24 => ?_) (fun c24 => ?_)
      · refine V2_iconst (v := 0) d_Car_goesAhead_11 rfl ?_
        refine V2_zreturn d_Car_goesAhead_12 rfl (by decide) ?_
        refine V2.to (st' := [.int (0 : Int32), .int (0 : Int32)]) ?_ rfl rfl rfl rfl
        refine V2_if_eq (tgt := 16) d_Push_asRhythm_9 rfl (fun _ => ?_) (fun c => absurd (by decide) c)
        refine V2_iconst (v := 0) d_Push_asRhythm_16 rfl ?_
        refine V2_iadd d_Push_asRhythm_17 ?_
        refine V2_topi (fun v25 ev25 => ?_)
        refine V2_ireturn d_Push_asRhythm_18 rfl ?_
        refine V2.to (st' := [.int v25]) ?_ rfl rfl rfl rfl
        refine V2_aload_n (i := 2) d_Push_pushOf_78 rfl rfl ?_
        refine V2_get (v := F 43 2) d_Push_pushOf_79 fl_Push_67 (by decide) rfl (by decide) rfl rfl ?_
        refine V2_topi (fun v26 ev26 => ?_)
        refine V2_bipush (v := 8) d_Push_pushOf_82 rfl ?_
        refine V2_idiv d_Push_pushOf_84 (by decide) ?_
        refine V2_topi (fun v27 ev27 => ?_)
        refine V2_iadd d_Push_pushOf_85 ?_
        refine V2_topi (fun v28 ev28 => ?_)
        refine V2_ireturn d_Push_pushOf_86 rfl ?_
        exact xQi hQ (by subst ev28 ev27 ev26 ev25 ev23 ev21 ev2 ev1; first | (simp_all [pushK]; done) | (rw [xmx0]; simp_all [pushK]; done)) rfl
      · refine V2_iconst (v := 1) d_Car_goesAhead_7 rfl ?_
        refine V2_goto (tgt := 12) d_Car_goesAhead_8 rfl ?_
        refine V2_zreturn d_Car_goesAhead_12 rfl (by decide) ?_
        refine V2.to (st' := [.int (1 : Int32), .int (0 : Int32)]) ?_ rfl rfl rfl rfl
        refine V2_if_eq (tgt := 16) d_Push_asRhythm_9 rfl (fun c => absurd c (by decide)) (fun _ => ?_)
        refine V2_iconst (v := 2) d_Push_asRhythm_12 rfl ?_
        refine V2_goto (tgt := 17) d_Push_asRhythm_13 rfl ?_
        refine V2_iadd d_Push_asRhythm_17 ?_
        refine V2_topi (fun v29 ev29 => ?_)
        refine V2_ireturn d_Push_asRhythm_18 rfl ?_
        refine V2.to (st' := [.int v29]) ?_ rfl rfl rfl rfl
        refine V2_aload_n (i := 2) d_Push_pushOf_78 rfl rfl ?_
        refine V2_get (v := F 43 2) d_Push_pushOf_79 fl_Push_67 (by decide) rfl (by decide) rfl rfl ?_
        refine V2_topi (fun v30 ev30 => ?_)
        refine V2_bipush (v := 8) d_Push_pushOf_82 rfl ?_
        refine V2_idiv d_Push_pushOf_84 (by decide) ?_
        refine V2_topi (fun v31 ev31 => ?_)
        refine V2_iadd d_Push_pushOf_85 ?_
        refine V2_topi (fun v32 ev32 => ?_)
        refine V2_ireturn d_Push_pushOf_86 rfl ?_
        exact xQi hQ (by subst ev32 ev31 ev30 ev29 ev23 ev21 ev2 ev1; first | (simp_all [pushK]; done) | (rw [xmx0]; simp_all [pushK]; done)) rfl
    · refine V2_iconst (v := 1) d_Car_goesAhead_7 rfl ?_
      refine V2_goto (tgt := 12) d_Car_goesAhead_8 rfl ?_
      refine V2_zreturn d_Car_goesAhead_12 rfl (by decide) ?_
      refine V2.to (st' := [.int (1 : Int32)]) ?_ rfl rfl rfl rfl
      refine V2_if_eq (tgt := 11) d_Push_asPusher_4 rfl (fun c => absurd c (by decide)) (fun _ => ?_)
      refine V2_iload_n (i := 0) d_Push_asPusher_7 rfl rfl ?_
      refine V2_goto (tgt := 12) d_Push_asPusher_8 rfl ?_
      refine V2_ireturn d_Push_asPusher_12 rfl ?_
      refine V2.to (st' := [.int v1]) ?_ rfl rfl rfl rfl
      refine V2_aload_n (i := 1) d_Push_asRhythm_5 rfl rfl ?_
      refine V2_callV [] d_Push_asRhythm_6 rfl rfl lk_Push_61 mo_Car_goesAhead (by decide) rfl rfl rfl (Nat.le_of_ble_eq_true rfl) (Nat.le_of_ble_eq_true rfl) ?_
      refine V2.to (l' := [some (.ref 43)]) ?_ rfl rfl rfl rfl
      refine V2_aload_n (i := 0) d_Car_goesAhead_0 rfl rfl ?_
      refine V2_get (v := F 43 3) d_Car_goesAhead_1 fl_Car_19 (by decide) rfl (by decide) rfl rfl ?_
      refine V2_topi (fun v33 ev33 => ?_)
      refine V2_if_ne (tgt := 11) d_Car_goesAhead_4 rfl (fun c34 => ?_) (fun c34 => ?_)
      · refine V2_iconst (v := 0) d_Car_goesAhead_11 rfl ?_
        refine V2_zreturn d_Car_goesAhead_12 rfl (by decide) ?_
        refine V2.to (st' := [.int (0 : Int32), .int v1]) ?_ rfl rfl rfl rfl
        refine V2_if_eq (tgt := 16) d_Push_asRhythm_9 rfl (fun _ => ?_) (fun c => absurd (by decide) c)
        refine V2_iconst (v := 0) d_Push_asRhythm_16 rfl ?_
        refine V2_iadd d_Push_asRhythm_17 ?_
        refine V2_topi (fun v35 ev35 => ?_)
        refine V2_ireturn d_Push_asRhythm_18 rfl ?_
        refine V2.to (st' := [.int v35]) ?_ rfl rfl rfl rfl
        refine V2_aload_n (i := 2) d_Push_pushOf_78 rfl rfl ?_
        refine V2_get (v := F 43 2) d_Push_pushOf_79 fl_Push_67 (by decide) rfl (by decide) rfl rfl ?_
        refine V2_topi (fun v36 ev36 => ?_)
        refine V2_bipush (v := 8) d_Push_pushOf_82 rfl ?_
        refine V2_idiv d_Push_pushOf_84 (by decide) ?_
        refine V2_topi (fun v37 ev37 => ?_)
        refine V2_iadd d_Push_pushOf_85 ?_
        refine V2_topi (fun v38 ev38 => ?_)
        refine V2_ireturn d_Push_pushOf_86 rfl ?_
        exact xQi hQ (by subst ev38 ev37 ev36 ev35 ev33 ev21 ev2 ev1; first | (simp_all [pushK]; done) | (rw [xmx0]; simp_all [pushK]; done)) rfl
      · refine V2_iconst (v := 1) d_Car_goesAhead_7 rfl ?_
        refine V2_goto (tgt := 12) d_Car_goesAhead_8 rfl ?_
        refine V2_zreturn d_Car_goesAhead_12 rfl (by decide) ?_
        refine V2.to (st' := [.int (1 : Int32), .int v1]) ?_ rfl rfl rfl rfl
        refine V2_if_eq (tgt := 16) d_Push_asRhythm_9 rfl (fun c => absurd c (by decide)) (fun _ => ?_)
        refine V2_iconst (v := 2) d_Push_asRhythm_12 rfl ?_
        refine V2_goto (tgt := 17) d_Push_asRhythm_13 rfl ?_
        refine V2_iadd d_Push_asRhythm_17 ?_
        refine V2_topi (fun v39 ev39 => ?_)
        refine V2_ireturn d_Push_asRhythm_18 rfl ?_
        refine V2.to (st' := [.int v39]) ?_ rfl rfl rfl rfl
        refine V2_aload_n (i := 2) d_Push_pushOf_78 rfl rfl ?_
        refine V2_get (v := F 43 2) d_Push_pushOf_79 fl_Push_67 (by decide) rfl (by decide) rfl rfl ?_
        refine V2_topi (fun v40 ev40 => ?_)
        refine V2_bipush (v := 8) d_Push_pushOf_82 rfl ?_
        refine V2_idiv d_Push_pushOf_84 (by decide) ?_
        refine V2_topi (fun v41 ev41 => ?_)
        refine V2_iadd d_Push_pushOf_85 ?_
        refine V2_topi (fun v42 ev42 => ?_)
        refine V2_ireturn d_Push_pushOf_86 rfl ?_
        exact xQi hQ (by subst ev42 ev41 ev40 ev39 ev33 ev21 ev2 ev1; first | (simp_all [pushK]; done) | (rw [xmx0]; simp_all [pushK]; done)) rfl
  by_cases c3_5 : v2 = 5
  · refine V2_tableIn (tgt := 87) (off := 76) d_Push_pushOf_11 (by rw [c3_5]; decide) (by rw [c3_5]; decide) (by rw [c3_5]; decide) rfl ?_
    refine V2_iconst (v := 0) d_Push_pushOf_87 rfl ?_
    refine V2_iload_n (i := 3) d_Push_pushOf_88 rfl rfl ?_
    refine V2_aload_n (i := 2) d_Push_pushOf_89 rfl rfl ?_
    refine V2_callS [.int v1, .ref 43] d_Push_pushOf_90 rfl rfl lk_Push_58 mo_Push_asLate (Nat.le_of_ble_eq_true rfl) (Nat.le_of_ble_eq_true rfl) ?_
    refine V2.to (l' := [some (.int v1), some (.ref 43)]) ?_ rfl rfl rfl rfl
    refine V2_aload_n (i := 1) d_Push_asLate_0 rfl rfl ?_
    refine V2_get (v := F 43 5) d_Push_asLate_1 fl_Push_71 (by decide) rfl (by decide) rfl rfl ?_
    refine V2_topi (fun v43 ev43 => ?_)
    refine V2_iconst (v := 2) d_Push_asLate_4 rfl ?_
    refine V2_iremM d_Push_asLate_5 (by decide) ?_
    refine V2_topi (fun v44 ev44 => ?_)
    refine V2_if_ne (tgt := 17) d_Push_asLate_6 rfl (fun c45 => ?_) (fun c45 => ?_)
    · refine V2_iconst (v := 0) d_Push_asLate_17 rfl ?_
      refine V2_ireturn d_Push_asLate_18 rfl ?_
      refine V2.to (st' := [.int (0 : Int32), .int (0 : Int32)]) ?_ rfl rfl rfl rfl
      refine V2_aload_n (i := 2) d_Push_pushOf_93 rfl rfl ?_
      refine V2_get (v := F 43 5) d_Push_pushOf_94 fl_Push_71 (by decide) rfl (by decide) rfl rfl ?_
      refine V2_topi (fun v46 ev46 => ?_)
      refine V2_bipush (v := 8) d_Push_pushOf_97 rfl ?_
      refine V2_idiv d_Push_pushOf_99 (by decide) ?_
      refine V2_topi (fun v47 ev47 => ?_)
      refine V2_isub d_Push_pushOf_100 ?_
      refine V2_topi (fun v48 ev48 => ?_)
      refine V2_mmax d_Push_pushOf_101 lz_Push_74 (Nat.le_of_ble_eq_true rfl) ?_
      refine V2_topi (fun v49 ev49 => ?_)
      refine V2_ireturn d_Push_pushOf_104 rfl ?_
      exact xQi hQ (by subst ev49 ev48 ev47 ev46 ev44 ev43 ev2 ev1; first | (simp_all [pushK]; done) | (rw [xmx0]; simp_all [pushK]; done)) rfl
    · refine V2_iload_n (i := 0) d_Push_asLate_9 rfl rfl ?_
      refine V2_aload_n (i := 1) d_Push_asLate_10 rfl rfl ?_
      refine V2_callS [.int v1, .ref 43] d_Push_asLate_11 rfl rfl lk_Push_80 mo_Push_asPusher (Nat.le_of_ble_eq_true rfl) (Nat.le_of_ble_eq_true rfl) ?_
      refine V2.to (l' := [some (.int v1), some (.ref 43)]) ?_ rfl rfl rfl rfl
      refine V2_aload_n (i := 1) d_Push_asPusher_0 rfl rfl ?_
      refine V2_callV [] d_Push_asPusher_1 rfl rfl lk_Push_61 mo_Car_goesAhead (by decide) rfl rfl rfl (Nat.le_of_ble_eq_true rfl) (Nat.le_of_ble_eq_true rfl) ?_
      refine V2.to (l' := [some (.ref 43)]) ?_ rfl rfl rfl rfl
      refine V2_aload_n (i := 0) d_Car_goesAhead_0 rfl rfl ?_
      refine V2_get (v := F 43 3) d_Car_goesAhead_1 fl_Car_19 (by decide) rfl (by decide) rfl rfl ?_
      refine V2_topi (fun v50 ev50 => ?_)
      refine V2_if_ne (tgt := 11) d_Car_goesAhead_4 rfl (fun c51 => ?_) (fun c51 => ?_)
      · refine V2_iconst (v := 0) d_Car_goesAhead_11 rfl ?_
        refine V2_zreturn d_Car_goesAhead_12 rfl (by decide) ?_
        refine V2.to (st' := [.int (0 : Int32)]) ?_ rfl rfl rfl rfl
        refine V2_if_eq (tgt := 11) d_Push_asPusher_4 rfl (fun _ => ?_) (fun c => absurd (by decide) c)
        refine V2_iconst (v := 0) d_Push_asPusher_11 rfl ?_
        refine V2_ireturn d_Push_asPusher_12 rfl ?_
        refine V2.to (st' := [.int (0 : Int32)]) ?_ rfl rfl rfl rfl
        refine V2_goto (tgt := 18) d_Push_asLate_14 rfl ?_
        refine V2_ireturn d_Push_asLate_18 rfl ?_
        refine V2.to (st' := [.int (0 : Int32), .int (0 : Int32)]) ?_ rfl rfl rfl rfl
        refine V2_aload_n (i := 2) d_Push_pushOf_93 rfl rfl ?_
        refine V2_get (v := F 43 5) d_Push_pushOf_94 fl_Push_71 (by decide) rfl (by decide) rfl rfl ?_
        refine V2_topi (fun v52 ev52 => ?_)
        refine V2_bipush (v := 8) d_Push_pushOf_97 rfl ?_
        refine V2_idiv d_Push_pushOf_99 (by decide) ?_
        refine V2_topi (fun v53 ev53 => ?_)
        refine V2_isub d_Push_pushOf_100 ?_
        refine V2_topi (fun v54 ev54 => ?_)
        refine V2_mmax d_Push_pushOf_101 lz_Push_74 (Nat.le_of_ble_eq_true rfl) ?_
        refine V2_topi (fun v55 ev55 => ?_)
        refine V2_ireturn d_Push_pushOf_104 rfl ?_
        exact xQi hQ (by subst ev55 ev54 ev53 ev52 ev50 ev44 ev43 ev2 ev1; first | (simp_all [pushK]; done) | (rw [xmx0]; simp_all [pushK]; done)) rfl
      · refine V2_iconst (v := 1) d_Car_goesAhead_7 rfl ?_
        refine V2_goto (tgt := 12) d_Car_goesAhead_8 rfl ?_
        refine V2_zreturn d_Car_goesAhead_12 rfl (by decide) ?_
        refine V2.to (st' := [.int (1 : Int32)]) ?_ rfl rfl rfl rfl
        refine V2_if_eq (tgt := 11) d_Push_asPusher_4 rfl (fun c => absurd c (by decide)) (fun _ => ?_)
        refine V2_iload_n (i := 0) d_Push_asPusher_7 rfl rfl ?_
        refine V2_goto (tgt := 12) d_Push_asPusher_8 rfl ?_
        refine V2_ireturn d_Push_asPusher_12 rfl ?_
        refine V2.to (st' := [.int v1]) ?_ rfl rfl rfl rfl
        refine V2_goto (tgt := 18) d_Push_asLate_14 rfl ?_
        refine V2_ireturn d_Push_asLate_18 rfl ?_
        refine V2.to (st' := [.int v1, .int (0 : Int32)]) ?_ rfl rfl rfl rfl
        refine V2_aload_n (i := 2) d_Push_pushOf_93 rfl rfl ?_
        refine V2_get (v := F 43 5) d_Push_pushOf_94 fl_Push_71 (by decide) rfl (by decide) rfl rfl ?_
        refine V2_topi (fun v56 ev56 => ?_)
        refine V2_bipush (v := 8) d_Push_pushOf_97 rfl ?_
        refine V2_idiv d_Push_pushOf_99 (by decide) ?_
        refine V2_topi (fun v57 ev57 => ?_)
        refine V2_isub d_Push_pushOf_100 ?_
        refine V2_topi (fun v58 ev58 => ?_)
        refine V2_mmax d_Push_pushOf_101 lz_Push_74 (Nat.le_of_ble_eq_true rfl) ?_
        refine V2_topi (fun v59 ev59 => ?_)
        refine V2_ireturn d_Push_pushOf_104 rfl ?_
        exact xQi hQ (by subst ev59 ev58 ev57 ev56 ev50 ev44 ev43 ev2 ev1; first | (simp_all [pushK]; done) | (rw [xmx0]; simp_all [pushK]; done)) rfl
  by_cases c3_6 : v2 = 6
  · refine V2_tableIn (tgt := 105) (off := 94) d_Push_pushOf_11 (by rw [c3_6]; decide) (by rw [c3_6]; decide) (by rw [c3_6]; decide) rfl ?_
    refine V2_iconst (v := 0) d_Push_pushOf_105 rfl ?_
    refine V2_ireturn d_Push_pushOf_106 rfl ?_
    exact xQi hQ (by subst ev2 ev1; first | (simp_all [pushK]; done) | (rw [xmx0]; simp_all [pushK]; done)) rfl
  refine V2_tableOut (tgt := 107) d_Push_pushOf_11 (by have := lv_neT (a := 1) c3_1 rfl; have := lv_neT (a := 2) c3_2 rfl; have := lv_neT (a := 3) c3_3 rfl; have := lv_neT (a := 4) c3_4 rfl; have := lv_neT (a := 5) c3_5 rfl; have := lv_neT (a := 6) c3_6 rfl; omega) rfl ?_
  refine V2_iload_n (i := 3) d_Push_pushOf_107 rfl rfl ?_
  refine V2_aload_n (i := 2) d_Push_pushOf_108 rfl rfl ?_
  refine V2_callS [.int v1, .ref 43] d_Push_pushOf_109 rfl rfl lk_Push_80 mo_Push_asPusher (Nat.le_of_ble_eq_true rfl) (Nat.le_of_ble_eq_true rfl) ?_
  refine V2.to (l' := [some (.int v1), some (.ref 43)]) ?_ rfl rfl rfl rfl
  refine V2_aload_n (i := 1) d_Push_asPusher_0 rfl rfl ?_
  refine V2_callV [] d_Push_asPusher_1 rfl rfl lk_Push_61 mo_Car_goesAhead (by decide) rfl rfl rfl (Nat.le_of_ble_eq_true rfl) (Nat.le_of_ble_eq_true rfl) ?_
  refine V2.to (l' := [some (.ref 43)]) ?_ rfl rfl rfl rfl
  refine V2_aload_n (i := 0) d_Car_goesAhead_0 rfl rfl ?_
  refine V2_get (v := F 43 3) d_Car_goesAhead_1 fl_Car_19 (by decide) rfl (by decide) rfl rfl ?_
  refine V2_topi (fun v60 ev60 => ?_)
  refine V2_if_ne (tgt := 11) d_Car_goesAhead_4 rfl (fun c61 => ?_) (fun c61 => ?_)
  · refine V2_iconst (v := 0) d_Car_goesAhead_11 rfl ?_
    refine V2_zreturn d_Car_goesAhead_12 rfl (by decide) ?_
    refine V2.to (st' := [.int (0 : Int32)]) ?_ rfl rfl rfl rfl
    refine V2_if_eq (tgt := 11) d_Push_asPusher_4 rfl (fun _ => ?_) (fun c => absurd (by decide) c)
    refine V2_iconst (v := 0) d_Push_asPusher_11 rfl ?_
    refine V2_ireturn d_Push_asPusher_12 rfl ?_
    refine V2.to (st' := [.int (0 : Int32)]) ?_ rfl rfl rfl rfl
    refine V2_ireturn d_Push_pushOf_112 rfl ?_
    exact xQi hQ (by subst ev60 ev2 ev1; first | (simp_all [pushK]; done) | (rw [xmx0]; simp_all [pushK]; done)) rfl
  · refine V2_iconst (v := 1) d_Car_goesAhead_7 rfl ?_
    refine V2_goto (tgt := 12) d_Car_goesAhead_8 rfl ?_
    refine V2_zreturn d_Car_goesAhead_12 rfl (by decide) ?_
    refine V2.to (st' := [.int (1 : Int32)]) ?_ rfl rfl rfl rfl
    refine V2_if_eq (tgt := 11) d_Push_asPusher_4 rfl (fun c => absurd c (by decide)) (fun _ => ?_)
    refine V2_iload_n (i := 0) d_Push_asPusher_7 rfl rfl ?_
    refine V2_goto (tgt := 12) d_Push_asPusher_8 rfl ?_
    refine V2_ireturn d_Push_asPusher_12 rfl ?_
    refine V2.to (st' := [.int v1]) ?_ rfl rfl rfl rfl
    refine V2_ireturn d_Push_pushOf_112 rfl ?_
    exact xQi hQ (by subst ev60 ev2 ev1; first | (simp_all [pushK]; done) | (rw [xmx0]; simp_all [pushK]; done)) rfl
theorem c_Push_pushOfSet_43_loop {L : Nat} {xs : Nat → Int32} {d : Nat} {Q : Option Value → xF → Prop} {F : xF} {P : Nat} {set : Int32} (hP : F 4 1 = nI P) (hP2 : F 6 1 = nI P) (hl : P ≤ 6) : ∀ (n : Nat) (p : Nat) (v : Int32), p ≤ P → P < n + p → v = sumTo (fun p => @ite _ (inSet set p) (Classical.propDecidable _) (pushK (F 5 p) (F 7 p) (F 43 3) (F 43 2) (F 43 5)) 0) p → (Q (some (.int (sumTo (fun p => @ite _ (inSet set p) (Classical.propDecidable _) (pushK (F 5 p) (F 7 p) (F 43 3) (F 43 2) (F 43 5)) 0) P))) F) → V2 L xs (d + 4) m_Push_pushOfSet 5 [some (.ref 3), some (.int set), some (.ref 43), some (.int v), some (.int (nI p))] [] F Q := by
  intro n
  induction n with
  | zero => exact fun p v h1 h2 => absurd h2 (by omega)
  | succ n ih =>
    intro p v h1 h2 h3 hQ
    refine V2_iload (i := 4) d_Push_pushOfSet_5 rfl ?_
    refine V2_aload_n (i := 0) d_Push_pushOfSet_7 rfl rfl ?_
    refine V2_callV [] d_Push_pushOfSet_8 rfl rfl lk_Push_83 mo_Push_size (by decide) rfl rfl rfl (Nat.le_of_ble_eq_true rfl) (Nat.le_of_ble_eq_true rfl) ?_
    refine c_Push_size hP ?_
    refine V2_icmp_ge (tgt := 43) d_Push_pushOfSet_11 rfl (fun c1 => ?_) (fun c1 => ?_)
    · refine V2_iload_n (i := 3) d_Push_pushOfSet_43 rfl rfl ?_
      refine V2_ireturn d_Push_pushOfSet_44 rfl ?_
      have hpp : p = P := by
        skip
        exact Nat.le_antisymm h1 ((nI_leI (by omega) (by omega)).mp c1)
      subst hpp
      exact xQi hQ h3 rfl
    · have hp : p < P := Nat.not_le.mp (fun hh => c1 ((nI_leI (by omega) (by omega)).mpr hh))
      refine V2_iload_n (i := 3) d_Push_pushOfSet_14 rfl rfl ?_
      refine V2_iload_n (i := 1) d_Push_pushOfSet_15 rfl rfl ?_
      refine V2_iload (i := 4) d_Push_pushOfSet_16 rfl ?_
      refine V2_callS [.int set, .int (nI p)] d_Push_pushOfSet_18 rfl rfl lk_Push_84 mo_Push_isIn (Nat.le_of_ble_eq_true rfl) (Nat.le_of_ble_eq_true rfl) ?_
      refine c_Push_isIn ?_
      refine V2_topi (fun v2 ev2 => ?_)
      refine V2_if_eq (tgt := 34) d_Push_pushOfSet_21 rfl (fun c3 => ?_) (fun c3 => ?_)
      · refine V2_iconst (v := 0) d_Push_pushOfSet_34 rfl ?_
        refine V2_iadd d_Push_pushOfSet_35 ?_
        refine V2_topi (fun v4 ev4 => ?_)
        refine V2_istore_n (i := 3) (l' := [some (.ref 3), some (.int set), some (.ref 43), some (.int v4), some (.int (nI p))]) d_Push_pushOfSet_36 rfl (xst_r (Nat.le_of_ble_eq_true rfl) rfl rfl) ?_
        obtain ⟨v5, ev5⟩ : ∃ y : Int32, y = nI p + 1 := ⟨_, rfl⟩
        refine V2_iinc (i := 4) (v := v5) (l' := [some (.ref 3), some (.int set), some (.ref 43), some (.int v4), some (.int v5)]) d_Push_pushOfSet_37 rfl (by rw [ev5]; rfl) (xst_i (Nat.le_of_ble_eq_true rfl) rfl rfl) ?_
        refine V2_goto (tgt := 5) d_Push_pushOfSet_40 rfl ?_
        exact V2.to (ih (p + 1) v4 (by omega) (by omega) (by subst ev5 ev4 ev2; rw [h3]; exact (sum_out (f := (fun p => pushK (F 5 p) (F 7 p) (F 43 3) (F 43 2) (F 43 5))) (set := set) (xin_f c3)).symm) hQ) rfl (by rw [ev5, nI_1]) rfl rfl
      · refine V2_aload_n (i := 0) d_Push_pushOfSet_24 rfl rfl ?_
        refine V2_iload (i := 4) d_Push_pushOfSet_25 rfl ?_
        refine V2_aload_n (i := 2) d_Push_pushOfSet_27 rfl rfl ?_
        refine V2_callV [.int (nI p), .ref 43] d_Push_pushOfSet_28 rfl rfl lk_Push_91 mo_Push_pushOf (by decide) rfl rfl rfl (Nat.le_of_ble_eq_true rfl) (Nat.le_of_ble_eq_true rfl) ?_
        refine c_Push_pushOf_43 hP hP2 hl hp ?_
        refine V2_topi (fun v6 ev6 => ?_)
        refine V2_goto (tgt := 35) d_Push_pushOfSet_31 rfl ?_
        refine V2_iadd d_Push_pushOfSet_35 ?_
        refine V2_topi (fun v7 ev7 => ?_)
        refine V2_istore_n (i := 3) (l' := [some (.ref 3), some (.int set), some (.ref 43), some (.int v7), some (.int (nI p))]) d_Push_pushOfSet_36 rfl (xst_r (Nat.le_of_ble_eq_true rfl) rfl rfl) ?_
        obtain ⟨v8, ev8⟩ : ∃ y : Int32, y = nI p + 1 := ⟨_, rfl⟩
        refine V2_iinc (i := 4) (v := v8) (l' := [some (.ref 3), some (.int set), some (.ref 43), some (.int v7), some (.int v8)]) d_Push_pushOfSet_37 rfl (by rw [ev8]; rfl) (xst_i (Nat.le_of_ble_eq_true rfl) rfl rfl) ?_
        refine V2_goto (tgt := 5) d_Push_pushOfSet_40 rfl ?_
        exact V2.to (ih (p + 1) v7 (by omega) (by omega) (by subst ev8 ev7 ev6 ev2; rw [h3]; exact (sum_in (f := (fun p => pushK (F 5 p) (F 7 p) (F 43 3) (F 43 2) (F 43 5))) (set := set) (xin_t c3)).symm) hQ) rfl (by rw [ev8, nI_1]) rfl rfl
theorem c_Push_pushOfSet_43 {L : Nat} {xs : Nat → Int32} {d : Nat} {Q : Option Value → xF → Prop} {F : xF} {P : Nat} {set : Int32} (hP : F 4 1 = nI P) (hP2 : F 6 1 = nI P) (hl : P ≤ 6) (hQ : Q (some (.int (sumTo (fun p => @ite _ (inSet set p) (Classical.propDecidable _) (pushK (F 5 p) (F 7 p) (F 43 3) (F 43 2) (F 43 5)) 0) P))) F) : V2 L xs (d + 4) m_Push_pushOfSet 0 (xEntry [.ref 3, .int set, .ref 43] 5) [] F Q := by
  refine V2.to (l' := [some (.ref 3), some (.int set), some (.ref 43), none, none]) ?_ rfl rfl rfl rfl
  refine V2_iconst (v := 0) d_Push_pushOfSet_0 rfl ?_
  refine V2_istore_n (i := 3) (l' := [some (.ref 3), some (.int set), some (.ref 43), some (.int (0 : Int32)), none]) d_Push_pushOfSet_1 rfl (xst_r (Nat.le_of_ble_eq_true rfl) rfl rfl) ?_
  refine V2_iconst (v := 0) d_Push_pushOfSet_2 rfl ?_
  refine V2_istore (i := 4) (l' := [some (.ref 3), some (.int set), some (.ref 43), some (.int (0 : Int32)), some (.int (0 : Int32))]) d_Push_pushOfSet_3 (xst_i (Nat.le_of_ble_eq_true rfl) rfl rfl) ?_
  exact c_Push_pushOfSet_43_loop hP hP2 hl (P + 1) 0 0 (by omega) (by omega) rfl hQ
theorem c_Push_pushOf_44 {L : Nat} {xs : Nat → Int32} {d : Nat} {Q : Option Value → xF → Prop} {F : xF} {p P : Nat} (hP : F 4 1 = nI P) (hP2 : F 6 1 = nI P) (hl : P ≤ 6) (hp : p < P) (hQ : Q (some (.int (pushK (F 5 p) (F 7 p) (F 44 3) (F 44 2) (F 44 5)))) F) : V2 L xs (d + 3) m_Push_pushOf 0 (xEntry [.ref 3, .int (nI p), .ref 44] 4) [] F Q := by
  refine V2.to (l' := [some (.ref 3), some (.int (nI p)), some (.ref 44), none]) ?_ rfl rfl rfl rfl
  refine V2_aload_n (i := 0) d_Push_pushOf_0 rfl rfl ?_
  refine V2_iload_n (i := 1) d_Push_pushOf_1 rfl rfl ?_
  refine V2_callV [.int (nI p)] d_Push_pushOf_2 rfl rfl lk_Push_51 mo_Push_levelOf (by decide) rfl rfl rfl (Nat.le_of_ble_eq_true rfl) (Nat.le_of_ble_eq_true rfl) ?_
  refine c_Push_levelOf hP hP2 hl hp ?_
  refine V2_topi (fun v1 ev1 => ?_)
  refine V2_istore_n (i := 3) (l' := [some (.ref 3), some (.int (nI p)), some (.ref 44), some (.int v1)]) d_Push_pushOf_5 rfl (xst_r (Nat.le_of_ble_eq_true rfl) rfl rfl) ?_
  refine V2_aload_n (i := 0) d_Push_pushOf_6 rfl rfl ?_
  refine V2_iload_n (i := 1) d_Push_pushOf_7 rfl rfl ?_
  refine V2_callV [.int (nI p)] d_Push_pushOf_8 rfl rfl lk_Push_46 mo_Push_kindOf (by decide) rfl rfl rfl (Nat.le_of_ble_eq_true rfl) (Nat.le_of_ble_eq_true rfl) ?_
  refine c_Push_kindOf hP hP2 hl hp ?_
  refine V2_topi (fun v2 ev2 => ?_)
  by_cases c3_1 : v2 = 1
  · refine V2_tableIn (tgt := 48) (off := 37) d_Push_pushOf_11 (by rw [c3_1]; decide) (by rw [c3_1]; decide) (by rw [c3_1]; decide) rfl ?_
    refine V2_iload_n (i := 3) d_Push_pushOf_48 rfl rfl ?_
    refine V2_aload_n (i := 2) d_Push_pushOf_49 rfl rfl ?_
    refine V2_callS [.int v1, .ref 44] d_Push_pushOf_50 rfl rfl lk_Push_54 mo_Push_asRhythm (Nat.le_of_ble_eq_true rfl) (Nat.le_of_ble_eq_true rfl) ?_
    refine V2.to (l' := [some (.int v1), some (.ref 44)]) ?_ rfl rfl rfl rfl
    refine V2_iload_n (i := 0) d_Push_asRhythm_0 rfl rfl ?_
    refine V2_aload_n (i := 1) d_Push_asRhythm_1 rfl rfl ?_
    refine V2_callS [.int v1, .ref 44] d_Push_asRhythm_2 rfl rfl lk_Push_80 mo_Push_asPusher (Nat.le_of_ble_eq_true rfl) (Nat.le_of_ble_eq_true rfl) ?_
    refine V2.to (l' := [some (.int v1), some (.ref 44)]) ?_ rfl rfl rfl rfl
    refine V2_aload_n (i := 1) d_Push_asPusher_0 rfl rfl ?_
    refine V2_callV [] d_Push_asPusher_1 rfl rfl lk_Push_61 mo_Car_goesAhead (by decide) rfl rfl rfl (Nat.le_of_ble_eq_true rfl) (Nat.le_of_ble_eq_true rfl) ?_
    refine V2.to (l' := [some (.ref 44)]) ?_ rfl rfl rfl rfl
    refine V2_aload_n (i := 0) d_Car_goesAhead_0 rfl rfl ?_
    refine V2_get (v := F 44 3) d_Car_goesAhead_1 fl_Car_19 (by decide) rfl (by decide) rfl rfl ?_
    refine V2_topi (fun v4 ev4 => ?_)
    refine V2_if_ne (tgt := 11) d_Car_goesAhead_4 rfl (fun c5 => ?_) (fun c5 => ?_)
    · refine V2_iconst (v := 0) d_Car_goesAhead_11 rfl ?_
      refine V2_zreturn d_Car_goesAhead_12 rfl (by decide) ?_
      refine V2.to (st' := [.int (0 : Int32)]) ?_ rfl rfl rfl rfl
      refine V2_if_eq (tgt := 11) d_Push_asPusher_4 rfl (fun _ => ?_) (fun c => absurd (by decide) c)
      refine V2_iconst (v := 0) d_Push_asPusher_11 rfl ?_
      refine V2_ireturn d_Push_asPusher_12 rfl ?_
      refine V2.to (st' := [.int (0 : Int32)]) ?_ rfl rfl rfl rfl
      refine V2_aload_n (i := 1) d_Push_asRhythm_5 rfl rfl ?_
      refine V2_callV [] d_Push_asRhythm_6 rfl rfl lk_Push_61 mo_Car_goesAhead (by decide) rfl rfl rfl (Nat.le_of_ble_eq_true rfl) (Nat.le_of_ble_eq_true rfl) ?_
      refine V2.to (l' := [some (.ref 44)]) ?_ rfl rfl rfl rfl
      refine V2_aload_n (i := 0) d_Car_goesAhead_0 rfl rfl ?_
      refine V2_get (v := F 44 3) d_Car_goesAhead_1 fl_Car_19 (by decide) rfl (by decide) rfl rfl ?_
      refine V2_topi (fun v6 ev6 => ?_)
      refine V2_if_ne (tgt := 11) d_Car_goesAhead_4 rfl (fun c7 => ?_) (fun c7 => ?_)
      · refine V2_iconst (v := 0) d_Car_goesAhead_11 rfl ?_
        refine V2_zreturn d_Car_goesAhead_12 rfl (by decide) ?_
        refine V2.to (st' := [.int (0 : Int32), .int (0 : Int32)]) ?_ rfl rfl rfl rfl
        refine V2_if_eq (tgt := 16) d_Push_asRhythm_9 rfl (fun _ => ?_) (fun c => absurd (by decide) c)
        refine V2_iconst (v := 0) d_Push_asRhythm_16 rfl ?_
        refine V2_iadd d_Push_asRhythm_17 ?_
        refine V2_topi (fun v8 ev8 => ?_)
        refine V2_ireturn d_Push_asRhythm_18 rfl ?_
        refine V2.to (st' := [.int v8]) ?_ rfl rfl rfl rfl
        refine V2_ireturn d_Push_pushOf_53 rfl ?_
        exact xQi hQ (by subst ev8 ev6 ev4 ev2 ev1; first | (simp_all [pushK]; done) | (rw [xmx0]; simp_all [pushK]; done)) rfl
      · refine V2_iconst (v := 1) d_Car_goesAhead_7 rfl ?_
        refine V2_goto (tgt := 12) d_Car_goesAhead_8 rfl ?_
        refine V2_zreturn d_Car_goesAhead_12 rfl (by decide) ?_
        refine V2.to (st' := [.int (1 : Int32), .int (0 : Int32)]) ?_ rfl rfl rfl rfl
        refine V2_if_eq (tgt := 16) d_Push_asRhythm_9 rfl (fun c => absurd c (by decide)) (fun _ => ?_)
        refine V2_iconst (v := 2) d_Push_asRhythm_12 rfl ?_
        refine V2_goto (tgt := 17) d_Push_asRhythm_13 rfl ?_
        refine V2_iadd d_Push_asRhythm_17 ?_
        refine V2_topi (fun v9 ev9 => ?_)
        refine V2_ireturn d_Push_asRhythm_18 rfl ?_
        refine V2.to (st' := [.int v9]) ?_ rfl rfl rfl rfl
        refine V2_ireturn d_Push_pushOf_53 rfl ?_
        exact xQi hQ (by subst ev9 ev6 ev4 ev2 ev1; first | (simp_all [pushK]; done) | (rw [xmx0]; simp_all [pushK]; done)) rfl
    · refine V2_iconst (v := 1) d_Car_goesAhead_7 rfl ?_
      refine V2_goto (tgt := 12) d_Car_goesAhead_8 rfl ?_
      refine V2_zreturn d_Car_goesAhead_12 rfl (by decide) ?_
      refine V2.to (st' := [.int (1 : Int32)]) ?_ rfl rfl rfl rfl
      refine V2_if_eq (tgt := 11) d_Push_asPusher_4 rfl (fun c => absurd c (by decide)) (fun _ => ?_)
      refine V2_iload_n (i := 0) d_Push_asPusher_7 rfl rfl ?_
      refine V2_goto (tgt := 12) d_Push_asPusher_8 rfl ?_
      refine V2_ireturn d_Push_asPusher_12 rfl ?_
      refine V2.to (st' := [.int v1]) ?_ rfl rfl rfl rfl
      refine V2_aload_n (i := 1) d_Push_asRhythm_5 rfl rfl ?_
      refine V2_callV [] d_Push_asRhythm_6 rfl rfl lk_Push_61 mo_Car_goesAhead (by decide) rfl rfl rfl (Nat.le_of_ble_eq_true rfl) (Nat.le_of_ble_eq_true rfl) ?_
      refine V2.to (l' := [some (.ref 44)]) ?_ rfl rfl rfl rfl
      refine V2_aload_n (i := 0) d_Car_goesAhead_0 rfl rfl ?_
      refine V2_get (v := F 44 3) d_Car_goesAhead_1 fl_Car_19 (by decide) rfl (by decide) rfl rfl ?_
      refine V2_topi (fun v10 ev10 => ?_)
      refine V2_if_ne (tgt := 11) d_Car_goesAhead_4 rfl (fun c11 => ?_) (fun c11 => ?_)
      · refine V2_iconst (v := 0) d_Car_goesAhead_11 rfl ?_
        refine V2_zreturn d_Car_goesAhead_12 rfl (by decide) ?_
        refine V2.to (st' := [.int (0 : Int32), .int v1]) ?_ rfl rfl rfl rfl
        refine V2_if_eq (tgt := 16) d_Push_asRhythm_9 rfl (fun _ => ?_) (fun c => absurd (by decide) c)
        refine V2_iconst (v := 0) d_Push_asRhythm_16 rfl ?_
        refine V2_iadd d_Push_asRhythm_17 ?_
        refine V2_topi (fun v12 ev12 => ?_)
        refine V2_ireturn d_Push_asRhythm_18 rfl ?_
        refine V2.to (st' := [.int v12]) ?_ rfl rfl rfl rfl
        refine V2_ireturn d_Push_pushOf_53 rfl ?_
        exact xQi hQ (by subst ev12 ev10 ev4 ev2 ev1; first | (simp_all [pushK]; done) | (rw [xmx0]; simp_all [pushK]; done)) rfl
      · refine V2_iconst (v := 1) d_Car_goesAhead_7 rfl ?_
        refine V2_goto (tgt := 12) d_Car_goesAhead_8 rfl ?_
        refine V2_zreturn d_Car_goesAhead_12 rfl (by decide) ?_
        refine V2.to (st' := [.int (1 : Int32), .int v1]) ?_ rfl rfl rfl rfl
        refine V2_if_eq (tgt := 16) d_Push_asRhythm_9 rfl (fun c => absurd c (by decide)) (fun _ => ?_)
        refine V2_iconst (v := 2) d_Push_asRhythm_12 rfl ?_
        refine V2_goto (tgt := 17) d_Push_asRhythm_13 rfl ?_
        refine V2_iadd d_Push_asRhythm_17 ?_
        refine V2_topi (fun v13 ev13 => ?_)
        refine V2_ireturn d_Push_asRhythm_18 rfl ?_
        refine V2.to (st' := [.int v13]) ?_ rfl rfl rfl rfl
        refine V2_ireturn d_Push_pushOf_53 rfl ?_
        exact xQi hQ (by subst ev13 ev10 ev4 ev2 ev1; first | (simp_all [pushK]; done) | (rw [xmx0]; simp_all [pushK]; done)) rfl
  by_cases c3_2 : v2 = 2
  · refine V2_tableIn (tgt := 54) (off := 43) d_Push_pushOf_11 (by rw [c3_2]; decide) (by rw [c3_2]; decide) (by rw [c3_2]; decide) rfl ?_
    refine V2_iload_n (i := 3) d_Push_pushOf_54 rfl rfl ?_
    refine V2_aload_n (i := 2) d_Push_pushOf_55 rfl rfl ?_
    refine V2_callS [.int v1, .ref 44] d_Push_pushOf_56 rfl rfl lk_Push_58 mo_Push_asLate (Nat.le_of_ble_eq_true rfl) (Nat.le_of_ble_eq_true rfl) ?_
    refine V2.to (l' := [some (.int v1), some (.ref 44)]) ?_ rfl rfl rfl rfl
    refine V2_aload_n (i := 1) d_Push_asLate_0 rfl rfl ?_
    refine V2_get (v := F 44 5) d_Push_asLate_1 fl_Push_71 (by decide) rfl (by decide) rfl rfl ?_
    refine V2_topi (fun v14 ev14 => ?_)
    refine V2_iconst (v := 2) d_Push_asLate_4 rfl ?_
    refine V2_iremM d_Push_asLate_5 (by decide) ?_
    refine V2_topi (fun v15 ev15 => ?_)
    refine V2_if_ne (tgt := 17) d_Push_asLate_6 rfl (fun c16 => ?_) (fun c16 => ?_)
    · refine V2_iconst (v := 0) d_Push_asLate_17 rfl ?_
      refine V2_ireturn d_Push_asLate_18 rfl ?_
      refine V2.to (st' := [.int (0 : Int32)]) ?_ rfl rfl rfl rfl
      refine V2_ireturn d_Push_pushOf_59 rfl ?_
      exact xQi hQ (by subst ev15 ev14 ev2 ev1; first | (simp_all [pushK]; done) | (rw [xmx0]; simp_all [pushK]; done)) rfl
    · refine V2_iload_n (i := 0) d_Push_asLate_9 rfl rfl ?_
      refine V2_aload_n (i := 1) d_Push_asLate_10 rfl rfl ?_
      refine V2_callS [.int v1, .ref 44] d_Push_asLate_11 rfl rfl lk_Push_80 mo_Push_asPusher (Nat.le_of_ble_eq_true rfl) (Nat.le_of_ble_eq_true rfl) ?_
      refine V2.to (l' := [some (.int v1), some (.ref 44)]) ?_ rfl rfl rfl rfl
      refine V2_aload_n (i := 1) d_Push_asPusher_0 rfl rfl ?_
      refine V2_callV [] d_Push_asPusher_1 rfl rfl lk_Push_61 mo_Car_goesAhead (by decide) rfl rfl rfl (Nat.le_of_ble_eq_true rfl) (Nat.le_of_ble_eq_true rfl) ?_
      refine V2.to (l' := [some (.ref 44)]) ?_ rfl rfl rfl rfl
      refine V2_aload_n (i := 0) d_Car_goesAhead_0 rfl rfl ?_
      refine V2_get (v := F 44 3) d_Car_goesAhead_1 fl_Car_19 (by decide) rfl (by decide) rfl rfl ?_
      refine V2_topi (fun v17 ev17 => ?_)
      refine V2_if_ne (tgt := 11) d_Car_goesAhead_4 rfl (fun c18 => ?_) (fun c18 => ?_)
      · refine V2_iconst (v := 0) d_Car_goesAhead_11 rfl ?_
        refine V2_zreturn d_Car_goesAhead_12 rfl (by decide) ?_
        refine V2.to (st' := [.int (0 : Int32)]) ?_ rfl rfl rfl rfl
        refine V2_if_eq (tgt := 11) d_Push_asPusher_4 rfl (fun _ => ?_) (fun c => absurd (by decide) c)
        refine V2_iconst (v := 0) d_Push_asPusher_11 rfl ?_
        refine V2_ireturn d_Push_asPusher_12 rfl ?_
        refine V2.to (st' := [.int (0 : Int32)]) ?_ rfl rfl rfl rfl
        refine V2_goto (tgt := 18) d_Push_asLate_14 rfl ?_
        refine V2_ireturn d_Push_asLate_18 rfl ?_
        refine V2.to (st' := [.int (0 : Int32)]) ?_ rfl rfl rfl rfl
        refine V2_ireturn d_Push_pushOf_59 rfl ?_
        exact xQi hQ (by subst ev17 ev15 ev14 ev2 ev1; first | (simp_all [pushK]; done) | (rw [xmx0]; simp_all [pushK]; done)) rfl
      · refine V2_iconst (v := 1) d_Car_goesAhead_7 rfl ?_
        refine V2_goto (tgt := 12) d_Car_goesAhead_8 rfl ?_
        refine V2_zreturn d_Car_goesAhead_12 rfl (by decide) ?_
        refine V2.to (st' := [.int (1 : Int32)]) ?_ rfl rfl rfl rfl
        refine V2_if_eq (tgt := 11) d_Push_asPusher_4 rfl (fun c => absurd c (by decide)) (fun _ => ?_)
        refine V2_iload_n (i := 0) d_Push_asPusher_7 rfl rfl ?_
        refine V2_goto (tgt := 12) d_Push_asPusher_8 rfl ?_
        refine V2_ireturn d_Push_asPusher_12 rfl ?_
        refine V2.to (st' := [.int v1]) ?_ rfl rfl rfl rfl
        refine V2_goto (tgt := 18) d_Push_asLate_14 rfl ?_
        refine V2_ireturn d_Push_asLate_18 rfl ?_
        refine V2.to (st' := [.int v1]) ?_ rfl rfl rfl rfl
        refine V2_ireturn d_Push_pushOf_59 rfl ?_
        exact xQi hQ (by subst ev17 ev15 ev14 ev2 ev1; first | (simp_all [pushK]; done) | (rw [xmx0]; simp_all [pushK]; done)) rfl
  by_cases c3_3 : v2 = 3
  · refine V2_tableIn (tgt := 60) (off := 49) d_Push_pushOf_11 (by rw [c3_3]; decide) (by rw [c3_3]; decide) (by rw [c3_3]; decide) rfl ?_
    refine V2_aload_n (i := 2) d_Push_pushOf_60 rfl rfl ?_
    refine V2_callV [] d_Push_pushOf_61 rfl rfl lk_Push_61 mo_Car_goesAhead (by decide) rfl rfl rfl (Nat.le_of_ble_eq_true rfl) (Nat.le_of_ble_eq_true rfl) ?_
    refine V2.to (l' := [some (.ref 44)]) ?_ rfl rfl rfl rfl
    refine V2_aload_n (i := 0) d_Car_goesAhead_0 rfl rfl ?_
    refine V2_get (v := F 44 3) d_Car_goesAhead_1 fl_Car_19 (by decide) rfl (by decide) rfl rfl ?_
    refine V2_topi (fun v19 ev19 => ?_)
    refine V2_if_ne (tgt := 11) d_Car_goesAhead_4 rfl (fun c20 => ?_) (fun c20 => ?_)
    · refine V2_iconst (v := 0) d_Car_goesAhead_11 rfl ?_
      refine V2_zreturn d_Car_goesAhead_12 rfl (by decide) ?_
      refine V2.to (st' := [.int (0 : Int32)]) ?_ rfl rfl rfl rfl
      refine V2_if_eq (tgt := 71) d_Push_pushOf_64 rfl (fun _ => ?_) (fun c => absurd (by decide) c)
      refine V2_iload_n (i := 3) d_Push_pushOf_71 rfl rfl ?_
      refine V2_ireturn d_Push_pushOf_72 rfl ?_
      exact xQi hQ (by subst ev19 ev2 ev1; first | (simp_all [pushK]; done) | (rw [xmx0]; simp_all [pushK]; done)) rfl
    · refine V2_iconst (v := 1) d_Car_goesAhead_7 rfl ?_
      refine V2_goto (tgt := 12) d_Car_goesAhead_8 rfl ?_
      refine V2_zreturn d_Car_goesAhead_12 rfl (by decide) ?_
      refine V2.to (st' := [.int (1 : Int32)]) ?_ rfl rfl rfl rfl
      refine V2_if_eq (tgt := 71) d_Push_pushOf_64 rfl (fun c => absurd c (by decide)) (fun _ => ?_)
      refine V2_iconst (v := 0) d_Push_pushOf_67 rfl ?_
      refine V2_goto (tgt := 72) d_Push_pushOf_68 rfl ?_
      refine V2_ireturn d_Push_pushOf_72 rfl ?_
      exact xQi hQ (by subst ev19 ev2 ev1; first | (simp_all [pushK]; done) | (rw [xmx0]; simp_all [pushK]; done)) rfl
  by_cases c3_4 : v2 = 4
  · refine V2_tableIn (tgt := 73) (off := 62) d_Push_pushOf_11 (by rw [c3_4]; decide) (by rw [c3_4]; decide) (by rw [c3_4]; decide) rfl ?_
    refine V2_iload_n (i := 3) d_Push_pushOf_73 rfl rfl ?_
    refine V2_aload_n (i := 2) d_Push_pushOf_74 rfl rfl ?_
    refine V2_callS [.int v1, .ref 44] d_Push_pushOf_75 rfl rfl lk_Push_54 mo_Push_asRhythm (Nat.le_of_ble_eq_true rfl) (Nat.le_of_ble_eq_true rfl) ?_
    refine V2.to (l' := [some (.int v1), some (.ref 44)]) ?_ rfl rfl rfl rfl
    refine V2_iload_n (i := 0) d_Push_asRhythm_0 rfl rfl ?_
    refine V2_aload_n (i := 1) d_Push_asRhythm_1 rfl rfl ?_
    refine V2_callS [.int v1, .ref 44] d_Push_asRhythm_2 rfl rfl lk_Push_80 mo_Push_asPusher (Nat.le_of_ble_eq_true rfl) (Nat.le_of_ble_eq_true rfl) ?_
    refine V2.to (l' := [some (.int v1), some (.ref 44)]) ?_ rfl rfl rfl rfl
    refine V2_aload_n (i := 1) d_Push_asPusher_0 rfl rfl ?_
    refine V2_callV [] d_Push_asPusher_1 rfl rfl lk_Push_61 mo_Car_goesAhead (by decide) rfl rfl rfl (Nat.le_of_ble_eq_true rfl) (Nat.le_of_ble_eq_true rfl) ?_
    refine V2.to (l' := [some (.ref 44)]) ?_ rfl rfl rfl rfl
    refine V2_aload_n (i := 0) d_Car_goesAhead_0 rfl rfl ?_
    refine V2_get (v := F 44 3) d_Car_goesAhead_1 fl_Car_19 (by decide) rfl (by decide) rfl rfl ?_
    refine V2_topi (fun v21 ev21 => ?_)
    refine V2_if_ne (tgt := 11) d_Car_goesAhead_4 rfl (fun c22 => ?_) (fun c22 => ?_)
    · refine V2_iconst (v := 0) d_Car_goesAhead_11 rfl ?_
      refine V2_zreturn d_Car_goesAhead_12 rfl (by decide) ?_
      refine V2.to (st' := [.int (0 : Int32)]) ?_ rfl rfl rfl rfl
      refine V2_if_eq (tgt := 11) d_Push_asPusher_4 rfl (fun _ => ?_) (fun c => absurd (by decide) c)
      refine V2_iconst (v := 0) d_Push_asPusher_11 rfl ?_
      refine V2_ireturn d_Push_asPusher_12 rfl ?_
      refine V2.to (st' := [.int (0 : Int32)]) ?_ rfl rfl rfl rfl
      refine V2_aload_n (i := 1) d_Push_asRhythm_5 rfl rfl ?_
      refine V2_callV [] d_Push_asRhythm_6 rfl rfl lk_Push_61 mo_Car_goesAhead (by decide) rfl rfl rfl (Nat.le_of_ble_eq_true rfl) (Nat.le_of_ble_eq_true rfl) ?_
      refine V2.to (l' := [some (.ref 44)]) ?_ rfl rfl rfl rfl
      refine V2_aload_n (i := 0) d_Car_goesAhead_0 rfl rfl ?_
      refine V2_get (v := F 44 3) d_Car_goesAhead_1 fl_Car_19 (by decide) rfl (by decide) rfl rfl ?_
      refine V2_topi (fun v23 ev23 => ?_)
      refine V2_if_ne (tgt := 11) d_Car_goesAhead_4 rfl (fun c24 => ?_) (fun c24 => ?_)
      · refine V2_iconst (v := 0) d_Car_goesAhead_11 rfl ?_
        refine V2_zreturn d_Car_goesAhead_12 rfl (by decide) ?_
        refine V2.to (st' := [.int (0 : Int32), .int (0 : Int32)]) ?_ rfl rfl rfl rfl
        refine V2_if_eq (tgt := 16) d_Push_asRhythm_9 rfl (fun _ => ?_) (fun c => absurd (by decide) c)
        refine V2_iconst (v := 0) d_Push_asRhythm_16 rfl ?_
        refine V2_iadd d_Push_asRhythm_17 ?_
        refine V2_topi (fun v25 ev25 => ?_)
        refine V2_ireturn d_Push_asRhythm_18 rfl ?_
        refine V2.to (st' := [.int v25]) ?_ rfl rfl rfl rfl
        refine V2_aload_n (i := 2) d_Push_pushOf_78 rfl rfl ?_
        refine V2_get (v := F 44 2) d_Push_pushOf_79 fl_Push_67 (by decide) rfl (by decide) rfl rfl ?_
        refine V2_topi (fun v26 ev26 => ?_)
        refine V2_bipush (v := 8) d_Push_pushOf_82 rfl ?_
        refine V2_idiv d_Push_pushOf_84 (by decide) ?_
        refine V2_topi (fun v27 ev27 => ?_)
        refine V2_iadd d_Push_pushOf_85 ?_
        refine V2_topi (fun v28 ev28 => ?_)
        refine V2_ireturn d_Push_pushOf_86 rfl ?_
        exact xQi hQ (by subst ev28 ev27 ev26 ev25 ev23 ev21 ev2 ev1; first | (simp_all [pushK]; done) | (rw [xmx0]; simp_all [pushK]; done)) rfl
      · refine V2_iconst (v := 1) d_Car_goesAhead_7 rfl ?_
        refine V2_goto (tgt := 12) d_Car_goesAhead_8 rfl ?_
        refine V2_zreturn d_Car_goesAhead_12 rfl (by decide) ?_
        refine V2.to (st' := [.int (1 : Int32), .int (0 : Int32)]) ?_ rfl rfl rfl rfl
        refine V2_if_eq (tgt := 16) d_Push_asRhythm_9 rfl (fun c => absurd c (by decide)) (fun _ => ?_)
        refine V2_iconst (v := 2) d_Push_asRhythm_12 rfl ?_
        refine V2_goto (tgt := 17) d_Push_asRhythm_13 rfl ?_
        refine V2_iadd d_Push_asRhythm_17 ?_
        refine V2_topi (fun v29 ev29 => ?_)
        refine V2_ireturn d_Push_asRhythm_18 rfl ?_
        refine V2.to (st' := [.int v29]) ?_ rfl rfl rfl rfl
        refine V2_aload_n (i := 2) d_Push_pushOf_78 rfl rfl ?_
        refine V2_get (v := F 44 2) d_Push_pushOf_79 fl_Push_67 (by decide) rfl (by decide) rfl rfl ?_
        refine V2_topi (fun v30 ev30 => ?_)
        refine V2_bipush (v := 8) d_Push_pushOf_82 rfl ?_
        refine V2_idiv d_Push_pushOf_84 (by decide) ?_
        refine V2_topi (fun v31 ev31 => ?_)
        refine V2_iadd d_Push_pushOf_85 ?_
        refine V2_topi (fun v32 ev32 => ?_)
        refine V2_ireturn d_Push_pushOf_86 rfl ?_
        exact xQi hQ (by subst ev32 ev31 ev30 ev29 ev23 ev21 ev2 ev1; first | (simp_all [pushK]; done) | (rw [xmx0]; simp_all [pushK]; done)) rfl
    · refine V2_iconst (v := 1) d_Car_goesAhead_7 rfl ?_
      refine V2_goto (tgt := 12) d_Car_goesAhead_8 rfl ?_
      refine V2_zreturn d_Car_goesAhead_12 rfl (by decide) ?_
      refine V2.to (st' := [.int (1 : Int32)]) ?_ rfl rfl rfl rfl
      refine V2_if_eq (tgt := 11) d_Push_asPusher_4 rfl (fun c => absurd c (by decide)) (fun _ => ?_)
      refine V2_iload_n (i := 0) d_Push_asPusher_7 rfl rfl ?_
      refine V2_goto (tgt := 12) d_Push_asPusher_8 rfl ?_
      refine V2_ireturn d_Push_asPusher_12 rfl ?_
      refine V2.to (st' := [.int v1]) ?_ rfl rfl rfl rfl
      refine V2_aload_n (i := 1) d_Push_asRhythm_5 rfl rfl ?_
      refine V2_callV [] d_Push_asRhythm_6 rfl rfl lk_Push_61 mo_Car_goesAhead (by decide) rfl rfl rfl (Nat.le_of_ble_eq_true rfl) (Nat.le_of_ble_eq_true rfl) ?_
      refine V2.to (l' := [some (.ref 44)]) ?_ rfl rfl rfl rfl
      refine V2_aload_n (i := 0) d_Car_goesAhead_0 rfl rfl ?_
      refine V2_get (v := F 44 3) d_Car_goesAhead_1 fl_Car_19 (by decide) rfl (by decide) rfl rfl ?_
      refine V2_topi (fun v33 ev33 => ?_)
      refine V2_if_ne (tgt := 11) d_Car_goesAhead_4 rfl (fun c34 => ?_) (fun c34 => ?_)
      · refine V2_iconst (v := 0) d_Car_goesAhead_11 rfl ?_
        refine V2_zreturn d_Car_goesAhead_12 rfl (by decide) ?_
        refine V2.to (st' := [.int (0 : Int32), .int v1]) ?_ rfl rfl rfl rfl
        refine V2_if_eq (tgt := 16) d_Push_asRhythm_9 rfl (fun _ => ?_) (fun c => absurd (by decide) c)
        refine V2_iconst (v := 0) d_Push_asRhythm_16 rfl ?_
        refine V2_iadd d_Push_asRhythm_17 ?_
        refine V2_topi (fun v35 ev35 => ?_)
        refine V2_ireturn d_Push_asRhythm_18 rfl ?_
        refine V2.to (st' := [.int v35]) ?_ rfl rfl rfl rfl
        refine V2_aload_n (i := 2) d_Push_pushOf_78 rfl rfl ?_
        refine V2_get (v := F 44 2) d_Push_pushOf_79 fl_Push_67 (by decide) rfl (by decide) rfl rfl ?_
        refine V2_topi (fun v36 ev36 => ?_)
        refine V2_bipush (v := 8) d_Push_pushOf_82 rfl ?_
        refine V2_idiv d_Push_pushOf_84 (by decide) ?_
        refine V2_topi (fun v37 ev37 => ?_)
        refine V2_iadd d_Push_pushOf_85 ?_
        refine V2_topi (fun v38 ev38 => ?_)
        refine V2_ireturn d_Push_pushOf_86 rfl ?_
        exact xQi hQ (by subst ev38 ev37 ev36 ev35 ev33 ev21 ev2 ev1; first | (simp_all [pushK]; done) | (rw [xmx0]; simp_all [pushK]; done)) rfl
      · refine V2_iconst (v := 1) d_Car_goesAhead_7 rfl ?_
        refine V2_goto (tgt := 12) d_Car_goesAhead_8 rfl ?_
        refine V2_zreturn d_Car_goesAhead_12 rfl (by decide) ?_
        refine V2.to (st' := [.int (1 : Int32), .int v1]) ?_ rfl rfl rfl rfl
        refine V2_if_eq (tgt := 16) d_Push_asRhythm_9 rfl (fun c => absurd c (by decide)) (fun _ => ?_)
        refine V2_iconst (v := 2) d_Push_asRhythm_12 rfl ?_
        refine V2_goto (tgt := 17) d_Push_asRhythm_13 rfl ?_
        refine V2_iadd d_Push_asRhythm_17 ?_
        refine V2_topi (fun v39 ev39 => ?_)
        refine V2_ireturn d_Push_asRhythm_18 rfl ?_
        refine V2.to (st' := [.int v39]) ?_ rfl rfl rfl rfl
        refine V2_aload_n (i := 2) d_Push_pushOf_78 rfl rfl ?_
        refine V2_get (v := F 44 2) d_Push_pushOf_79 fl_Push_67 (by decide) rfl (by decide) rfl rfl ?_
        refine V2_topi (fun v40 ev40 => ?_)
        refine V2_bipush (v := 8) d_Push_pushOf_82 rfl ?_
        refine V2_idiv d_Push_pushOf_84 (by decide) ?_
        refine V2_topi (fun v41 ev41 => ?_)
        refine V2_iadd d_Push_pushOf_85 ?_
        refine V2_topi (fun v42 ev42 => ?_)
        refine V2_ireturn d_Push_pushOf_86 rfl ?_
        exact xQi hQ (by subst ev42 ev41 ev40 ev39 ev33 ev21 ev2 ev1; first | (simp_all [pushK]; done) | (rw [xmx0]; simp_all [pushK]; done)) rfl
  by_cases c3_5 : v2 = 5
  · refine V2_tableIn (tgt := 87) (off := 76) d_Push_pushOf_11 (by rw [c3_5]; decide) (by rw [c3_5]; decide) (by rw [c3_5]; decide) rfl ?_
    refine V2_iconst (v := 0) d_Push_pushOf_87 rfl ?_
    refine V2_iload_n (i := 3) d_Push_pushOf_88 rfl rfl ?_
    refine V2_aload_n (i := 2) d_Push_pushOf_89 rfl rfl ?_
    refine V2_callS [.int v1, .ref 44] d_Push_pushOf_90 rfl rfl lk_Push_58 mo_Push_asLate (Nat.le_of_ble_eq_true rfl) (Nat.le_of_ble_eq_true rfl) ?_
    refine V2.to (l' := [some (.int v1), some (.ref 44)]) ?_ rfl rfl rfl rfl
    refine V2_aload_n (i := 1) d_Push_asLate_0 rfl rfl ?_
    refine V2_get (v := F 44 5) d_Push_asLate_1 fl_Push_71 (by decide) rfl (by decide) rfl rfl ?_
    refine V2_topi (fun v43 ev43 => ?_)
    refine V2_iconst (v := 2) d_Push_asLate_4 rfl ?_
    refine V2_iremM d_Push_asLate_5 (by decide) ?_
    refine V2_topi (fun v44 ev44 => ?_)
    refine V2_if_ne (tgt := 17) d_Push_asLate_6 rfl (fun c45 => ?_) (fun c45 => ?_)
    · refine V2_iconst (v := 0) d_Push_asLate_17 rfl ?_
      refine V2_ireturn d_Push_asLate_18 rfl ?_
      refine V2.to (st' := [.int (0 : Int32), .int (0 : Int32)]) ?_ rfl rfl rfl rfl
      refine V2_aload_n (i := 2) d_Push_pushOf_93 rfl rfl ?_
      refine V2_get (v := F 44 5) d_Push_pushOf_94 fl_Push_71 (by decide) rfl (by decide) rfl rfl ?_
      refine V2_topi (fun v46 ev46 => ?_)
      refine V2_bipush (v := 8) d_Push_pushOf_97 rfl ?_
      refine V2_idiv d_Push_pushOf_99 (by decide) ?_
      refine V2_topi (fun v47 ev47 => ?_)
      refine V2_isub d_Push_pushOf_100 ?_
      refine V2_topi (fun v48 ev48 => ?_)
      refine V2_mmax d_Push_pushOf_101 lz_Push_74 (Nat.le_of_ble_eq_true rfl) ?_
      refine V2_topi (fun v49 ev49 => ?_)
      refine V2_ireturn d_Push_pushOf_104 rfl ?_
      exact xQi hQ (by subst ev49 ev48 ev47 ev46 ev44 ev43 ev2 ev1; first | (simp_all [pushK]; done) | (rw [xmx0]; simp_all [pushK]; done)) rfl
    · refine V2_iload_n (i := 0) d_Push_asLate_9 rfl rfl ?_
      refine V2_aload_n (i := 1) d_Push_asLate_10 rfl rfl ?_
      refine V2_callS [.int v1, .ref 44] d_Push_asLate_11 rfl rfl lk_Push_80 mo_Push_asPusher (Nat.le_of_ble_eq_true rfl) (Nat.le_of_ble_eq_true rfl) ?_
      refine V2.to (l' := [some (.int v1), some (.ref 44)]) ?_ rfl rfl rfl rfl
      refine V2_aload_n (i := 1) d_Push_asPusher_0 rfl rfl ?_
      refine V2_callV [] d_Push_asPusher_1 rfl rfl lk_Push_61 mo_Car_goesAhead (by decide) rfl rfl rfl (Nat.le_of_ble_eq_true rfl) (Nat.le_of_ble_eq_true rfl) ?_
      refine V2.to (l' := [some (.ref 44)]) ?_ rfl rfl rfl rfl
      refine V2_aload_n (i := 0) d_Car_goesAhead_0 rfl rfl ?_
      refine V2_get (v := F 44 3) d_Car_goesAhead_1 fl_Car_19 (by decide) rfl (by decide) rfl rfl ?_
      refine V2_topi (fun v50 ev50 => ?_)
      refine V2_if_ne (tgt := 11) d_Car_goesAhead_4 rfl (fun c51 => ?_) (fun c51 => ?_)
      · refine V2_iconst (v := 0) d_Car_goesAhead_11 rfl ?_
        refine V2_zreturn d_Car_goesAhead_12 rfl (by decide) ?_
        refine V2.to (st' := [.int (0 : Int32)]) ?_ rfl rfl rfl rfl
        refine V2_if_eq (tgt := 11) d_Push_asPusher_4 rfl (fun _ => ?_) (fun c => absurd (by decide) c)
        refine V2_iconst (v := 0) d_Push_asPusher_11 rfl ?_
        refine V2_ireturn d_Push_asPusher_12 rfl ?_
        refine V2.to (st' := [.int (0 : Int32)]) ?_ rfl rfl rfl rfl
        refine V2_goto (tgt := 18) d_Push_asLate_14 rfl ?_
        refine V2_ireturn d_Push_asLate_18 rfl ?_
        refine V2.to (st' := [.int (0 : Int32), .int (0 : Int32)]) ?_ rfl rfl rfl rfl
        refine V2_aload_n (i := 2) d_Push_pushOf_93 rfl rfl ?_
        refine V2_get (v := F 44 5) d_Push_pushOf_94 fl_Push_71 (by decide) rfl (by decide) rfl rfl ?_
        refine V2_topi (fun v52 ev52 => ?_)
        refine V2_bipush (v := 8) d_Push_pushOf_97 rfl ?_
        refine V2_idiv d_Push_pushOf_99 (by decide) ?_
        refine V2_topi (fun v53 ev53 => ?_)
        refine V2_isub d_Push_pushOf_100 ?_
        refine V2_topi (fun v54 ev54 => ?_)
        refine V2_mmax d_Push_pushOf_101 lz_Push_74 (Nat.le_of_ble_eq_true rfl) ?_
        refine V2_topi (fun v55 ev55 => ?_)
        refine V2_ireturn d_Push_pushOf_104 rfl ?_
        exact xQi hQ (by subst ev55 ev54 ev53 ev52 ev50 ev44 ev43 ev2 ev1; first | (simp_all [pushK]; done) | (rw [xmx0]; simp_all [pushK]; done)) rfl
      · refine V2_iconst (v := 1) d_Car_goesAhead_7 rfl ?_
        refine V2_goto (tgt := 12) d_Car_goesAhead_8 rfl ?_
        refine V2_zreturn d_Car_goesAhead_12 rfl (by decide) ?_
        refine V2.to (st' := [.int (1 : Int32)]) ?_ rfl rfl rfl rfl
        refine V2_if_eq (tgt := 11) d_Push_asPusher_4 rfl (fun c => absurd c (by decide)) (fun _ => ?_)
        refine V2_iload_n (i := 0) d_Push_asPusher_7 rfl rfl ?_
        refine V2_goto (tgt := 12) d_Push_asPusher_8 rfl ?_
        refine V2_ireturn d_Push_asPusher_12 rfl ?_
        refine V2.to (st' := [.int v1]) ?_ rfl rfl rfl rfl
        refine V2_goto (tgt := 18) d_Push_asLate_14 rfl ?_
        refine V2_ireturn d_Push_asLate_18 rfl ?_
        refine V2.to (st' := [.int v1, .int (0 : Int32)]) ?_ rfl rfl rfl rfl
        refine V2_aload_n (i := 2) d_Push_pushOf_93 rfl rfl ?_
        refine V2_get (v := F 44 5) d_Push_pushOf_94 fl_Push_71 (by decide) rfl (by decide) rfl rfl ?_
        refine V2_topi (fun v56 ev56 => ?_)
        refine V2_bipush (v := 8) d_Push_pushOf_97 rfl ?_
        refine V2_idiv d_Push_pushOf_99 (by decide) ?_
        refine V2_topi (fun v57 ev57 => ?_)
        refine V2_isub d_Push_pushOf_100 ?_
        refine V2_topi (fun v58 ev58 => ?_)
        refine V2_mmax d_Push_pushOf_101 lz_Push_74 (Nat.le_of_ble_eq_true rfl) ?_
        refine V2_topi (fun v59 ev59 => ?_)
        refine V2_ireturn d_Push_pushOf_104 rfl ?_
        exact xQi hQ (by subst ev59 ev58 ev57 ev56 ev50 ev44 ev43 ev2 ev1; first | (simp_all [pushK]; done) | (rw [xmx0]; simp_all [pushK]; done)) rfl
  by_cases c3_6 : v2 = 6
  · refine V2_tableIn (tgt := 105) (off := 94) d_Push_pushOf_11 (by rw [c3_6]; decide) (by rw [c3_6]; decide) (by rw [c3_6]; decide) rfl ?_
    refine V2_iconst (v := 0) d_Push_pushOf_105 rfl ?_
    refine V2_ireturn d_Push_pushOf_106 rfl ?_
    exact xQi hQ (by subst ev2 ev1; first | (simp_all [pushK]; done) | (rw [xmx0]; simp_all [pushK]; done)) rfl
  refine V2_tableOut (tgt := 107) d_Push_pushOf_11 (by have := lv_neT (a := 1) c3_1 rfl; have := lv_neT (a := 2) c3_2 rfl; have := lv_neT (a := 3) c3_3 rfl; have := lv_neT (a := 4) c3_4 rfl; have := lv_neT (a := 5) c3_5 rfl; have := lv_neT (a := 6) c3_6 rfl; omega) rfl ?_
  refine V2_iload_n (i := 3) d_Push_pushOf_107 rfl rfl ?_
  refine V2_aload_n (i := 2) d_Push_pushOf_108 rfl rfl ?_
  refine V2_callS [.int v1, .ref 44] d_Push_pushOf_109 rfl rfl lk_Push_80 mo_Push_asPusher (Nat.le_of_ble_eq_true rfl) (Nat.le_of_ble_eq_true rfl) ?_
  refine V2.to (l' := [some (.int v1), some (.ref 44)]) ?_ rfl rfl rfl rfl
  refine V2_aload_n (i := 1) d_Push_asPusher_0 rfl rfl ?_
  refine V2_callV [] d_Push_asPusher_1 rfl rfl lk_Push_61 mo_Car_goesAhead (by decide) rfl rfl rfl (Nat.le_of_ble_eq_true rfl) (Nat.le_of_ble_eq_true rfl) ?_
  refine V2.to (l' := [some (.ref 44)]) ?_ rfl rfl rfl rfl
  refine V2_aload_n (i := 0) d_Car_goesAhead_0 rfl rfl ?_
  refine V2_get (v := F 44 3) d_Car_goesAhead_1 fl_Car_19 (by decide) rfl (by decide) rfl rfl ?_
  refine V2_topi (fun v60 ev60 => ?_)
  refine V2_if_ne (tgt := 11) d_Car_goesAhead_4 rfl (fun c61 => ?_) (fun c61 => ?_)
  · refine V2_iconst (v := 0) d_Car_goesAhead_11 rfl ?_
    refine V2_zreturn d_Car_goesAhead_12 rfl (by decide) ?_
    refine V2.to (st' := [.int (0 : Int32)]) ?_ rfl rfl rfl rfl
    refine V2_if_eq (tgt := 11) d_Push_asPusher_4 rfl (fun _ => ?_) (fun c => absurd (by decide) c)
    refine V2_iconst (v := 0) d_Push_asPusher_11 rfl ?_
    refine V2_ireturn d_Push_asPusher_12 rfl ?_
    refine V2.to (st' := [.int (0 : Int32)]) ?_ rfl rfl rfl rfl
    refine V2_ireturn d_Push_pushOf_112 rfl ?_
    exact xQi hQ (by subst ev60 ev2 ev1; first | (simp_all [pushK]; done) | (rw [xmx0]; simp_all [pushK]; done)) rfl
  · refine V2_iconst (v := 1) d_Car_goesAhead_7 rfl ?_
    refine V2_goto (tgt := 12) d_Car_goesAhead_8 rfl ?_
    refine V2_zreturn d_Car_goesAhead_12 rfl (by decide) ?_
    refine V2.to (st' := [.int (1 : Int32)]) ?_ rfl rfl rfl rfl
    refine V2_if_eq (tgt := 11) d_Push_asPusher_4 rfl (fun c => absurd c (by decide)) (fun _ => ?_)
    refine V2_iload_n (i := 0) d_Push_asPusher_7 rfl rfl ?_
    refine V2_goto (tgt := 12) d_Push_asPusher_8 rfl ?_
    refine V2_ireturn d_Push_asPusher_12 rfl ?_
    refine V2.to (st' := [.int v1]) ?_ rfl rfl rfl rfl
    refine V2_ireturn d_Push_pushOf_112 rfl ?_
    exact xQi hQ (by subst ev60 ev2 ev1; first | (simp_all [pushK]; done) | (rw [xmx0]; simp_all [pushK]; done)) rfl
theorem c_Push_pushOfSet_44_loop {L : Nat} {xs : Nat → Int32} {d : Nat} {Q : Option Value → xF → Prop} {F : xF} {P : Nat} {set : Int32} (hP : F 4 1 = nI P) (hP2 : F 6 1 = nI P) (hl : P ≤ 6) : ∀ (n : Nat) (p : Nat) (v : Int32), p ≤ P → P < n + p → v = sumTo (fun p => @ite _ (inSet set p) (Classical.propDecidable _) (pushK (F 5 p) (F 7 p) (F 44 3) (F 44 2) (F 44 5)) 0) p → (Q (some (.int (sumTo (fun p => @ite _ (inSet set p) (Classical.propDecidable _) (pushK (F 5 p) (F 7 p) (F 44 3) (F 44 2) (F 44 5)) 0) P))) F) → V2 L xs (d + 4) m_Push_pushOfSet 5 [some (.ref 3), some (.int set), some (.ref 44), some (.int v), some (.int (nI p))] [] F Q := by
  intro n
  induction n with
  | zero => exact fun p v h1 h2 => absurd h2 (by omega)
  | succ n ih =>
    intro p v h1 h2 h3 hQ
    refine V2_iload (i := 4) d_Push_pushOfSet_5 rfl ?_
    refine V2_aload_n (i := 0) d_Push_pushOfSet_7 rfl rfl ?_
    refine V2_callV [] d_Push_pushOfSet_8 rfl rfl lk_Push_83 mo_Push_size (by decide) rfl rfl rfl (Nat.le_of_ble_eq_true rfl) (Nat.le_of_ble_eq_true rfl) ?_
    refine c_Push_size hP ?_
    refine V2_icmp_ge (tgt := 43) d_Push_pushOfSet_11 rfl (fun c1 => ?_) (fun c1 => ?_)
    · refine V2_iload_n (i := 3) d_Push_pushOfSet_43 rfl rfl ?_
      refine V2_ireturn d_Push_pushOfSet_44 rfl ?_
      have hpp : p = P := by
        skip
        exact Nat.le_antisymm h1 ((nI_leI (by omega) (by omega)).mp c1)
      subst hpp
      exact xQi hQ h3 rfl
    · have hp : p < P := Nat.not_le.mp (fun hh => c1 ((nI_leI (by omega) (by omega)).mpr hh))
      refine V2_iload_n (i := 3) d_Push_pushOfSet_14 rfl rfl ?_
      refine V2_iload_n (i := 1) d_Push_pushOfSet_15 rfl rfl ?_
      refine V2_iload (i := 4) d_Push_pushOfSet_16 rfl ?_
      refine V2_callS [.int set, .int (nI p)] d_Push_pushOfSet_18 rfl rfl lk_Push_84 mo_Push_isIn (Nat.le_of_ble_eq_true rfl) (Nat.le_of_ble_eq_true rfl) ?_
      refine c_Push_isIn ?_
      refine V2_topi (fun v2 ev2 => ?_)
      refine V2_if_eq (tgt := 34) d_Push_pushOfSet_21 rfl (fun c3 => ?_) (fun c3 => ?_)
      · refine V2_iconst (v := 0) d_Push_pushOfSet_34 rfl ?_
        refine V2_iadd d_Push_pushOfSet_35 ?_
        refine V2_topi (fun v4 ev4 => ?_)
        refine V2_istore_n (i := 3) (l' := [some (.ref 3), some (.int set), some (.ref 44), some (.int v4), some (.int (nI p))]) d_Push_pushOfSet_36 rfl (xst_r (Nat.le_of_ble_eq_true rfl) rfl rfl) ?_
        obtain ⟨v5, ev5⟩ : ∃ y : Int32, y = nI p + 1 := ⟨_, rfl⟩
        refine V2_iinc (i := 4) (v := v5) (l' := [some (.ref 3), some (.int set), some (.ref 44), some (.int v4), some (.int v5)]) d_Push_pushOfSet_37 rfl (by rw [ev5]; rfl) (xst_i (Nat.le_of_ble_eq_true rfl) rfl rfl) ?_
        refine V2_goto (tgt := 5) d_Push_pushOfSet_40 rfl ?_
        exact V2.to (ih (p + 1) v4 (by omega) (by omega) (by subst ev5 ev4 ev2; rw [h3]; exact (sum_out (f := (fun p => pushK (F 5 p) (F 7 p) (F 44 3) (F 44 2) (F 44 5))) (set := set) (xin_f c3)).symm) hQ) rfl (by rw [ev5, nI_1]) rfl rfl
      · refine V2_aload_n (i := 0) d_Push_pushOfSet_24 rfl rfl ?_
        refine V2_iload (i := 4) d_Push_pushOfSet_25 rfl ?_
        refine V2_aload_n (i := 2) d_Push_pushOfSet_27 rfl rfl ?_
        refine V2_callV [.int (nI p), .ref 44] d_Push_pushOfSet_28 rfl rfl lk_Push_91 mo_Push_pushOf (by decide) rfl rfl rfl (Nat.le_of_ble_eq_true rfl) (Nat.le_of_ble_eq_true rfl) ?_
        refine c_Push_pushOf_44 hP hP2 hl hp ?_
        refine V2_topi (fun v6 ev6 => ?_)
        refine V2_goto (tgt := 35) d_Push_pushOfSet_31 rfl ?_
        refine V2_iadd d_Push_pushOfSet_35 ?_
        refine V2_topi (fun v7 ev7 => ?_)
        refine V2_istore_n (i := 3) (l' := [some (.ref 3), some (.int set), some (.ref 44), some (.int v7), some (.int (nI p))]) d_Push_pushOfSet_36 rfl (xst_r (Nat.le_of_ble_eq_true rfl) rfl rfl) ?_
        obtain ⟨v8, ev8⟩ : ∃ y : Int32, y = nI p + 1 := ⟨_, rfl⟩
        refine V2_iinc (i := 4) (v := v8) (l' := [some (.ref 3), some (.int set), some (.ref 44), some (.int v7), some (.int v8)]) d_Push_pushOfSet_37 rfl (by rw [ev8]; rfl) (xst_i (Nat.le_of_ble_eq_true rfl) rfl rfl) ?_
        refine V2_goto (tgt := 5) d_Push_pushOfSet_40 rfl ?_
        exact V2.to (ih (p + 1) v7 (by omega) (by omega) (by subst ev8 ev7 ev6 ev2; rw [h3]; exact (sum_in (f := (fun p => pushK (F 5 p) (F 7 p) (F 44 3) (F 44 2) (F 44 5))) (set := set) (xin_t c3)).symm) hQ) rfl (by rw [ev8, nI_1]) rfl rfl
theorem c_Push_pushOfSet_44 {L : Nat} {xs : Nat → Int32} {d : Nat} {Q : Option Value → xF → Prop} {F : xF} {P : Nat} {set : Int32} (hP : F 4 1 = nI P) (hP2 : F 6 1 = nI P) (hl : P ≤ 6) (hQ : Q (some (.int (sumTo (fun p => @ite _ (inSet set p) (Classical.propDecidable _) (pushK (F 5 p) (F 7 p) (F 44 3) (F 44 2) (F 44 5)) 0) P))) F) : V2 L xs (d + 4) m_Push_pushOfSet 0 (xEntry [.ref 3, .int set, .ref 44] 5) [] F Q := by
  refine V2.to (l' := [some (.ref 3), some (.int set), some (.ref 44), none, none]) ?_ rfl rfl rfl rfl
  refine V2_iconst (v := 0) d_Push_pushOfSet_0 rfl ?_
  refine V2_istore_n (i := 3) (l' := [some (.ref 3), some (.int set), some (.ref 44), some (.int (0 : Int32)), none]) d_Push_pushOfSet_1 rfl (xst_r (Nat.le_of_ble_eq_true rfl) rfl rfl) ?_
  refine V2_iconst (v := 0) d_Push_pushOfSet_2 rfl ?_
  refine V2_istore (i := 4) (l' := [some (.ref 3), some (.int set), some (.ref 44), some (.int (0 : Int32)), some (.int (0 : Int32))]) d_Push_pushOfSet_3 (xst_i (Nat.le_of_ble_eq_true rfl) rfl rfl) ?_
  exact c_Push_pushOfSet_44_loop hP hP2 hl (P + 1) 0 0 (by omega) (by omega) rfl hQ
theorem c_Push_pushOf_45 {L : Nat} {xs : Nat → Int32} {d : Nat} {Q : Option Value → xF → Prop} {F : xF} {p P : Nat} (hP : F 4 1 = nI P) (hP2 : F 6 1 = nI P) (hl : P ≤ 6) (hp : p < P) (hQ : Q (some (.int (pushK (F 5 p) (F 7 p) (F 45 3) (F 45 2) (F 45 5)))) F) : V2 L xs (d + 3) m_Push_pushOf 0 (xEntry [.ref 3, .int (nI p), .ref 45] 4) [] F Q := by
  refine V2.to (l' := [some (.ref 3), some (.int (nI p)), some (.ref 45), none]) ?_ rfl rfl rfl rfl
  refine V2_aload_n (i := 0) d_Push_pushOf_0 rfl rfl ?_
  refine V2_iload_n (i := 1) d_Push_pushOf_1 rfl rfl ?_
  refine V2_callV [.int (nI p)] d_Push_pushOf_2 rfl rfl lk_Push_51 mo_Push_levelOf (by decide) rfl rfl rfl (Nat.le_of_ble_eq_true rfl) (Nat.le_of_ble_eq_true rfl) ?_
  refine c_Push_levelOf hP hP2 hl hp ?_
  refine V2_topi (fun v1 ev1 => ?_)
  refine V2_istore_n (i := 3) (l' := [some (.ref 3), some (.int (nI p)), some (.ref 45), some (.int v1)]) d_Push_pushOf_5 rfl (xst_r (Nat.le_of_ble_eq_true rfl) rfl rfl) ?_
  refine V2_aload_n (i := 0) d_Push_pushOf_6 rfl rfl ?_
  refine V2_iload_n (i := 1) d_Push_pushOf_7 rfl rfl ?_
  refine V2_callV [.int (nI p)] d_Push_pushOf_8 rfl rfl lk_Push_46 mo_Push_kindOf (by decide) rfl rfl rfl (Nat.le_of_ble_eq_true rfl) (Nat.le_of_ble_eq_true rfl) ?_
  refine c_Push_kindOf hP hP2 hl hp ?_
  refine V2_topi (fun v2 ev2 => ?_)
  by_cases c3_1 : v2 = 1
  · refine V2_tableIn (tgt := 48) (off := 37) d_Push_pushOf_11 (by rw [c3_1]; decide) (by rw [c3_1]; decide) (by rw [c3_1]; decide) rfl ?_
    refine V2_iload_n (i := 3) d_Push_pushOf_48 rfl rfl ?_
    refine V2_aload_n (i := 2) d_Push_pushOf_49 rfl rfl ?_
    refine V2_callS [.int v1, .ref 45] d_Push_pushOf_50 rfl rfl lk_Push_54 mo_Push_asRhythm (Nat.le_of_ble_eq_true rfl) (Nat.le_of_ble_eq_true rfl) ?_
    refine V2.to (l' := [some (.int v1), some (.ref 45)]) ?_ rfl rfl rfl rfl
    refine V2_iload_n (i := 0) d_Push_asRhythm_0 rfl rfl ?_
    refine V2_aload_n (i := 1) d_Push_asRhythm_1 rfl rfl ?_
    refine V2_callS [.int v1, .ref 45] d_Push_asRhythm_2 rfl rfl lk_Push_80 mo_Push_asPusher (Nat.le_of_ble_eq_true rfl) (Nat.le_of_ble_eq_true rfl) ?_
    refine V2.to (l' := [some (.int v1), some (.ref 45)]) ?_ rfl rfl rfl rfl
    refine V2_aload_n (i := 1) d_Push_asPusher_0 rfl rfl ?_
    refine V2_callV [] d_Push_asPusher_1 rfl rfl lk_Push_61 mo_Car_goesAhead (by decide) rfl rfl rfl (Nat.le_of_ble_eq_true rfl) (Nat.le_of_ble_eq_true rfl) ?_
    refine V2.to (l' := [some (.ref 45)]) ?_ rfl rfl rfl rfl
    refine V2_aload_n (i := 0) d_Car_goesAhead_0 rfl rfl ?_
    refine V2_get (v := F 45 3) d_Car_goesAhead_1 fl_Car_19 (by decide) rfl (by decide) rfl rfl ?_
    refine V2_topi (fun v4 ev4 => ?_)
    refine V2_if_ne (tgt := 11) d_Car_goesAhead_4 rfl (fun c5 => ?_) (fun c5 => ?_)
    · refine V2_iconst (v := 0) d_Car_goesAhead_11 rfl ?_
      refine V2_zreturn d_Car_goesAhead_12 rfl (by decide) ?_
      refine V2.to (st' := [.int (0 : Int32)]) ?_ rfl rfl rfl rfl
      refine V2_if_eq (tgt := 11) d_Push_asPusher_4 rfl (fun _ => ?_) (fun c => absurd (by decide) c)
      refine V2_iconst (v := 0) d_Push_asPusher_11 rfl ?_
      refine V2_ireturn d_Push_asPusher_12 rfl ?_
      refine V2.to (st' := [.int (0 : Int32)]) ?_ rfl rfl rfl rfl
      refine V2_aload_n (i := 1) d_Push_asRhythm_5 rfl rfl ?_
      refine V2_callV [] d_Push_asRhythm_6 rfl rfl lk_Push_61 mo_Car_goesAhead (by decide) rfl rfl rfl (Nat.le_of_ble_eq_true rfl) (Nat.le_of_ble_eq_true rfl) ?_
      refine V2.to (l' := [some (.ref 45)]) ?_ rfl rfl rfl rfl
      refine V2_aload_n (i := 0) d_Car_goesAhead_0 rfl rfl ?_
      refine V2_get (v := F 45 3) d_Car_goesAhead_1 fl_Car_19 (by decide) rfl (by decide) rfl rfl ?_
      refine V2_topi (fun v6 ev6 => ?_)
      refine V2_if_ne (tgt := 11) d_Car_goesAhead_4 rfl (fun c7 => ?_) (fun c7 => ?_)
      · refine V2_iconst (v := 0) d_Car_goesAhead_11 rfl ?_
        refine V2_zreturn d_Car_goesAhead_12 rfl (by decide) ?_
        refine V2.to (st' := [.int (0 : Int32), .int (0 : Int32)]) ?_ rfl rfl rfl rfl
        refine V2_if_eq (tgt := 16) d_Push_asRhythm_9 rfl (fun _ => ?_) (fun c => absurd (by decide) c)
        refine V2_iconst (v := 0) d_Push_asRhythm_16 rfl ?_
        refine V2_iadd d_Push_asRhythm_17 ?_
        refine V2_topi (fun v8 ev8 => ?_)
        refine V2_ireturn d_Push_asRhythm_18 rfl ?_
        refine V2.to (st' := [.int v8]) ?_ rfl rfl rfl rfl
        refine V2_ireturn d_Push_pushOf_53 rfl ?_
        exact xQi hQ (by subst ev8 ev6 ev4 ev2 ev1; first | (simp_all [pushK]; done) | (rw [xmx0]; simp_all [pushK]; done)) rfl
      · refine V2_iconst (v := 1) d_Car_goesAhead_7 rfl ?_
        refine V2_goto (tgt := 12) d_Car_goesAhead_8 rfl ?_
        refine V2_zreturn d_Car_goesAhead_12 rfl (by decide) ?_
        refine V2.to (st' := [.int (1 : Int32), .int (0 : Int32)]) ?_ rfl rfl rfl rfl
        refine V2_if_eq (tgt := 16) d_Push_asRhythm_9 rfl (fun c => absurd c (by decide)) (fun _ => ?_)
        refine V2_iconst (v := 2) d_Push_asRhythm_12 rfl ?_
        refine V2_goto (tgt := 17) d_Push_asRhythm_13 rfl ?_
        refine V2_iadd d_Push_asRhythm_17 ?_
        refine V2_topi (fun v9 ev9 => ?_)
        refine V2_ireturn d_Push_asRhythm_18 rfl ?_
        refine V2.to (st' := [.int v9]) ?_ rfl rfl rfl rfl
        refine V2_ireturn d_Push_pushOf_53 rfl ?_
        exact xQi hQ (by subst ev9 ev6 ev4 ev2 ev1; first | (simp_all [pushK]; done) | (rw [xmx0]; simp_all [pushK]; done)) rfl
    · refine V2_iconst (v := 1) d_Car_goesAhead_7 rfl ?_
      refine V2_goto (tgt := 12) d_Car_goesAhead_8 rfl ?_
      refine V2_zreturn d_Car_goesAhead_12 rfl (by decide) ?_
      refine V2.to (st' := [.int (1 : Int32)]) ?_ rfl rfl rfl rfl
      refine V2_if_eq (tgt := 11) d_Push_asPusher_4 rfl (fun c => absurd c (by decide)) (fun _ => ?_)
      refine V2_iload_n (i := 0) d_Push_asPusher_7 rfl rfl ?_
      refine V2_goto (tgt := 12) d_Push_asPusher_8 rfl ?_
      refine V2_ireturn d_Push_asPusher_12 rfl ?_
      refine V2.to (st' := [.int v1]) ?_ rfl rfl rfl rfl
      refine V2_aload_n (i := 1) d_Push_asRhythm_5 rfl rfl ?_
      refine V2_callV [] d_Push_asRhythm_6 rfl rfl lk_Push_61 mo_Car_goesAhead (by decide) rfl rfl rfl (Nat.le_of_ble_eq_true rfl) (Nat.le_of_ble_eq_true rfl) ?_
      refine V2.to (l' := [some (.ref 45)]) ?_ rfl rfl rfl rfl
      refine V2_aload_n (i := 0) d_Car_goesAhead_0 rfl rfl ?_
      refine V2_get (v := F 45 3) d_Car_goesAhead_1 fl_Car_19 (by decide) rfl (by decide) rfl rfl ?_
      refine V2_topi (fun v10 ev10 => ?_)
      refine V2_if_ne (tgt := 11) d_Car_goesAhead_4 rfl (fun c11 => ?_) (fun c11 => ?_)
      · refine V2_iconst (v := 0) d_Car_goesAhead_11 rfl ?_
        refine V2_zreturn d_Car_goesAhead_12 rfl (by decide) ?_
        refine V2.to (st' := [.int (0 : Int32), .int v1]) ?_ rfl rfl rfl rfl
        refine V2_if_eq (tgt := 16) d_Push_asRhythm_9 rfl (fun _ => ?_) (fun c => absurd (by decide) c)
        refine V2_iconst (v := 0) d_Push_asRhythm_16 rfl ?_
        refine V2_iadd d_Push_asRhythm_17 ?_
        refine V2_topi (fun v12 ev12 => ?_)
        refine V2_ireturn d_Push_asRhythm_18 rfl ?_
        refine V2.to (st' := [.int v12]) ?_ rfl rfl rfl rfl
        refine V2_ireturn d_Push_pushOf_53 rfl ?_
        exact xQi hQ (by subst ev12 ev10 ev4 ev2 ev1; first | (simp_all [pushK]; done) | (rw [xmx0]; simp_all [pushK]; done)) rfl
      · refine V2_iconst (v := 1) d_Car_goesAhead_7 rfl ?_
        refine V2_goto (tgt := 12) d_Car_goesAhead_8 rfl ?_
        refine V2_zreturn d_Car_goesAhead_12 rfl (by decide) ?_
        refine V2.to (st' := [.int (1 : Int32), .int v1]) ?_ rfl rfl rfl rfl
        refine V2_if_eq (tgt := 16) d_Push_asRhythm_9 rfl (fun c => absurd c (by decide)) (fun _ => ?_)
        refine V2_iconst (v := 2) d_Push_asRhythm_12 rfl ?_
        refine V2_goto (tgt := 17) d_Push_asRhythm_13 rfl ?_
        refine V2_iadd d_Push_asRhythm_17 ?_
        refine V2_topi (fun v13 ev13 => ?_)
        refine V2_ireturn d_Push_asRhythm_18 rfl ?_
        refine V2.to (st' := [.int v13]) ?_ rfl rfl rfl rfl
        refine V2_ireturn d_Push_pushOf_53 rfl ?_
        exact xQi hQ (by subst ev13 ev10 ev4 ev2 ev1; first | (simp_all [pushK]; done) | (rw [xmx0]; simp_all [pushK]; done)) rfl
  by_cases c3_2 : v2 = 2
  · refine V2_tableIn (tgt := 54) (off := 43) d_Push_pushOf_11 (by rw [c3_2]; decide) (by rw [c3_2]; decide) (by rw [c3_2]; decide) rfl ?_
    refine V2_iload_n (i := 3) d_Push_pushOf_54 rfl rfl ?_
    refine V2_aload_n (i := 2) d_Push_pushOf_55 rfl rfl ?_
    refine V2_callS [.int v1, .ref 45] d_Push_pushOf_56 rfl rfl lk_Push_58 mo_Push_asLate (Nat.le_of_ble_eq_true rfl) (Nat.le_of_ble_eq_true rfl) ?_
    refine V2.to (l' := [some (.int v1), some (.ref 45)]) ?_ rfl rfl rfl rfl
    refine V2_aload_n (i := 1) d_Push_asLate_0 rfl rfl ?_
    refine V2_get (v := F 45 5) d_Push_asLate_1 fl_Push_71 (by decide) rfl (by decide) rfl rfl ?_
    refine V2_topi (fun v14 ev14 => ?_)
    refine V2_iconst (v := 2) d_Push_asLate_4 rfl ?_
    refine V2_iremM d_Push_asLate_5 (by decide) ?_
    refine V2_topi (fun v15 ev15 => ?_)
    refine V2_if_ne (tgt := 17) d_Push_asLate_6 rfl (fun c16 => ?_) (fun c16 => ?_)
    · refine V2_iconst (v := 0) d_Push_asLate_17 rfl ?_
      refine V2_ireturn d_Push_asLate_18 rfl ?_
      refine V2.to (st' := [.int (0 : Int32)]) ?_ rfl rfl rfl rfl
      refine V2_ireturn d_Push_pushOf_59 rfl ?_
      exact xQi hQ (by subst ev15 ev14 ev2 ev1; first | (simp_all [pushK]; done) | (rw [xmx0]; simp_all [pushK]; done)) rfl
    · refine V2_iload_n (i := 0) d_Push_asLate_9 rfl rfl ?_
      refine V2_aload_n (i := 1) d_Push_asLate_10 rfl rfl ?_
      refine V2_callS [.int v1, .ref 45] d_Push_asLate_11 rfl rfl lk_Push_80 mo_Push_asPusher (Nat.le_of_ble_eq_true rfl) (Nat.le_of_ble_eq_true rfl) ?_
      refine V2.to (l' := [some (.int v1), some (.ref 45)]) ?_ rfl rfl rfl rfl
      refine V2_aload_n (i := 1) d_Push_asPusher_0 rfl rfl ?_
      refine V2_callV [] d_Push_asPusher_1 rfl rfl lk_Push_61 mo_Car_goesAhead (by decide) rfl rfl rfl (Nat.le_of_ble_eq_true rfl) (Nat.le_of_ble_eq_true rfl) ?_
      refine V2.to (l' := [some (.ref 45)]) ?_ rfl rfl rfl rfl
      refine V2_aload_n (i := 0) d_Car_goesAhead_0 rfl rfl ?_
      refine V2_get (v := F 45 3) d_Car_goesAhead_1 fl_Car_19 (by decide) rfl (by decide) rfl rfl ?_
      refine V2_topi (fun v17 ev17 => ?_)
      refine V2_if_ne (tgt := 11) d_Car_goesAhead_4 rfl (fun c18 => ?_) (fun c18 => ?_)
      · refine V2_iconst (v := 0) d_Car_goesAhead_11 rfl ?_
        refine V2_zreturn d_Car_goesAhead_12 rfl (by decide) ?_
        refine V2.to (st' := [.int (0 : Int32)]) ?_ rfl rfl rfl rfl
        refine V2_if_eq (tgt := 11) d_Push_asPusher_4 rfl (fun _ => ?_) (fun c => absurd (by decide) c)
        refine V2_iconst (v := 0) d_Push_asPusher_11 rfl ?_
        refine V2_ireturn d_Push_asPusher_12 rfl ?_
        refine V2.to (st' := [.int (0 : Int32)]) ?_ rfl rfl rfl rfl
        refine V2_goto (tgt := 18) d_Push_asLate_14 rfl ?_
        refine V2_ireturn d_Push_asLate_18 rfl ?_
        refine V2.to (st' := [.int (0 : Int32)]) ?_ rfl rfl rfl rfl
        refine V2_ireturn d_Push_pushOf_59 rfl ?_
        exact xQi hQ (by subst ev17 ev15 ev14 ev2 ev1; first | (simp_all [pushK]; done) | (rw [xmx0]; simp_all [pushK]; done)) rfl
      · refine V2_iconst (v := 1) d_Car_goesAhead_7 rfl ?_
        refine V2_goto (tgt := 12) d_Car_goesAhead_8 rfl ?_
        refine V2_zreturn d_Car_goesAhead_12 rfl (by decide) ?_
        refine V2.to (st' := [.int (1 : Int32)]) ?_ rfl rfl rfl rfl
        refine V2_if_eq (tgt := 11) d_Push_asPusher_4 rfl (fun c => absurd c (by decide)) (fun _ => ?_)
        refine V2_iload_n (i := 0) d_Push_asPusher_7 rfl rfl ?_
        refine V2_goto (tgt := 12) d_Push_asPusher_8 rfl ?_
        refine V2_ireturn d_Push_asPusher_12 rfl ?_
        refine V2.to (st' := [.int v1]) ?_ rfl rfl rfl rfl
        refine V2_goto (tgt := 18) d_Push_asLate_14 rfl ?_
        refine V2_ireturn d_Push_asLate_18 rfl ?_
        refine V2.to (st' := [.int v1]) ?_ rfl rfl rfl rfl
        refine V2_ireturn d_Push_pushOf_59 rfl ?_
        exact xQi hQ (by subst ev17 ev15 ev14 ev2 ev1; first | (simp_all [pushK]; done) | (rw [xmx0]; simp_all [pushK]; done)) rfl
  by_cases c3_3 : v2 = 3
  · refine V2_tableIn (tgt := 60) (off := 49) d_Push_pushOf_11 (by rw [c3_3]; decide) (by rw [c3_3]; decide) (by rw [c3_3]; decide) rfl ?_
    refine V2_aload_n (i := 2) d_Push_pushOf_60 rfl rfl ?_
    refine V2_callV [] d_Push_pushOf_61 rfl rfl lk_Push_61 mo_Car_goesAhead (by decide) rfl rfl rfl (Nat.le_of_ble_eq_true rfl) (Nat.le_of_ble_eq_true rfl) ?_
    refine V2.to (l' := [some (.ref 45)]) ?_ rfl rfl rfl rfl
    refine V2_aload_n (i := 0) d_Car_goesAhead_0 rfl rfl ?_
    refine V2_get (v := F 45 3) d_Car_goesAhead_1 fl_Car_19 (by decide) rfl (by decide) rfl rfl ?_
    refine V2_topi (fun v19 ev19 => ?_)
    refine V2_if_ne (tgt := 11) d_Car_goesAhead_4 rfl (fun c20 => ?_) (fun c20 => ?_)
    · refine V2_iconst (v := 0) d_Car_goesAhead_11 rfl ?_
      refine V2_zreturn d_Car_goesAhead_12 rfl (by decide) ?_
      refine V2.to (st' := [.int (0 : Int32)]) ?_ rfl rfl rfl rfl
      refine V2_if_eq (tgt := 71) d_Push_pushOf_64 rfl (fun _ => ?_) (fun c => absurd (by decide) c)
      refine V2_iload_n (i := 3) d_Push_pushOf_71 rfl rfl ?_
      refine V2_ireturn d_Push_pushOf_72 rfl ?_
      exact xQi hQ (by subst ev19 ev2 ev1; first | (simp_all [pushK]; done) | (rw [xmx0]; simp_all [pushK]; done)) rfl
    · refine V2_iconst (v := 1) d_Car_goesAhead_7 rfl ?_
      refine V2_goto (tgt := 12) d_Car_goesAhead_8 rfl ?_
      refine V2_zreturn d_Car_goesAhead_12 rfl (by decide) ?_
      refine V2.to (st' := [.int (1 : Int32)]) ?_ rfl rfl rfl rfl
      refine V2_if_eq (tgt := 71) d_Push_pushOf_64 rfl (fun c => absurd c (by decide)) (fun _ => ?_)
      refine V2_iconst (v := 0) d_Push_pushOf_67 rfl ?_
      refine V2_goto (tgt := 72) d_Push_pushOf_68 rfl ?_
      refine V2_ireturn d_Push_pushOf_72 rfl ?_
      exact xQi hQ (by subst ev19 ev2 ev1; first | (simp_all [pushK]; done) | (rw [xmx0]; simp_all [pushK]; done)) rfl
  by_cases c3_4 : v2 = 4
  · refine V2_tableIn (tgt := 73) (off := 62) d_Push_pushOf_11 (by rw [c3_4]; decide) (by rw [c3_4]; decide) (by rw [c3_4]; decide) rfl ?_
    refine V2_iload_n (i := 3) d_Push_pushOf_73 rfl rfl ?_
    refine V2_aload_n (i := 2) d_Push_pushOf_74 rfl rfl ?_
    refine V2_callS [.int v1, .ref 45] d_Push_pushOf_75 rfl rfl lk_Push_54 mo_Push_asRhythm (Nat.le_of_ble_eq_true rfl) (Nat.le_of_ble_eq_true rfl) ?_
    refine V2.to (l' := [some (.int v1), some (.ref 45)]) ?_ rfl rfl rfl rfl
    refine V2_iload_n (i := 0) d_Push_asRhythm_0 rfl rfl ?_
    refine V2_aload_n (i := 1) d_Push_asRhythm_1 rfl rfl ?_
    refine V2_callS [.int v1, .ref 45] d_Push_asRhythm_2 rfl rfl lk_Push_80 mo_Push_asPusher (Nat.le_of_ble_eq_true rfl) (Nat.le_of_ble_eq_true rfl) ?_
    refine V2.to (l' := [some (.int v1), some (.ref 45)]) ?_ rfl rfl rfl rfl
    refine V2_aload_n (i := 1) d_Push_asPusher_0 rfl rfl ?_
    refine V2_callV [] d_Push_asPusher_1 rfl rfl lk_Push_61 mo_Car_goesAhead (by decide) rfl rfl rfl (Nat.le_of_ble_eq_true rfl) (Nat.le_of_ble_eq_true rfl) ?_
    refine V2.to (l' := [some (.ref 45)]) ?_ rfl rfl rfl rfl
    refine V2_aload_n (i := 0) d_Car_goesAhead_0 rfl rfl ?_
    refine V2_get (v := F 45 3) d_Car_goesAhead_1 fl_Car_19 (by decide) rfl (by decide) rfl rfl ?_
    refine V2_topi (fun v21 ev21 => ?_)
    refine V2_if_ne (tgt := 11) d_Car_goesAhead_4 rfl (fun c22 => ?_) (fun c22 => ?_)
    · refine V2_iconst (v := 0) d_Car_goesAhead_11 rfl ?_
      refine V2_zreturn d_Car_goesAhead_12 rfl (by decide) ?_
      refine V2.to (st' := [.int (0 : Int32)]) ?_ rfl rfl rfl rfl
      refine V2_if_eq (tgt := 11) d_Push_asPusher_4 rfl (fun _ => ?_) (fun c => absurd (by decide) c)
      refine V2_iconst (v := 0) d_Push_asPusher_11 rfl ?_
      refine V2_ireturn d_Push_asPusher_12 rfl ?_
      refine V2.to (st' := [.int (0 : Int32)]) ?_ rfl rfl rfl rfl
      refine V2_aload_n (i := 1) d_Push_asRhythm_5 rfl rfl ?_
      refine V2_callV [] d_Push_asRhythm_6 rfl rfl lk_Push_61 mo_Car_goesAhead (by decide) rfl rfl rfl (Nat.le_of_ble_eq_true rfl) (Nat.le_of_ble_eq_true rfl) ?_
      refine V2.to (l' := [some (.ref 45)]) ?_ rfl rfl rfl rfl
      refine V2_aload_n (i := 0) d_Car_goesAhead_0 rfl rfl ?_
      refine V2_get (v := F 45 3) d_Car_goesAhead_1 fl_Car_19 (by decide) rfl (by decide) rfl rfl ?_
      refine V2_topi (fun v23 ev23 => ?_)
      refine V2_if_ne (tgt := 11) d_Car_goesAhead_4 rfl (fun c24 => ?_) (fun c24 => ?_)
      · refine V2_iconst (v := 0) d_Car_goesAhead_11 rfl ?_
        refine V2_zreturn d_Car_goesAhead_12 rfl (by decide) ?_
        refine V2.to (st' := [.int (0 : Int32), .int (0 : Int32)]) ?_ rfl rfl rfl rfl
        refine V2_if_eq (tgt := 16) d_Push_asRhythm_9 rfl (fun _ => ?_) (fun c => absurd (by decide) c)
        refine V2_iconst (v := 0) d_Push_asRhythm_16 rfl ?_
        refine V2_iadd d_Push_asRhythm_17 ?_
        refine V2_topi (fun v25 ev25 => ?_)
        refine V2_ireturn d_Push_asRhythm_18 rfl ?_
        refine V2.to (st' := [.int v25]) ?_ rfl rfl rfl rfl
        refine V2_aload_n (i := 2) d_Push_pushOf_78 rfl rfl ?_
        refine V2_get (v := F 45 2) d_Push_pushOf_79 fl_Push_67 (by decide) rfl (by decide) rfl rfl ?_
        refine V2_topi (fun v26 ev26 => ?_)
        refine V2_bipush (v := 8) d_Push_pushOf_82 rfl ?_
        refine V2_idiv d_Push_pushOf_84 (by decide) ?_
        refine V2_topi (fun v27 ev27 => ?_)
        refine V2_iadd d_Push_pushOf_85 ?_
        refine V2_topi (fun v28 ev28 => ?_)
        refine V2_ireturn d_Push_pushOf_86 rfl ?_
        exact xQi hQ (by subst ev28 ev27 ev26 ev25 ev23 ev21 ev2 ev1; first | (simp_all [pushK]; done) | (rw [xmx0]; simp_all [pushK]; done)) rfl
      · refine V2_iconst (v := 1) d_Car_goesAhead_7 rfl ?_
        refine V2_goto (tgt := 12) d_Car_goesAhead_8 rfl ?_
        refine V2_zreturn d_Car_goesAhead_12 rfl (by decide) ?_
        refine V2.to (st' := [.int (1 : Int32), .int (0 : Int32)]) ?_ rfl rfl rfl rfl
        refine V2_if_eq (tgt := 16) d_Push_asRhythm_9 rfl (fun c => absurd c (by decide)) (fun _ => ?_)
        refine V2_iconst (v := 2) d_Push_asRhythm_12 rfl ?_
        refine V2_goto (tgt := 17) d_Push_asRhythm_13 rfl ?_
        refine V2_iadd d_Push_asRhythm_17 ?_
        refine V2_topi (fun v29 ev29 => ?_)
        refine V2_ireturn d_Push_asRhythm_18 rfl ?_
        refine V2.to (st' := [.int v29]) ?_ rfl rfl rfl rfl
        refine V2_aload_n (i := 2) d_Push_pushOf_78 rfl rfl ?_
        refine V2_get (v := F 45 2) d_Push_pushOf_79 fl_Push_67 (by decide) rfl (by decide) rfl rfl ?_
        refine V2_topi (fun v30 ev30 => ?_)
        refine V2_bipush (v := 8) d_Push_pushOf_82 rfl ?_
        refine V2_idiv d_Push_pushOf_84 (by decide) ?_
        refine V2_topi (fun v31 ev31 => ?_)
        refine V2_iadd d_Push_pushOf_85 ?_
        refine V2_topi (fun v32 ev32 => ?_)
        refine V2_ireturn d_Push_pushOf_86 rfl ?_
        exact xQi hQ (by subst ev32 ev31 ev30 ev29 ev23 ev21 ev2 ev1; first | (simp_all [pushK]; done) | (rw [xmx0]; simp_all [pushK]; done)) rfl
    · refine V2_iconst (v := 1) d_Car_goesAhead_7 rfl ?_
      refine V2_goto (tgt := 12) d_Car_goesAhead_8 rfl ?_
      refine V2_zreturn d_Car_goesAhead_12 rfl (by decide) ?_
      refine V2.to (st' := [.int (1 : Int32)]) ?_ rfl rfl rfl rfl
      refine V2_if_eq (tgt := 11) d_Push_asPusher_4 rfl (fun c => absurd c (by decide)) (fun _ => ?_)
      refine V2_iload_n (i := 0) d_Push_asPusher_7 rfl rfl ?_
      refine V2_goto (tgt := 12) d_Push_asPusher_8 rfl ?_
      refine V2_ireturn d_Push_asPusher_12 rfl ?_
      refine V2.to (st' := [.int v1]) ?_ rfl rfl rfl rfl
      refine V2_aload_n (i := 1) d_Push_asRhythm_5 rfl rfl ?_
      refine V2_callV [] d_Push_asRhythm_6 rfl rfl lk_Push_61 mo_Car_goesAhead (by decide) rfl rfl rfl (Nat.le_of_ble_eq_true rfl) (Nat.le_of_ble_eq_true rfl) ?_
      refine V2.to (l' := [some (.ref 45)]) ?_ rfl rfl rfl rfl
      refine V2_aload_n (i := 0) d_Car_goesAhead_0 rfl rfl ?_
      refine V2_get (v := F 45 3) d_Car_goesAhead_1 fl_Car_19 (by decide) rfl (by decide) rfl rfl ?_
      refine V2_topi (fun v33 ev33 => ?_)
      refine V2_if_ne (tgt := 11) d_Car_goesAhead_4 rfl (fun c34 => ?_) (fun c34 => ?_)
      · refine V2_iconst (v := 0) d_Car_goesAhead_11 rfl ?_
        refine V2_zreturn d_Car_goesAhead_12 rfl (by decide) ?_
        refine V2.to (st' := [.int (0 : Int32), .int v1]) ?_ rfl rfl rfl rfl
        refine V2_if_eq (tgt := 16) d_Push_asRhythm_9 rfl (fun _ => ?_) (fun c => absurd (by decide) c)
        refine V2_iconst (v := 0) d_Push_asRhythm_16 rfl ?_
        refine V2_iadd d_Push_asRhythm_17 ?_
        refine V2_topi (fun v35 ev35 => ?_)
        refine V2_ireturn d_Push_asRhythm_18 rfl ?_
        refine V2.to (st' := [.int v35]) ?_ rfl rfl rfl rfl
        refine V2_aload_n (i := 2) d_Push_pushOf_78 rfl rfl ?_
        refine V2_get (v := F 45 2) d_Push_pushOf_79 fl_Push_67 (by decide) rfl (by decide) rfl rfl ?_
        refine V2_topi (fun v36 ev36 => ?_)
        refine V2_bipush (v := 8) d_Push_pushOf_82 rfl ?_
        refine V2_idiv d_Push_pushOf_84 (by decide) ?_
        refine V2_topi (fun v37 ev37 => ?_)
        refine V2_iadd d_Push_pushOf_85 ?_
        refine V2_topi (fun v38 ev38 => ?_)
        refine V2_ireturn d_Push_pushOf_86 rfl ?_
        exact xQi hQ (by subst ev38 ev37 ev36 ev35 ev33 ev21 ev2 ev1; first | (simp_all [pushK]; done) | (rw [xmx0]; simp_all [pushK]; done)) rfl
      · refine V2_iconst (v := 1) d_Car_goesAhead_7 rfl ?_
        refine V2_goto (tgt := 12) d_Car_goesAhead_8 rfl ?_
        refine V2_zreturn d_Car_goesAhead_12 rfl (by decide) ?_
        refine V2.to (st' := [.int (1 : Int32), .int v1]) ?_ rfl rfl rfl rfl
        refine V2_if_eq (tgt := 16) d_Push_asRhythm_9 rfl (fun c => absurd c (by decide)) (fun _ => ?_)
        refine V2_iconst (v := 2) d_Push_asRhythm_12 rfl ?_
        refine V2_goto (tgt := 17) d_Push_asRhythm_13 rfl ?_
        refine V2_iadd d_Push_asRhythm_17 ?_
        refine V2_topi (fun v39 ev39 => ?_)
        refine V2_ireturn d_Push_asRhythm_18 rfl ?_
        refine V2.to (st' := [.int v39]) ?_ rfl rfl rfl rfl
        refine V2_aload_n (i := 2) d_Push_pushOf_78 rfl rfl ?_
        refine V2_get (v := F 45 2) d_Push_pushOf_79 fl_Push_67 (by decide) rfl (by decide) rfl rfl ?_
        refine V2_topi (fun v40 ev40 => ?_)
        refine V2_bipush (v := 8) d_Push_pushOf_82 rfl ?_
        refine V2_idiv d_Push_pushOf_84 (by decide) ?_
        refine V2_topi (fun v41 ev41 => ?_)
        refine V2_iadd d_Push_pushOf_85 ?_
        refine V2_topi (fun v42 ev42 => ?_)
        refine V2_ireturn d_Push_pushOf_86 rfl ?_
        exact xQi hQ (by subst ev42 ev41 ev40 ev39 ev33 ev21 ev2 ev1; first | (simp_all [pushK]; done) | (rw [xmx0]; simp_all [pushK]; done)) rfl
  by_cases c3_5 : v2 = 5
  · refine V2_tableIn (tgt := 87) (off := 76) d_Push_pushOf_11 (by rw [c3_5]; decide) (by rw [c3_5]; decide) (by rw [c3_5]; decide) rfl ?_
    refine V2_iconst (v := 0) d_Push_pushOf_87 rfl ?_
    refine V2_iload_n (i := 3) d_Push_pushOf_88 rfl rfl ?_
    refine V2_aload_n (i := 2) d_Push_pushOf_89 rfl rfl ?_
    refine V2_callS [.int v1, .ref 45] d_Push_pushOf_90 rfl rfl lk_Push_58 mo_Push_asLate (Nat.le_of_ble_eq_true rfl) (Nat.le_of_ble_eq_true rfl) ?_
    refine V2.to (l' := [some (.int v1), some (.ref 45)]) ?_ rfl rfl rfl rfl
    refine V2_aload_n (i := 1) d_Push_asLate_0 rfl rfl ?_
    refine V2_get (v := F 45 5) d_Push_asLate_1 fl_Push_71 (by decide) rfl (by decide) rfl rfl ?_
    refine V2_topi (fun v43 ev43 => ?_)
    refine V2_iconst (v := 2) d_Push_asLate_4 rfl ?_
    refine V2_iremM d_Push_asLate_5 (by decide) ?_
    refine V2_topi (fun v44 ev44 => ?_)
    refine V2_if_ne (tgt := 17) d_Push_asLate_6 rfl (fun c45 => ?_) (fun c45 => ?_)
    · refine V2_iconst (v := 0) d_Push_asLate_17 rfl ?_
      refine V2_ireturn d_Push_asLate_18 rfl ?_
      refine V2.to (st' := [.int (0 : Int32), .int (0 : Int32)]) ?_ rfl rfl rfl rfl
      refine V2_aload_n (i := 2) d_Push_pushOf_93 rfl rfl ?_
      refine V2_get (v := F 45 5) d_Push_pushOf_94 fl_Push_71 (by decide) rfl (by decide) rfl rfl ?_
      refine V2_topi (fun v46 ev46 => ?_)
      refine V2_bipush (v := 8) d_Push_pushOf_97 rfl ?_
      refine V2_idiv d_Push_pushOf_99 (by decide) ?_
      refine V2_topi (fun v47 ev47 => ?_)
      refine V2_isub d_Push_pushOf_100 ?_
      refine V2_topi (fun v48 ev48 => ?_)
      refine V2_mmax d_Push_pushOf_101 lz_Push_74 (Nat.le_of_ble_eq_true rfl) ?_
      refine V2_topi (fun v49 ev49 => ?_)
      refine V2_ireturn d_Push_pushOf_104 rfl ?_
      exact xQi hQ (by subst ev49 ev48 ev47 ev46 ev44 ev43 ev2 ev1; first | (simp_all [pushK]; done) | (rw [xmx0]; simp_all [pushK]; done)) rfl
    · refine V2_iload_n (i := 0) d_Push_asLate_9 rfl rfl ?_
      refine V2_aload_n (i := 1) d_Push_asLate_10 rfl rfl ?_
      refine V2_callS [.int v1, .ref 45] d_Push_asLate_11 rfl rfl lk_Push_80 mo_Push_asPusher (Nat.le_of_ble_eq_true rfl) (Nat.le_of_ble_eq_true rfl) ?_
      refine V2.to (l' := [some (.int v1), some (.ref 45)]) ?_ rfl rfl rfl rfl
      refine V2_aload_n (i := 1) d_Push_asPusher_0 rfl rfl ?_
      refine V2_callV [] d_Push_asPusher_1 rfl rfl lk_Push_61 mo_Car_goesAhead (by decide) rfl rfl rfl (Nat.le_of_ble_eq_true rfl) (Nat.le_of_ble_eq_true rfl) ?_
      refine V2.to (l' := [some (.ref 45)]) ?_ rfl rfl rfl rfl
      refine V2_aload_n (i := 0) d_Car_goesAhead_0 rfl rfl ?_
      refine V2_get (v := F 45 3) d_Car_goesAhead_1 fl_Car_19 (by decide) rfl (by decide) rfl rfl ?_
      refine V2_topi (fun v50 ev50 => ?_)
      refine V2_if_ne (tgt := 11) d_Car_goesAhead_4 rfl (fun c51 => ?_) (fun c51 => ?_)
      · refine V2_iconst (v := 0) d_Car_goesAhead_11 rfl ?_
        refine V2_zreturn d_Car_goesAhead_12 rfl (by decide) ?_
        refine V2.to (st' := [.int (0 : Int32)]) ?_ rfl rfl rfl rfl
        refine V2_if_eq (tgt := 11) d_Push_asPusher_4 rfl (fun _ => ?_) (fun c => absurd (by decide) c)
        refine V2_iconst (v := 0) d_Push_asPusher_11 rfl ?_
        refine V2_ireturn d_Push_asPusher_12 rfl ?_
        refine V2.to (st' := [.int (0 : Int32)]) ?_ rfl rfl rfl rfl
        refine V2_goto (tgt := 18) d_Push_asLate_14 rfl ?_
        refine V2_ireturn d_Push_asLate_18 rfl ?_
        refine V2.to (st' := [.int (0 : Int32), .int (0 : Int32)]) ?_ rfl rfl rfl rfl
        refine V2_aload_n (i := 2) d_Push_pushOf_93 rfl rfl ?_
        refine V2_get (v := F 45 5) d_Push_pushOf_94 fl_Push_71 (by decide) rfl (by decide) rfl rfl ?_
        refine V2_topi (fun v52 ev52 => ?_)
        refine V2_bipush (v := 8) d_Push_pushOf_97 rfl ?_
        refine V2_idiv d_Push_pushOf_99 (by decide) ?_
        refine V2_topi (fun v53 ev53 => ?_)
        refine V2_isub d_Push_pushOf_100 ?_
        refine V2_topi (fun v54 ev54 => ?_)
        refine V2_mmax d_Push_pushOf_101 lz_Push_74 (Nat.le_of_ble_eq_true rfl) ?_
        refine V2_topi (fun v55 ev55 => ?_)
        refine V2_ireturn d_Push_pushOf_104 rfl ?_
        exact xQi hQ (by subst ev55 ev54 ev53 ev52 ev50 ev44 ev43 ev2 ev1; first | (simp_all [pushK]; done) | (rw [xmx0]; simp_all [pushK]; done)) rfl
      · refine V2_iconst (v := 1) d_Car_goesAhead_7 rfl ?_
        refine V2_goto (tgt := 12) d_Car_goesAhead_8 rfl ?_
        refine V2_zreturn d_Car_goesAhead_12 rfl (by decide) ?_
        refine V2.to (st' := [.int (1 : Int32)]) ?_ rfl rfl rfl rfl
        refine V2_if_eq (tgt := 11) d_Push_asPusher_4 rfl (fun c => absurd c (by decide)) (fun _ => ?_)
        refine V2_iload_n (i := 0) d_Push_asPusher_7 rfl rfl ?_
        refine V2_goto (tgt := 12) d_Push_asPusher_8 rfl ?_
        refine V2_ireturn d_Push_asPusher_12 rfl ?_
        refine V2.to (st' := [.int v1]) ?_ rfl rfl rfl rfl
        refine V2_goto (tgt := 18) d_Push_asLate_14 rfl ?_
        refine V2_ireturn d_Push_asLate_18 rfl ?_
        refine V2.to (st' := [.int v1, .int (0 : Int32)]) ?_ rfl rfl rfl rfl
        refine V2_aload_n (i := 2) d_Push_pushOf_93 rfl rfl ?_
        refine V2_get (v := F 45 5) d_Push_pushOf_94 fl_Push_71 (by decide) rfl (by decide) rfl rfl ?_
        refine V2_topi (fun v56 ev56 => ?_)
        refine V2_bipush (v := 8) d_Push_pushOf_97 rfl ?_
        refine V2_idiv d_Push_pushOf_99 (by decide) ?_
        refine V2_topi (fun v57 ev57 => ?_)
        refine V2_isub d_Push_pushOf_100 ?_
        refine V2_topi (fun v58 ev58 => ?_)
        refine V2_mmax d_Push_pushOf_101 lz_Push_74 (Nat.le_of_ble_eq_true rfl) ?_
        refine V2_topi (fun v59 ev59 => ?_)
        refine V2_ireturn d_Push_pushOf_104 rfl ?_
        exact xQi hQ (by subst ev59 ev58 ev57 ev56 ev50 ev44 ev43 ev2 ev1; first | (simp_all [pushK]; done) | (rw [xmx0]; simp_all [pushK]; done)) rfl
  by_cases c3_6 : v2 = 6
  · refine V2_tableIn (tgt := 105) (off := 94) d_Push_pushOf_11 (by rw [c3_6]; decide) (by rw [c3_6]; decide) (by rw [c3_6]; decide) rfl ?_
    refine V2_iconst (v := 0) d_Push_pushOf_105 rfl ?_
    refine V2_ireturn d_Push_pushOf_106 rfl ?_
    exact xQi hQ (by subst ev2 ev1; first | (simp_all [pushK]; done) | (rw [xmx0]; simp_all [pushK]; done)) rfl
  refine V2_tableOut (tgt := 107) d_Push_pushOf_11 (by have := lv_neT (a := 1) c3_1 rfl; have := lv_neT (a := 2) c3_2 rfl; have := lv_neT (a := 3) c3_3 rfl; have := lv_neT (a := 4) c3_4 rfl; have := lv_neT (a := 5) c3_5 rfl; have := lv_neT (a := 6) c3_6 rfl; omega) rfl ?_
  refine V2_iload_n (i := 3) d_Push_pushOf_107 rfl rfl ?_
  refine V2_aload_n (i := 2) d_Push_pushOf_108 rfl rfl ?_
  refine V2_callS [.int v1, .ref 45] d_Push_pushOf_109 rfl rfl lk_Push_80 mo_Push_asPusher (Nat.le_of_ble_eq_true rfl) (Nat.le_of_ble_eq_true rfl) ?_
  refine V2.to (l' := [some (.int v1), some (.ref 45)]) ?_ rfl rfl rfl rfl
  refine V2_aload_n (i := 1) d_Push_asPusher_0 rfl rfl ?_
  refine V2_callV [] d_Push_asPusher_1 rfl rfl lk_Push_61 mo_Car_goesAhead (by decide) rfl rfl rfl (Nat.le_of_ble_eq_true rfl) (Nat.le_of_ble_eq_true rfl) ?_
  refine V2.to (l' := [some (.ref 45)]) ?_ rfl rfl rfl rfl
  refine V2_aload_n (i := 0) d_Car_goesAhead_0 rfl rfl ?_
  refine V2_get (v := F 45 3) d_Car_goesAhead_1 fl_Car_19 (by decide) rfl (by decide) rfl rfl ?_
  refine V2_topi (fun v60 ev60 => ?_)
  refine V2_if_ne (tgt := 11) d_Car_goesAhead_4 rfl (fun c61 => ?_) (fun c61 => ?_)
  · refine V2_iconst (v := 0) d_Car_goesAhead_11 rfl ?_
    refine V2_zreturn d_Car_goesAhead_12 rfl (by decide) ?_
    refine V2.to (st' := [.int (0 : Int32)]) ?_ rfl rfl rfl rfl
    refine V2_if_eq (tgt := 11) d_Push_asPusher_4 rfl (fun _ => ?_) (fun c => absurd (by decide) c)
    refine V2_iconst (v := 0) d_Push_asPusher_11 rfl ?_
    refine V2_ireturn d_Push_asPusher_12 rfl ?_
    refine V2.to (st' := [.int (0 : Int32)]) ?_ rfl rfl rfl rfl
    refine V2_ireturn d_Push_pushOf_112 rfl ?_
    exact xQi hQ (by subst ev60 ev2 ev1; first | (simp_all [pushK]; done) | (rw [xmx0]; simp_all [pushK]; done)) rfl
  · refine V2_iconst (v := 1) d_Car_goesAhead_7 rfl ?_
    refine V2_goto (tgt := 12) d_Car_goesAhead_8 rfl ?_
    refine V2_zreturn d_Car_goesAhead_12 rfl (by decide) ?_
    refine V2.to (st' := [.int (1 : Int32)]) ?_ rfl rfl rfl rfl
    refine V2_if_eq (tgt := 11) d_Push_asPusher_4 rfl (fun c => absurd c (by decide)) (fun _ => ?_)
    refine V2_iload_n (i := 0) d_Push_asPusher_7 rfl rfl ?_
    refine V2_goto (tgt := 12) d_Push_asPusher_8 rfl ?_
    refine V2_ireturn d_Push_asPusher_12 rfl ?_
    refine V2.to (st' := [.int v1]) ?_ rfl rfl rfl rfl
    refine V2_ireturn d_Push_pushOf_112 rfl ?_
    exact xQi hQ (by subst ev60 ev2 ev1; first | (simp_all [pushK]; done) | (rw [xmx0]; simp_all [pushK]; done)) rfl
theorem c_Push_pushOfSet_45_loop {L : Nat} {xs : Nat → Int32} {d : Nat} {Q : Option Value → xF → Prop} {F : xF} {P : Nat} {set : Int32} (hP : F 4 1 = nI P) (hP2 : F 6 1 = nI P) (hl : P ≤ 6) : ∀ (n : Nat) (p : Nat) (v : Int32), p ≤ P → P < n + p → v = sumTo (fun p => @ite _ (inSet set p) (Classical.propDecidable _) (pushK (F 5 p) (F 7 p) (F 45 3) (F 45 2) (F 45 5)) 0) p → (Q (some (.int (sumTo (fun p => @ite _ (inSet set p) (Classical.propDecidable _) (pushK (F 5 p) (F 7 p) (F 45 3) (F 45 2) (F 45 5)) 0) P))) F) → V2 L xs (d + 4) m_Push_pushOfSet 5 [some (.ref 3), some (.int set), some (.ref 45), some (.int v), some (.int (nI p))] [] F Q := by
  intro n
  induction n with
  | zero => exact fun p v h1 h2 => absurd h2 (by omega)
  | succ n ih =>
    intro p v h1 h2 h3 hQ
    refine V2_iload (i := 4) d_Push_pushOfSet_5 rfl ?_
    refine V2_aload_n (i := 0) d_Push_pushOfSet_7 rfl rfl ?_
    refine V2_callV [] d_Push_pushOfSet_8 rfl rfl lk_Push_83 mo_Push_size (by decide) rfl rfl rfl (Nat.le_of_ble_eq_true rfl) (Nat.le_of_ble_eq_true rfl) ?_
    refine c_Push_size hP ?_
    refine V2_icmp_ge (tgt := 43) d_Push_pushOfSet_11 rfl (fun c1 => ?_) (fun c1 => ?_)
    · refine V2_iload_n (i := 3) d_Push_pushOfSet_43 rfl rfl ?_
      refine V2_ireturn d_Push_pushOfSet_44 rfl ?_
      have hpp : p = P := by
        skip
        exact Nat.le_antisymm h1 ((nI_leI (by omega) (by omega)).mp c1)
      subst hpp
      exact xQi hQ h3 rfl
    · have hp : p < P := Nat.not_le.mp (fun hh => c1 ((nI_leI (by omega) (by omega)).mpr hh))
      refine V2_iload_n (i := 3) d_Push_pushOfSet_14 rfl rfl ?_
      refine V2_iload_n (i := 1) d_Push_pushOfSet_15 rfl rfl ?_
      refine V2_iload (i := 4) d_Push_pushOfSet_16 rfl ?_
      refine V2_callS [.int set, .int (nI p)] d_Push_pushOfSet_18 rfl rfl lk_Push_84 mo_Push_isIn (Nat.le_of_ble_eq_true rfl) (Nat.le_of_ble_eq_true rfl) ?_
      refine c_Push_isIn ?_
      refine V2_topi (fun v2 ev2 => ?_)
      refine V2_if_eq (tgt := 34) d_Push_pushOfSet_21 rfl (fun c3 => ?_) (fun c3 => ?_)
      · refine V2_iconst (v := 0) d_Push_pushOfSet_34 rfl ?_
        refine V2_iadd d_Push_pushOfSet_35 ?_
        refine V2_topi (fun v4 ev4 => ?_)
        refine V2_istore_n (i := 3) (l' := [some (.ref 3), some (.int set), some (.ref 45), some (.int v4), some (.int (nI p))]) d_Push_pushOfSet_36 rfl (xst_r (Nat.le_of_ble_eq_true rfl) rfl rfl) ?_
        obtain ⟨v5, ev5⟩ : ∃ y : Int32, y = nI p + 1 := ⟨_, rfl⟩
        refine V2_iinc (i := 4) (v := v5) (l' := [some (.ref 3), some (.int set), some (.ref 45), some (.int v4), some (.int v5)]) d_Push_pushOfSet_37 rfl (by rw [ev5]; rfl) (xst_i (Nat.le_of_ble_eq_true rfl) rfl rfl) ?_
        refine V2_goto (tgt := 5) d_Push_pushOfSet_40 rfl ?_
        exact V2.to (ih (p + 1) v4 (by omega) (by omega) (by subst ev5 ev4 ev2; rw [h3]; exact (sum_out (f := (fun p => pushK (F 5 p) (F 7 p) (F 45 3) (F 45 2) (F 45 5))) (set := set) (xin_f c3)).symm) hQ) rfl (by rw [ev5, nI_1]) rfl rfl
      · refine V2_aload_n (i := 0) d_Push_pushOfSet_24 rfl rfl ?_
        refine V2_iload (i := 4) d_Push_pushOfSet_25 rfl ?_
        refine V2_aload_n (i := 2) d_Push_pushOfSet_27 rfl rfl ?_
        refine V2_callV [.int (nI p), .ref 45] d_Push_pushOfSet_28 rfl rfl lk_Push_91 mo_Push_pushOf (by decide) rfl rfl rfl (Nat.le_of_ble_eq_true rfl) (Nat.le_of_ble_eq_true rfl) ?_
        refine c_Push_pushOf_45 hP hP2 hl hp ?_
        refine V2_topi (fun v6 ev6 => ?_)
        refine V2_goto (tgt := 35) d_Push_pushOfSet_31 rfl ?_
        refine V2_iadd d_Push_pushOfSet_35 ?_
        refine V2_topi (fun v7 ev7 => ?_)
        refine V2_istore_n (i := 3) (l' := [some (.ref 3), some (.int set), some (.ref 45), some (.int v7), some (.int (nI p))]) d_Push_pushOfSet_36 rfl (xst_r (Nat.le_of_ble_eq_true rfl) rfl rfl) ?_
        obtain ⟨v8, ev8⟩ : ∃ y : Int32, y = nI p + 1 := ⟨_, rfl⟩
        refine V2_iinc (i := 4) (v := v8) (l' := [some (.ref 3), some (.int set), some (.ref 45), some (.int v7), some (.int v8)]) d_Push_pushOfSet_37 rfl (by rw [ev8]; rfl) (xst_i (Nat.le_of_ble_eq_true rfl) rfl rfl) ?_
        refine V2_goto (tgt := 5) d_Push_pushOfSet_40 rfl ?_
        exact V2.to (ih (p + 1) v7 (by omega) (by omega) (by subst ev8 ev7 ev6 ev2; rw [h3]; exact (sum_in (f := (fun p => pushK (F 5 p) (F 7 p) (F 45 3) (F 45 2) (F 45 5))) (set := set) (xin_t c3)).symm) hQ) rfl (by rw [ev8, nI_1]) rfl rfl
theorem c_Push_pushOfSet_45 {L : Nat} {xs : Nat → Int32} {d : Nat} {Q : Option Value → xF → Prop} {F : xF} {P : Nat} {set : Int32} (hP : F 4 1 = nI P) (hP2 : F 6 1 = nI P) (hl : P ≤ 6) (hQ : Q (some (.int (sumTo (fun p => @ite _ (inSet set p) (Classical.propDecidable _) (pushK (F 5 p) (F 7 p) (F 45 3) (F 45 2) (F 45 5)) 0) P))) F) : V2 L xs (d + 4) m_Push_pushOfSet 0 (xEntry [.ref 3, .int set, .ref 45] 5) [] F Q := by
  refine V2.to (l' := [some (.ref 3), some (.int set), some (.ref 45), none, none]) ?_ rfl rfl rfl rfl
  refine V2_iconst (v := 0) d_Push_pushOfSet_0 rfl ?_
  refine V2_istore_n (i := 3) (l' := [some (.ref 3), some (.int set), some (.ref 45), some (.int (0 : Int32)), none]) d_Push_pushOfSet_1 rfl (xst_r (Nat.le_of_ble_eq_true rfl) rfl rfl) ?_
  refine V2_iconst (v := 0) d_Push_pushOfSet_2 rfl ?_
  refine V2_istore (i := 4) (l' := [some (.ref 3), some (.int set), some (.ref 45), some (.int (0 : Int32)), some (.int (0 : Int32))]) d_Push_pushOfSet_3 (xst_i (Nat.le_of_ble_eq_true rfl) rfl rfl) ?_
  exact c_Push_pushOfSet_45_loop hP hP2 hl (P + 1) 0 0 (by omega) (by omega) rfl hQ
theorem c_Push_weightOfSet_loop {L : Nat} {xs : Nat → Int32} {d : Nat} {Q : Option Value → xF → Prop} {F : xF} {P : Nat} {set : Int32} (hP : F 4 1 = nI P) (hP2 : F 6 1 = nI P) (hl : P ≤ 6) : ∀ (n : Nat) (p : Nat) (v : Int32), p ≤ P → P < n + p → v = sumTo (fun p => @ite _ (inSet set p) (Classical.propDecidable _) (if F 5 p = 6 then F 7 p else 0) 0) p → (Q (some (.int (sumTo (fun p => @ite _ (inSet set p) (Classical.propDecidable _) (if F 5 p = 6 then F 7 p else 0) 0) P))) F) → V2 L xs (d + 4) m_Push_weightOfSet 4 [some (.ref 3), some (.int set), some (.int v), some (.int (nI p))] [] F Q := by
  intro n
  induction n with
  | zero => exact fun p v h1 h2 => absurd h2 (by omega)
  | succ n ih =>
    intro p v h1 h2 h3 hQ
    refine V2_iload_n (i := 3) d_Push_weightOfSet_4 rfl rfl ?_
    refine V2_aload_n (i := 0) d_Push_weightOfSet_5 rfl rfl ?_
    refine V2_callV [] d_Push_weightOfSet_6 rfl rfl lk_Push_83 mo_Push_size (by decide) rfl rfl rfl (Nat.le_of_ble_eq_true rfl) (Nat.le_of_ble_eq_true rfl) ?_
    refine c_Push_size hP ?_
    refine V2_icmp_ge (tgt := 38) d_Push_weightOfSet_9 rfl (fun c1 => ?_) (fun c1 => ?_)
    · refine V2_iload_n (i := 2) d_Push_weightOfSet_38 rfl rfl ?_
      refine V2_ireturn d_Push_weightOfSet_39 rfl ?_
      have hpp : p = P := by
        skip
        exact Nat.le_antisymm h1 ((nI_leI (by omega) (by omega)).mp c1)
      subst hpp
      exact xQi hQ h3 rfl
    · have hp : p < P := Nat.not_le.mp (fun hh => c1 ((nI_leI (by omega) (by omega)).mpr hh))
      refine V2_iload_n (i := 2) d_Push_weightOfSet_12 rfl rfl ?_
      refine V2_iload_n (i := 1) d_Push_weightOfSet_13 rfl rfl ?_
      refine V2_iload_n (i := 3) d_Push_weightOfSet_14 rfl rfl ?_
      refine V2_callS [.int set, .int (nI p)] d_Push_weightOfSet_15 rfl rfl lk_Push_84 mo_Push_isIn (Nat.le_of_ble_eq_true rfl) (Nat.le_of_ble_eq_true rfl) ?_
      refine c_Push_isIn ?_
      refine V2_topi (fun v2 ev2 => ?_)
      refine V2_if_eq (tgt := 29) d_Push_weightOfSet_18 rfl (fun c3 => ?_) (fun c3 => ?_)
      · refine V2_iconst (v := 0) d_Push_weightOfSet_29 rfl ?_
        refine V2_iadd d_Push_weightOfSet_30 ?_
        refine V2_topi (fun v4 ev4 => ?_)
        refine V2_istore_n (i := 2) (l' := [some (.ref 3), some (.int set), some (.int v4), some (.int (nI p))]) d_Push_weightOfSet_31 rfl (xst_i (Nat.le_of_ble_eq_true rfl) rfl rfl) ?_
        obtain ⟨v5, ev5⟩ : ∃ y : Int32, y = nI p + 1 := ⟨_, rfl⟩
        refine V2_iinc (i := 3) (v := v5) (l' := [some (.ref 3), some (.int set), some (.int v4), some (.int v5)]) d_Push_weightOfSet_32 rfl (by rw [ev5]; rfl) (xst_i (Nat.le_of_ble_eq_true rfl) rfl rfl) ?_
        refine V2_goto (tgt := 4) d_Push_weightOfSet_35 rfl ?_
        exact V2.to (ih (p + 1) v4 (by omega) (by omega) (by subst ev5 ev4 ev2; rw [h3]; exact (sum_out (f := (fun p => if F 5 p = 6 then F 7 p else 0)) (set := set) (xin_f c3)).symm) hQ) rfl (by rw [ev5, nI_1]) rfl rfl
      · refine V2_aload_n (i := 0) d_Push_weightOfSet_21 rfl rfl ?_
        refine V2_iload_n (i := 3) d_Push_weightOfSet_22 rfl rfl ?_
        refine V2_callV [.int (nI p)] d_Push_weightOfSet_23 rfl rfl lk_Push_88 mo_Push_weightOf (by decide) rfl rfl rfl (Nat.le_of_ble_eq_true rfl) (Nat.le_of_ble_eq_true rfl) ?_
        refine c_Push_weightOf hP hP2 hl hp ?_
        refine V2_topi (fun v6 ev6 => ?_)
        refine V2_goto (tgt := 30) d_Push_weightOfSet_26 rfl ?_
        refine V2_iadd d_Push_weightOfSet_30 ?_
        refine V2_topi (fun v7 ev7 => ?_)
        refine V2_istore_n (i := 2) (l' := [some (.ref 3), some (.int set), some (.int v7), some (.int (nI p))]) d_Push_weightOfSet_31 rfl (xst_i (Nat.le_of_ble_eq_true rfl) rfl rfl) ?_
        obtain ⟨v8, ev8⟩ : ∃ y : Int32, y = nI p + 1 := ⟨_, rfl⟩
        refine V2_iinc (i := 3) (v := v8) (l' := [some (.ref 3), some (.int set), some (.int v7), some (.int v8)]) d_Push_weightOfSet_32 rfl (by rw [ev8]; rfl) (xst_i (Nat.le_of_ble_eq_true rfl) rfl rfl) ?_
        refine V2_goto (tgt := 4) d_Push_weightOfSet_35 rfl ?_
        exact V2.to (ih (p + 1) v7 (by omega) (by omega) (by subst ev8 ev7 ev6 ev2; rw [h3]; exact (sum_in (f := (fun p => if F 5 p = 6 then F 7 p else 0)) (set := set) (xin_t c3)).symm) hQ) rfl (by rw [ev8, nI_1]) rfl rfl
theorem c_Push_weightOfSet {L : Nat} {xs : Nat → Int32} {d : Nat} {Q : Option Value → xF → Prop} {F : xF} {P : Nat} {set : Int32} (hP : F 4 1 = nI P) (hP2 : F 6 1 = nI P) (hl : P ≤ 6) (hQ : Q (some (.int (sumTo (fun p => @ite _ (inSet set p) (Classical.propDecidable _) (if F 5 p = 6 then F 7 p else 0) 0) P))) F) : V2 L xs (d + 4) m_Push_weightOfSet 0 (xEntry [.ref 3, .int set] 4) [] F Q := by
  refine V2.to (l' := [some (.ref 3), some (.int set), none, none]) ?_ rfl rfl rfl rfl
  refine V2_iconst (v := 0) d_Push_weightOfSet_0 rfl ?_
  refine V2_istore_n (i := 2) (l' := [some (.ref 3), some (.int set), some (.int (0 : Int32)), none]) d_Push_weightOfSet_1 rfl (xst_i (Nat.le_of_ble_eq_true rfl) rfl rfl) ?_
  refine V2_iconst (v := 0) d_Push_weightOfSet_2 rfl ?_
  refine V2_istore_n (i := 3) (l' := [some (.ref 3), some (.int set), some (.int (0 : Int32)), some (.int (0 : Int32))]) d_Push_weightOfSet_3 rfl (xst_i (Nat.le_of_ble_eq_true rfl) rfl rfl) ?_
  exact c_Push_weightOfSet_loop hP hP2 hl (P + 1) 0 0 (by omega) (by omega) rfl hQ
