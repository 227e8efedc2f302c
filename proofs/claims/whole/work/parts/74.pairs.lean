/-! voices that may not be asked; the pairs of all calls -/
theorem c_cv_bad {L : Nat} {xs : Nat → Int32} {d : Nat} {Q : Option Value → xF → Prop} {F : xF} {pu v x : Int32} (hR : Rel F) (hb : ¬ ((0 ≤ pu.toInt ∧ pu.toInt < (PN (F 66) : Int)) ∧ 0 ≤ v.toInt ∧ v.toInt ≤ 3)) (hQ : ∀ F1, Mid F F1 (errF F 1) → Q (some (.int (-1000000000 - 1))) F1) : V2 L xs (d + 40) m_P_voice 0 (xEntry [.ref 0, .int pu, .int v, .int x] 5) [] F Q := by
  have q0 : (0 : Int32).toInt = 0 := by decide
  have q1 : (1 : Int32).toInt = 1 := by decide
  have q2 : (2 : Int32).toInt = 2 := by decide
  have q3 : (3 : Int32).toInt = 3 := by decide
  have q4 : (4 : Int32).toInt = 4 := by decide
  have q5 : (5 : Int32).toInt = 5 := by decide
  have q6 : (6 : Int32).toInt = 6 := by decide
  have q7 : (7 : Int32).toInt = 7 := by decide
  have q8 : (8 : Int32).toInt = 8 := by decide
  have q9 : (9 : Int32).toInt = 9 := by decide
  have q10 : (10 : Int32).toInt = 10 := by decide
  have q12 : (12 : Int32).toInt = 12 := by decide
  have q16 : (16 : Int32).toInt = 16 := by decide
  have q20 : (20 : Int32).toInt = 20 := by decide
  have q24 : (24 : Int32).toInt = 24 := by decide
  have q30 : (30 : Int32).toInt = 30 := by decide
  have q32 : (32 : Int32).toInt = 32 := by decide
  have q40 : (40 : Int32).toInt = 40 := by decide
  have q60 : (60 : Int32).toInt = 60 := by decide
  have q69 : (69 : Int32).toInt = 69 := by decide
  have q99 : (99 : Int32).toInt = 99 := by decide
  have q9999 : (9999 : Int32).toInt = 9999 := by decide
  have q274 : (274 : Int32).toInt = 274 := by decide
  have q334 : (334 : Int32).toInt = 334 := by decide
  obtain ⟨eP, hP6⟩ := inv_PN hR.2.1.2.2.1
  have nP : (F 66 11).toInt = (PN (F 66) : Int) := PN_int hR.2.1.2.2.1
  have e4 : F 3 2 = F 66 11 := hR.1.1.2.1.1
  have q4 : (4 : Int32).toInt = 4 := by decide
  have n4 : (F 3 2).toInt = (PN (F 66) : Int) := by
    rw [e4]
    exact nP
  refine V2.to (l' := [some (.ref 0), some (.int pu), some (.int v), some (.int x), none]) ?_ rfl rfl rfl rfl
  refine V2_aload_n (i := 0) d_P_voice_0 rfl rfl ?_
  refine V2_getr (a := 1) d_P_voice_1 fl_P_10 (by decide) rfl (by decide) rfl ?_
  refine V2_getr (a := 3) d_P_voice_4 fl_P_70 (by decide) rfl (by decide) rfl ?_
  refine V2_iload_n (i := 1) d_P_voice_7 rfl rfl ?_
  refine V2_callV [.int pu] d_P_voice_8 rfl rfl lk_P_84 mo_Push_has (by decide) rfl rfl rfl (Nat.le_of_ble_eq_true rfl) (Nat.le_of_ble_eq_true rfl) ?_
  refine c_Push_has (P := PN (F 66)) (hR.1.1.2.1.1.trans eP) hP6 ?_
  refine V2_topi (fun v1 ev1 => ?_)
  refine V2_if_eq (tgt := 21) d_P_voice_11 rfl (fun c2 => ?_) (fun c2 => ?_)
  · refine V2_aload_n (i := 0) d_P_voice_21 rfl rfl ?_
    refine V2_iconst (v := 1) d_P_voice_22 rfl ?_
    refine V2_callV [.int (1 : Int32)] d_P_voice_23 rfl rfl lk_P_66 mo_P_fails (by decide) rfl rfl rfl (Nat.le_of_ble_eq_true rfl) (Nat.le_of_ble_eq_true rfl) ?_
    refine c_P_fails1 ?_
    refine V2_topi (fun v3 ev3 => ?_)
    refine V2_ireturn d_P_voice_26 rfl ?_
    subst ev3 ev1
    exact xQi (hQ _ (mid_err hR (by decide))) rfl rfl
  · refine V2_iload_n (i := 2) d_P_voice_14 rfl rfl ?_
    refine V2_callS [.int v] d_P_voice_15 rfl rfl lk_P_290 mo_Voi_isVoice (Nat.le_of_ble_eq_true rfl) (Nat.le_of_ble_eq_true rfl) ?_
    refine V2.to (l' := [some (.int v)]) ?_ rfl rfl rfl rfl
    refine V2_iload_n (i := 0) d_Voi_isVoice_0 rfl rfl ?_
    refine V2_if_lt (tgt := 13) d_Voi_isVoice_1 rfl (fun c4 => ?_) (fun c4 => ?_)
    · refine V2_iconst (v := 0) d_Voi_isVoice_13 rfl ?_
      refine V2_zreturn d_Voi_isVoice_14 rfl (by decide) ?_
      refine V2.to (st' := [.int (0 : Int32)]) ?_ rfl rfl rfl rfl
      refine V2_if_ne (tgt := 27) d_P_voice_18 rfl (fun c => (by first | exact absurd c (by decide) | exact absurd (by decide) c)) (fun _ => ?_)
      refine V2_aload_n (i := 0) d_P_voice_21 rfl rfl ?_
      refine V2_iconst (v := 1) d_P_voice_22 rfl ?_
      refine V2_callV [.int (1 : Int32)] d_P_voice_23 rfl rfl lk_P_66 mo_P_fails (by decide) rfl rfl rfl (Nat.le_of_ble_eq_true rfl) (Nat.le_of_ble_eq_true rfl) ?_
      refine c_P_fails1 ?_
      refine V2_topi (fun v5 ev5 => ?_)
      refine V2_ireturn d_P_voice_26 rfl ?_
      subst ev5 ev1
      exact xQi (hQ _ (mid_err hR (by decide))) rfl rfl
    · refine V2_iload_n (i := 0) d_Voi_isVoice_4 rfl rfl ?_
      refine V2_iconst (v := 4) d_Voi_isVoice_5 rfl ?_
      refine V2_icmp_ge (tgt := 13) d_Voi_isVoice_6 rfl (fun c6 => ?_) (fun c6 => ?_)
      · refine V2_iconst (v := 0) d_Voi_isVoice_13 rfl ?_
        refine V2_zreturn d_Voi_isVoice_14 rfl (by decide) ?_
        refine V2.to (st' := [.int (0 : Int32)]) ?_ rfl rfl rfl rfl
        refine V2_if_ne (tgt := 27) d_P_voice_18 rfl (fun c => (by first | exact absurd c (by decide) | exact absurd (by decide) c)) (fun _ => ?_)
        refine V2_aload_n (i := 0) d_P_voice_21 rfl rfl ?_
        refine V2_iconst (v := 1) d_P_voice_22 rfl ?_
        refine V2_callV [.int (1 : Int32)] d_P_voice_23 rfl rfl lk_P_66 mo_P_fails (by decide) rfl rfl rfl (Nat.le_of_ble_eq_true rfl) (Nat.le_of_ble_eq_true rfl) ?_
        refine c_P_fails1 ?_
        refine V2_topi (fun v7 ev7 => ?_)
        refine V2_ireturn d_P_voice_26 rfl ?_
        subst ev7 ev1
        exact xQi (hQ _ (mid_err hR (by decide))) rfl rfl
      · refine V2_iconst (v := 1) d_Voi_isVoice_9 rfl ?_
        refine V2_goto (tgt := 14) d_Voi_isVoice_10 rfl ?_
        refine V2_zreturn d_Voi_isVoice_14 rfl (by decide) ?_
        refine V2.to (st' := [.int (1 : Int32)]) ?_ rfl rfl rfl rfl
        refine V2_if_ne (tgt := 27) d_P_voice_18 rfl (fun _ => ?_) (fun c => (by first | exact absurd c (by decide) | exact absurd (by decide) c))
        exfalso
        exact (by (try clear hQ); (try subst ev1); ((try simp only [xb_eq, xb_ne, Int32.lt_iff_toInt_lt, Int32.le_iff_toInt_le] at *) <;> (try simp only [← Int32.toInt_inj, true_and, false_and, or_false, false_or, or_true, true_or, and_true, and_false] at *) <;> omega))
theorem c_mv_bad {L : Nat} {xs : Nat → Int32} {d : Nat} {Q : Option Value → xF → Prop} {F : xF} {pu v x : Int32} {F0 : xF} (hR : Rel F0) (hM : Mid F0 F (errF F0 1)) (hb : ¬ ((0 ≤ pu.toInt ∧ pu.toInt < (PN (F0 66) : Int)) ∧ 0 ≤ v.toInt ∧ v.toInt ≤ 3)) (hQ : ∀ F2, Rel F2 → Q (some (.int (-1000000000 - 1))) F2) : V2 L xs (d + 40) m_R_voice 0 (xEntry [.ref 65, .int pu, .int v, .int x] 6) [] F Q := by
  have q0 : (0 : Int32).toInt = 0 := by decide
  have q1 : (1 : Int32).toInt = 1 := by decide
  have q2 : (2 : Int32).toInt = 2 := by decide
  have q3 : (3 : Int32).toInt = 3 := by decide
  have q4 : (4 : Int32).toInt = 4 := by decide
  have q5 : (5 : Int32).toInt = 5 := by decide
  have q6 : (6 : Int32).toInt = 6 := by decide
  have q7 : (7 : Int32).toInt = 7 := by decide
  have q8 : (8 : Int32).toInt = 8 := by decide
  have q9 : (9 : Int32).toInt = 9 := by decide
  have q10 : (10 : Int32).toInt = 10 := by decide
  have q12 : (12 : Int32).toInt = 12 := by decide
  have q16 : (16 : Int32).toInt = 16 := by decide
  have q20 : (20 : Int32).toInt = 20 := by decide
  have q24 : (24 : Int32).toInt = 24 := by decide
  have q30 : (30 : Int32).toInt = 30 := by decide
  have q32 : (32 : Int32).toInt = 32 := by decide
  have q40 : (40 : Int32).toInt = 40 := by decide
  have q60 : (60 : Int32).toInt = 60 := by decide
  have q69 : (69 : Int32).toInt = 69 := by decide
  have q99 : (99 : Int32).toInt = 99 := by decide
  have q9999 : (9999 : Int32).toInt = 9999 := by decide
  have q274 : (274 : Int32).toInt = 274 := by decide
  have q334 : (334 : Int32).toInt = 334 := by decide
  have e66 : F 66 = F0 66 := hM.1 66 (by decide)
  obtain ⟨eP, hP6⟩ := inv_PN hR.2.1.2.2.1
  have nP : (F0 66 11).toInt = (PN (F0 66) : Int) := PN_int hR.2.1.2.2.1
  have q3 : (3 : Int32).toInt = 3 := by decide
  have s1 : (F 66 11 - 1).toInt = (PN (F0 66) : Int) - 1 := sub_any (n := PN (F0 66)) ((congrFun e66 11).trans eP) (by omega) (by decide)
  refine V2.to (l' := [some (.ref 65), some (.int pu), some (.int v), some (.int x), none, none]) ?_ rfl rfl rfl rfl
  refine V2_aload_n (i := 0) d_R_voice_0 rfl rfl ?_
  refine V2_iload_n (i := 1) d_R_voice_1 rfl rfl ?_
  refine V2_callV [.int pu] d_R_voice_2 rfl rfl lk_R_168 mo_R_isPusher (by decide) rfl rfl rfl (Nat.le_of_ble_eq_true rfl) (Nat.le_of_ble_eq_true rfl) ?_
  refine c_R_isPusher ?_
  refine V2_topi (fun v1 ev1 => ?_)
  refine V2_if_eq (tgt := 17) d_R_voice_5 rfl (fun c2 => ?_) (fun c2 => ?_)
  · refine V2_aload_n (i := 0) d_R_voice_17 rfl rfl ?_
    refine V2_iconst (v := 1) d_R_voice_18 rfl ?_
    refine V2_callV [.int (1 : Int32)] d_R_voice_19 rfl rfl lk_R_55 mo_R_error (by decide) rfl rfl rfl (Nat.le_of_ble_eq_true rfl) (Nat.le_of_ble_eq_true rfl) ?_
    refine c_R_error1 ?_
    refine V2_topi (fun v3 ev3 => ?_)
    refine V2_ireturn d_R_voice_22 rfl ?_
    subst ev3 ev1
    exact xQi (hQ _ (rel_err hR hM)) rfl rfl
  · refine V2_iload_n (i := 2) d_R_voice_8 rfl rfl ?_
    refine V2_iconst (v := 0) d_R_voice_9 rfl ?_
    refine V2_iconst (v := 3) d_R_voice_10 rfl ?_
    refine V2_callS [.int v, .int (0 : Int32), .int (3 : Int32)] d_R_voice_11 rfl rfl lk_R_51 mo_R_in (Nat.le_of_ble_eq_true rfl) (Nat.le_of_ble_eq_true rfl) ?_
    refine c_R_in ?_
    refine V2_topi (fun v4 ev4 => ?_)
    refine V2_if_ne (tgt := 23) d_R_voice_14 rfl (fun c5 => ?_) (fun c5 => ?_)
    · exfalso
      exact (by (try clear hQ); (try subst ev4 ev1); ((try simp only [xb_eq, xb_ne, Int32.lt_iff_toInt_lt, Int32.le_iff_toInt_le] at *) <;> (try simp only [← Int32.toInt_inj, true_and, false_and, or_false, false_or, or_true, true_or, and_true, and_false] at *) <;> omega))
    · refine V2_aload_n (i := 0) d_R_voice_17 rfl rfl ?_
      refine V2_iconst (v := 1) d_R_voice_18 rfl ?_
      refine V2_callV [.int (1 : Int32)] d_R_voice_19 rfl rfl lk_R_55 mo_R_error (by decide) rfl rfl rfl (Nat.le_of_ble_eq_true rfl) (Nat.le_of_ble_eq_true rfl) ?_
      refine c_R_error1 ?_
      refine V2_topi (fun v6 ev6 => ?_)
      refine V2_ireturn d_R_voice_22 rfl ?_
      subst ev6 ev4 ev1
      exact xQi (hQ _ (rel_err hR hM)) rfl rfl
/-- both sides of a call: what it answers and leaves is the same -/
def PairX (F : xF) (mc mm : xM) (ac am : List Value) (lc lm : Nat) : Prop := ∃ k : Int32 × xF, (∀ (L : Nat) (xs : Nat → Int32) (d : Nat) (Q : Option Value → xF → Prop), (∀ F1, Mid F F1 k.2 → Q (some (.int k.1)) F1) → V2 L xs (d + 100) mc 0 (xEntry ac lc) [] F Q) ∧ (∀ (L : Nat) (xs : Nat → Int32) (d : Nat) (Q : Option Value → xF → Prop) (F1 : xF), Mid F F1 k.2 → (∀ F2, Rel F2 → Q (some (.int k.1)) F2) → V2 L xs (d + 100) mm 0 (xEntry am lm) [] F1 Q)
theorem pr_told {F : xF} (hR : Rel F) (k : Int32) : PairX F m_P_told m_R_told [.ref 0, .int k] [.ref 65, .int k] 2 2 := by
  exact ⟨k_told F k, fun L xs d Q hQ => c_cls_told hR hQ, fun L xs d Q F1 hM hQ => c_mod_told hR hM hQ⟩
theorem pr_count {F : xF} (hR : Rel F) (w : Int32) : PairX F m_P_count m_R_count [.ref 0, .int w] [.ref 65, .int w] 2 2 := by
  exact ⟨k_count F w, fun L xs d Q hQ => c_cls_count hR hQ, fun L xs d Q F1 hM hQ => c_mod_count hR hM hQ⟩
theorem pr_carIs {F : xF} (hR : Rel F) (k : Int32) : PairX F m_P_carIs m_R_carIs [.ref 0, .int k] [.ref 65, .int k] 2 2 := by
  exact ⟨k_carIs F k, fun L xs d Q hQ => c_cls_carIs hR hQ, fun L xs d Q F1 hM hQ => c_mod_carIs hR hM hQ⟩
theorem pr_park {F : xF} (hR : Rel F) (v : Int32) : PairX F m_P_park m_R_park [.ref 0, .int v] [.ref 65, .int v] 2 2 := by
  exact ⟨k_park F v, fun L xs d Q hQ => c_cls_park hR hQ, fun L xs d Q F1 hM hQ => c_mod_park hR hM hQ⟩
theorem pr_now {F : xF} (hR : Rel F) (w : Int32) : PairX F m_P_now m_R_now [.ref 0, .int w] [.ref 65, .int w] 2 2 := by
  exact ⟨k_now F w, fun L xs d Q hQ => c_cls_now hR hQ, fun L xs d Q F1 hM hQ => c_mod_now hR hM hQ⟩
theorem pr_swing {F : xF} (hR : Rel F) (g : Int32) : PairX F m_P_swing m_R_swing [.ref 0, .int g] [.ref 65, .int g] 2 3 := by
  exact ⟨k_swing F g, fun L xs d Q hQ => c_cls_swing hR hQ, fun L xs d Q F1 hM hQ => c_mod_swing hR hM hQ⟩
theorem pr_leaves {F : xF} (hR : Rel F)  : PairX F m_P_leaves m_R_leaves [.ref 0] [.ref 65] 1 1 := by
  exact ⟨k_leaves F, fun L xs d Q hQ => c_cls_leaves hR hQ, fun L xs d Q F1 hM hQ => c_mod_leaves hR hM hQ⟩
theorem pr_tell {F : xF} (hR : Rel F) (v : Int32) : PairX F m_P_tell m_R_tell [.ref 0, .int v] [.ref 65, .int v] 2 2 := by
  exact ⟨k_tell F v, fun L xs d Q hQ => c_cls_tell hR hQ, fun L xs d Q F1 hM hQ => c_mod_tell hR hM hQ⟩
theorem pr_pusher {F : xF} (hR : Rel F) (km : Int32) : PairX F m_P_pusher m_R_pusher [.ref 0, .int km] [.ref 65, .int km] 2 3 := by
  exact ⟨k_pusher F km, fun L xs d Q hQ => c_cls_pusher hR hQ, fun L xs d Q F1 hM hQ => c_mod_pusher hR hM hQ⟩
theorem pr_become {F : xF} (hR : Rel F) (pu : Int32) (km : Int32) : PairX F m_P_become m_R_become [.ref 0, .int pu, .int km] [.ref 65, .int pu, .int km] 4 3 := by
  exact ⟨k_become F pu km, fun L xs d Q hQ => c_cls_become hR hQ, fun L xs d Q F1 hM hQ => c_mod_become hR hM hQ⟩
theorem pr_as {F : xF} (hR : Rel F) (pu : Int32) (o : Int32) : PairX F m_P_as m_R_as [.ref 0, .int pu, .int o] [.ref 65, .int pu, .int o] 3 4 := by
  exact ⟨k_as F pu o, fun L xs d Q hQ => c_cls_as hR hQ, fun L xs d Q F1 hM hQ => c_mod_as hR hM hQ⟩
theorem pr_pusherIs {F : xF} (hR : Rel F) (pu : Int32) (w : Int32) : PairX F m_P_pusherIs m_R_pusherIs [.ref 0, .int pu, .int w] [.ref 65, .int pu, .int w] 3 3 := by
  exact ⟨k_pusherIs F pu w, fun L xs d Q hQ => c_cls_pusherIs hR hQ, fun L xs d Q F1 hM hQ => c_mod_pusherIs hR hM hQ⟩
theorem pr_shovel {F : xF} (hR : Rel F) (n : Int32) : PairX F m_P_shovel m_R_shovel [.ref 0, .int n] [.ref 65, .int n] 2 2 := by
  exact ⟨k_shovel F n, fun L xs d Q hQ => c_cls_shovel hR hQ, fun L xs d Q F1 hM hQ => c_mod_shovel hR hM hQ⟩
theorem pr_feed {F : xF} (hR : Rel F) (W : Int64) (n : Int32) : PairX F m_P_feed m_R_feed [.ref 0, .long W, .int n] [.ref 65, .long W, .int n] 5 5 := by
  exact ⟨k_feed F W n, fun L xs d Q hQ => c_cls_feed hR hQ, fun L xs d Q F1 hM hQ => c_mod_feed hR hM hQ⟩
theorem pr_image {F : xF} (hR : Rel F)  : PairX F m_P_image m_R_image [.ref 0] [.ref 65] 1 1 := by
  exact ⟨k_image F, fun L xs d Q hQ => c_cls_image hR hQ, fun L xs d Q F1 hM hQ => c_mod_image hR hM hQ⟩
theorem pr_restore {F : xF} (hR : Rel F)  : PairX F m_P_restore m_R_restore [.ref 0] [.ref 65] 1 1 := by
  exact ⟨k_restore F, fun L xs d Q hQ => c_cls_restore hR hQ, fun L xs d Q F1 hM hQ => c_mod_restore hR hM hQ⟩
theorem pr_body {F : xF} (hR : Rel F) (i : Int32) : PairX F m_P_body m_R_body [.ref 0, .int i] [.ref 65, .int i] 2 2 := by
  exact ⟨k_body F i, fun L xs d Q hQ => c_cls_body hR hQ, fun L xs d Q F1 hM hQ => c_mod_body hR hM hQ⟩
theorem pr_sheet {F : xF} (hR : Rel F) (sh : Int32) (b : Int32) (n : Int32) : PairX F m_P_sheet m_R_sheet [.ref 0, .int sh, .int b, .int n] [.ref 65, .int sh, .int b, .int n] 5 5 := by
  exact ⟨k_sheet F sh b n, fun L xs d Q hQ => c_cls_sheet hR hQ, fun L xs d Q F1 hM hQ => c_mod_sheet hR hM hQ⟩
theorem pr_put {F : xF} (hR : Rel F) (sh : Int32) (i : Int32) (v : Int32) : PairX F m_P_put m_R_put [.ref 0, .int sh, .int i, .int v] [.ref 65, .int sh, .int i, .int v] 5 5 := by
  exact ⟨k_put F sh i v, fun L xs d Q hQ => c_cls_put hR hQ, fun L xs d Q F1 hM hQ => c_mod_put hR hM hQ⟩
theorem pr_check {F : xF} (hR : Rel F)  : PairX F m_P_check m_R_check [.ref 0] [.ref 65] 2 3 := by
  exact ⟨k_check F, fun L xs d Q hQ => c_cls_check hR hQ, fun L xs d Q F1 hM hQ => c_mod_check hR hM hQ⟩
theorem pr_levels {F : xF} (hR : Rel F) (sh : Int32) : PairX F m_P_levels m_R_levels [.ref 0, .int sh] [.ref 65, .int sh] 6 4 := by
  exact ⟨k_levels F sh, fun L xs d Q hQ => c_cls_levels hR hQ, fun L xs d Q F1 hM hQ => c_mod_levels hR hM hQ⟩
theorem pr_move {F : xF} (hR : Rel F) (sh : Int32) (i : Int32) (o : Int32) (j : Int32) (n : Int32) : PairX F m_P_move m_R_move [.ref 0, .int sh, .int i, .int o, .int j, .int n] [.ref 65, .int sh, .int i, .int o, .int j, .int n] 8 7 := by
  exact ⟨k_move F sh i o j n, fun L xs d Q hQ => c_cls_move hR hQ, fun L xs d Q F1 hM hQ => c_mod_move hR hM hQ⟩
theorem pr_swings {F : xF} (hR : Rel F) (n : Int32) : PairX F m_P_swings m_R_swings [.ref 0, .int n] [.ref 65, .int n] 3 4 := by
  exact ⟨k_swings F n, fun L xs d Q hQ => c_cls_swings hR hQ, fun L xs d Q F1 hM hQ => c_mod_swings hR hM hQ⟩
theorem pr_steady {F : xF} (hR : Rel F) (g : Int32) : PairX F m_P_steady m_R_steady [.ref 0, .int g] [.ref 65, .int g] 3 3 := by
  exact ⟨k_steady F g, fun L xs d Q hQ => c_cls_steady hR hQ, fun L xs d Q F1 hM hQ => c_mod_steady hR hM hQ⟩
theorem pr_would {F : xF} (hR : Rel F) (g : Int32) (w : Int32) : PairX F m_P_would m_R_would [.ref 0, .int g, .int w] [.ref 65, .int g, .int w] 4 6 := by
  exact ⟨k_would F g w, fun L xs d Q hQ => c_cls_would hR hQ, fun L xs d Q F1 hM hQ => c_mod_would hR hM hQ⟩
theorem pr_least {F : xF} (hR : Rel F)  : PairX F m_P_least m_R_least [.ref 0] [.ref 65] 2 2 := by
  exact ⟨k_least F, fun L xs d Q hQ => c_cls_least hR hQ, fun L xs d Q F1 hM hQ => c_mod_least hR hM hQ⟩
theorem pr_strokes {F : xF} (hR : Rel F) (g : Int32) (n : Int32) : PairX F m_P_strokes m_R_strokes [.ref 0, .int g, .int n] [.ref 65, .int g, .int n] 4 7 := by
  exact ⟨k_strokes F g n, fun L xs d Q hQ => c_cls_strokes hR hQ, fun L xs d Q F1 hM hQ => c_mod_strokes hR hM hQ⟩
theorem pr_deepest {F : xF} (hR : Rel F) (g : Int32) (n : Int32) : PairX F m_P_deepest m_R_deepest [.ref 0, .int g, .int n] [.ref 65, .int g, .int n] 4 6 := by
  exact ⟨k_deepest F g n, fun L xs d Q hQ => c_cls_deepest hR hQ, fun L xs d Q F1 hM hQ => c_mod_deepest hR hM hQ⟩
theorem pr_judge {F : xF} (hR : Rel F) (sh : Int32) : PairX F m_P_judge m_R_judge [.ref 0, .int sh] [.ref 65, .int sh] 5 6 := by
  exact ⟨k_judge F sh, fun L xs d Q hQ => c_cls_judge hR hQ, fun L xs d Q F1 hM hQ => c_mod_judge hR hM hQ⟩
theorem pr_crew {F : xF} (hR : Rel F) (g : Int32) (n : Int32) (w : Int32) : PairX F m_P_crew m_R_crew [.ref 0, .int g, .int n, .int w] [.ref 65, .int g, .int n, .int w] 5 6 := by
  exact ⟨k_crew F g n w, fun L xs d Q hQ => c_cls_crew hR hQ, fun L xs d Q F1 hM hQ => c_mod_crew hR hM hQ⟩
theorem pr_odds {F : xF} (hR : Rel F) (n : Int32) (w : Int32) : PairX F m_P_odds m_R_odds [.ref 0, .int n, .int w] [.ref 65, .int n, .int w] 6 6 := by
  exact ⟨k_odds F n w, fun L xs d Q hQ => c_cls_odds hR hQ, fun L xs d Q F1 hM hQ => c_mod_odds hR hM hQ⟩
theorem pr_fits {F : xF} (hR : Rel F) (sh : Int32) (w : Int32) : PairX F m_P_fits m_R_fits [.ref 0, .int sh, .int w] [.ref 65, .int sh, .int w] 5 9 := by
  exact ⟨k_fits F sh w, fun L xs d Q hQ => c_cls_fits hR hQ, fun L xs d Q F1 hM hQ => c_mod_fits hR hM hQ⟩
theorem pr_plan {F : xF} (hR : Rel F) (n : Int32) (w : Int32) : PairX F m_P_plan m_R_plan [.ref 0, .int n, .int w] [.ref 65, .int n, .int w] 3 10 := by
  exact ⟨k_plan F n w, fun L xs d Q hQ => c_cls_plan hR hQ, fun L xs d Q F1 hM hQ => c_mod_plan hR hM hQ⟩
theorem pr_seed {F : xF} (hR : Rel F) (v : Int32) : PairX F m_P_seed m_R_seed [.ref 0, .int v] [.ref 65, .int v] 3 2 := by
  exact ⟨(F 66 8, xp F 66 8 v), fun L xs d Q hQ => c_cls_seed hR hQ, fun L xs d Q F1 hM hQ => c_mod_seed hR hM hQ⟩
theorem pr_car {F : xF} (hR : Rel F) (w : Int32) (v : Int32) : PairX F m_P_car m_R_car [.ref 0, .int w, .int v] [.ref 65, .int w, .int v] 4 3 := by
  by_cases h0 : w = 0
  · subst h0
    exact ⟨k_car F 0 v, fun L xs d Q hQ => c_cls_car0 hR hQ, fun L xs d Q F1 hM hQ => c_mod_car0 hR hM hQ⟩
  by_cases h1 : w = 1
  · subst h1
    exact ⟨k_car F 1 v, fun L xs d Q hQ => c_cls_car1 hR hQ, fun L xs d Q F1 hM hQ => c_mod_car1 hR hM hQ⟩
  by_cases h2 : w = 2
  · subst h2
    exact ⟨k_car F 2 v, fun L xs d Q hQ => c_cls_car2 hR hQ, fun L xs d Q F1 hM hQ => c_mod_car2 hR hM hQ⟩
  by_cases h3 : w = 3
  · subst h3
    exact ⟨k_car F 3 v, fun L xs d Q hQ => c_cls_car3 hR hQ, fun L xs d Q F1 hM hQ => c_mod_car3 hR hM hQ⟩
  by_cases h4 : w = 4
  · subst h4
    exact ⟨k_car F 4 v, fun L xs d Q hQ => c_cls_car4 hR hQ, fun L xs d Q F1 hM hQ => c_mod_car4 hR hM hQ⟩
  have hw : ¬ (0 ≤ w ∧ w ≤ 4) := by
    intro h
    rw [toI_le, toI_le] at h
    have q0 : (0 : Int32).toInt = 0 := by decide
    have q1 : (1 : Int32).toInt = 1 := by decide
    have q2 : (2 : Int32).toInt = 2 := by decide
    have q3 : (3 : Int32).toInt = 3 := by decide
    have q4 : (4 : Int32).toInt = 4 := by decide
    rw [← Int32.toInt_inj] at h0 h1 h2 h3 h4
    omega
  exact ⟨k_car F w v, fun L xs d Q hQ => c_cls_car5 hR hw hQ, fun L xs d Q F1 hM hQ => c_mod_car5 hR hM hw hQ⟩
theorem pr_law {F : xF} (hR : Rel F) (u : Int32) (a : Int32) (b : Int32) (c : Int32) : PairX F m_P_law m_R_law [.ref 0, .int u, .int a, .int b, .int c] [.ref 65, .int u, .int a, .int b, .int c] 5 5 := by
  by_cases h0 : u = 0
  · subst h0
    exact ⟨k_law F 0 a b c, fun L xs d Q hQ => c_cls_law0 hR hQ, fun L xs d Q F1 hM hQ => c_mod_law0 hR hM hQ⟩
  by_cases h1 : u = 1
  · subst h1
    exact ⟨k_law F 1 a b c, fun L xs d Q hQ => c_cls_law1 hR hQ, fun L xs d Q F1 hM hQ => c_mod_law1 hR hM hQ⟩
  have hu : ¬ (0 ≤ u ∧ u ≤ 1) := by
    intro h
    rw [toI_le, toI_le] at h
    have q0 : (0 : Int32).toInt = 0 := by decide
    have q1 : (1 : Int32).toInt = 1 := by decide
    rw [← Int32.toInt_inj] at h0 h1
    omega
  exact ⟨k_law F u a b c, fun L xs d Q hQ => c_cls_law2 hR hu hQ, fun L xs d Q F1 hM hQ => c_mod_law2 hR hM hu hQ⟩
theorem pr_untell {F : xF} (hR : Rel F) (u : Int32) : PairX F m_P_untell m_R_untell [.ref 0, .int u] [.ref 65, .int u] 2 3 := by
  by_cases h0 : u = 0
  · subst h0
    exact ⟨k_untell F 0, fun L xs d Q hQ => c_cls_untell0 hR hQ, fun L xs d Q F1 hM hQ => c_mod_untell0 hR hM hQ⟩
  by_cases h1 : u = 1
  · subst h1
    exact ⟨k_untell F 1, fun L xs d Q hQ => c_cls_untell1 hR hQ, fun L xs d Q F1 hM hQ => c_mod_untell1 hR hM hQ⟩
  exact ⟨k_untell F u, fun L xs d Q hQ => c_cls_untell2 hR h0 h1 hQ, fun L xs d Q F1 hM hQ => c_mod_untell2 hR hM h0 h1 hQ⟩
theorem pr_text {F : xF} (hR : Rel F) (u : Int32) : PairX F m_P_text m_R_text [.ref 0, .int u] [.ref 65, .int u] 3 5 := by
  by_cases h0 : u = 0
  · subst h0
    exact ⟨k_text F 0, fun L xs d Q hQ => c_cls_text0 hR hQ, fun L xs d Q F1 hM hQ => c_mod_text0 hR hM hQ⟩
  by_cases h1 : u = 1
  · subst h1
    exact ⟨k_text F 1, fun L xs d Q hQ => c_cls_text1 hR hQ, fun L xs d Q F1 hM hQ => c_mod_text1 hR hM hQ⟩
  exact ⟨k_text F u, fun L xs d Q hQ => c_cls_text2 hR h0 h1 hQ, fun L xs d Q F1 hM hQ => c_mod_text2 hR hM h0 h1 hQ⟩
theorem pr_voice {F : xF} (hR : Rel F) (pu : Int32) (v : Int32) (x : Int32) : PairX F m_P_voice m_R_voice [.ref 0, .int pu, .int v, .int x] [.ref 65, .int pu, .int v, .int x] 5 6 := by
  by_cases hb : (0 ≤ pu.toInt ∧ pu.toInt < (PN (F 66) : Int)) ∧ 0 ≤ v.toInt ∧ v.toInt ≤ 3
  · obtain ⟨⟨ha, hb2⟩, hc, hd⟩ := hb
    obtain ⟨eP, hP6⟩ := inv_PN hR.2.1.2.2.1
    obtain ⟨p, hp, rfl⟩ := in_of ha hb2 (by omega)
    obtain ⟨P9, hP9, eP9, hkl⟩ := hR.2.1.2.2.1
    have e9 : PN (F 66) = P9 := by
      unfold PN
      rw [eP9]
      exact nI_clamp (by omega)
    have hk := kind7 (hkl p (by omega)).1
    have hv : v = 0 ∨ v = 1 ∨ v = 2 ∨ v = 3 := by
      have q0 : (0 : Int32).toInt = 0 := by decide
      have q1 : (1 : Int32).toInt = 1 := by decide
      have q2 : (2 : Int32).toInt = 2 := by decide
      have q3 : (3 : Int32).toInt = 3 := by decide
      rw [← Int32.toInt_inj, ← Int32.toInt_inj, ← Int32.toInt_inj, ← Int32.toInt_inj]
      omega
    rcases hv with rfl | rfl | rfl | rfl
    · rcases hk with ek | ek | ek | ek | ek | ek | ek
      · exact ⟨((x + nI p), traceG F 1 (fun i => ([10] : List Int32).getD i 0)), fun L xs d Q hQ => c_cv_0_0 hR hp ek rfl hQ, fun L xs d Q F1 hM hQ => c_mv_0_0 hR hp ek rfl hM hQ⟩
      · exact ⟨(((x + nI p) - 4), traceG F 2 (fun i => ([20, 10] : List Int32).getD i 0)), fun L xs d Q hQ => c_cv_1_0 hR hp ek rfl hQ, fun L xs d Q F1 hM hQ => c_mv_1_0 hR hp ek rfl hM hQ⟩
      · exact ⟨((x + nI p), traceG F 1 (fun i => ([10] : List Int32).getD i 0)), fun L xs d Q hQ => c_cv_2_0 hR hp ek rfl hQ, fun L xs d Q F1 hM hQ => c_mv_2_0 hR hp ek rfl hM hQ⟩
      · exact ⟨((x + nI p), traceG F 1 (fun i => ([10] : List Int32).getD i 0)), fun L xs d Q hQ => c_cv_3_0 hR hp ek rfl hQ, fun L xs d Q F1 hM hQ => c_mv_3_0 hR hp ek rfl hM hQ⟩
      · exact ⟨((((x + nI p) - 4) * 3), traceG F 3 (fun i => ([50, 20, 10] : List Int32).getD i 0)), fun L xs d Q hQ => c_cv_4_0 hR hp ek rfl hQ, fun L xs d Q F1 hM hQ => c_mv_4_0 hR hp ek rfl hM hQ⟩
      · exact ⟨((x + nI p), traceG F 1 (fun i => ([10] : List Int32).getD i 0)), fun L xs d Q hQ => c_cv_5_0 hR hp ek rfl hQ, fun L xs d Q F1 hM hQ => c_mv_5_0 hR hp ek rfl hM hQ⟩
      · exact ⟨(9, traceG F 1 (fun i => ([70] : List Int32).getD i 0)), fun L xs d Q hQ => c_cv_6_0 hR hp ek rfl hQ, fun L xs d Q F1 hM hQ => c_mv_6_0 hR hp ek rfl hM hQ⟩
    · rcases hk with ek | ek | ek | ek | ek | ek | ek
      · exact ⟨(((x + nI p) * 2), traceG F 2 (fun i => ([11, 10] : List Int32).getD i 0)), fun L xs d Q hQ => c_cv_0_1 hR hp ek rfl hQ, fun L xs d Q F1 hM hQ => c_mv_0_1 hR hp ek rfl hM hQ⟩
      · exact ⟨((((x + nI p) - 4) * 2), traceG F 3 (fun i => ([11, 20, 10] : List Int32).getD i 0)), fun L xs d Q hQ => c_cv_1_1 hR hp ek rfl hQ, fun L xs d Q F1 hM hQ => c_mv_1_1 hR hp ek rfl hM hQ⟩
      · exact ⟨((0 - ((x + nI p) * 2)), traceG F 3 (fun i => ([30, 11, 10] : List Int32).getD i 0)), fun L xs d Q hQ => c_cv_2_1 hR hp ek rfl hQ, fun L xs d Q F1 hM hQ => c_mv_2_1 hR hp ek rfl hM hQ⟩
      · exact ⟨(((x + nI p) * 2), traceG F 2 (fun i => ([11, 10] : List Int32).getD i 0)), fun L xs d Q hQ => c_cv_3_1 hR hp ek rfl hQ, fun L xs d Q F1 hM hQ => c_mv_3_1 hR hp ek rfl hM hQ⟩
      · exact ⟨(((((x + nI p) - 4) * 3) * 2), traceG F 4 (fun i => ([11, 50, 20, 10] : List Int32).getD i 0)), fun L xs d Q hQ => c_cv_4_1 hR hp ek rfl hQ, fun L xs d Q F1 hM hQ => c_mv_4_1 hR hp ek rfl hM hQ⟩
      · exact ⟨((0 - (((x + 1) + nI p) * 2)), traceG F 4 (fun i => ([60, 30, 11, 10] : List Int32).getD i 0)), fun L xs d Q hQ => c_cv_5_1 hR hp ek rfl hQ, fun L xs d Q F1 hM hQ => c_mv_5_1 hR hp ek rfl hM hQ⟩
      · exact ⟨(((9 * 2) + F 66 (12 + 2 * p + 1)), traceG F 3 (fun i => ([71, 11, 70] : List Int32).getD i 0)), fun L xs d Q hQ => c_cv_6_1 hR hp ek rfl hQ, fun L xs d Q F1 hM hQ => c_mv_6_1 hR hp ek rfl hM hQ⟩
    · rcases hk with ek | ek | ek | ek | ek | ek | ek
      · exact ⟨((((x + nI p) * 2) - F 66 (12 + 2 * p + 1)), traceG F 3 (fun i => ([12, 11, 10] : List Int32).getD i 0)), fun L xs d Q hQ => c_cv_0_2 hR hp ek rfl hQ, fun L xs d Q F1 hM hQ => c_mv_0_2 hR hp ek rfl hM hQ⟩
      · exact ⟨(((((x + nI p) - 4) * 2) - F 66 (12 + 2 * p + 1)), traceG F 4 (fun i => ([12, 11, 20, 10] : List Int32).getD i 0)), fun L xs d Q hQ => c_cv_1_2 hR hp ek rfl hQ, fun L xs d Q F1 hM hQ => c_mv_1_2 hR hp ek rfl hM hQ⟩
      · exact ⟨(((0 - ((x + nI p) * 2)) - F 66 (12 + 2 * p + 1)), traceG F 4 (fun i => ([12, 30, 11, 10] : List Int32).getD i 0)), fun L xs d Q hQ => c_cv_2_2 hR hp ek rfl hQ, fun L xs d Q F1 hM hQ => c_mv_2_2 hR hp ek rfl hM hQ⟩
      · exact ⟨(((((x / 2) + nI p) * 2) - F 66 (12 + 2 * p + 1)), traceG F 4 (fun i => ([40, 12, 11, 10] : List Int32).getD i 0)), fun L xs d Q hQ => c_cv_3_2 hR hp ek rfl hQ, fun L xs d Q F1 hM hQ => c_mv_3_2 hR hp ek rfl hM hQ⟩
      · exact ⟨(((((((x + nI p) - 4) * 3) * 2) - F 66 (12 + 2 * p + 1)) ^^^ nI p), traceG F 6 (fun i => ([51, 12, 11, 50, 20, 10] : List Int32).getD i 0)), fun L xs d Q hQ => c_cv_4_2 hR hp ek rfl hQ, fun L xs d Q F1 hM hQ => c_mv_4_2 hR hp ek rfl hM hQ⟩
      · exact ⟨(((0 - (((x + 1) + nI p) * 2)) - F 66 (12 + 2 * p + 1)), traceG F 5 (fun i => ([12, 60, 30, 11, 10] : List Int32).getD i 0)), fun L xs d Q hQ => c_cv_5_2 hR hp ek rfl hQ, fun L xs d Q F1 hM hQ => c_mv_5_2 hR hp ek rfl hM hQ⟩
      · exact ⟨((((9 * 2) + F 66 (12 + 2 * p + 1)) - F 66 (12 + 2 * p + 1)), traceG F 4 (fun i => ([12, 71, 11, 70] : List Int32).getD i 0)), fun L xs d Q hQ => c_cv_6_2 hR hp ek rfl hQ, fun L xs d Q F1 hM hQ => c_mv_6_2 hR hp ek rfl hM hQ⟩
    · rcases hk with ek | ek | ek | ek | ek | ek | ek
      · by_cases hz : F 66 (12 + 2 * p + 1) - nI p = 0
        · exact ⟨(-1000000000 - 6, errF (traceG F 1 (fun i => ([13] : List Int32).getD i 0)) 6), fun L xs d Q hQ => c_cv_0_3z hR hp ek rfl hz hQ, fun L xs d Q F1 hM hQ => c_mv_0_3z hR hp ek rfl hz hM hQ⟩
        · exact ⟨((x / (F 66 (12 + 2 * p + 1) - nI p)), traceG F 1 (fun i => ([13] : List Int32).getD i 0)), fun L xs d Q hQ => c_cv_0_3 hR hp ek rfl hz hQ, fun L xs d Q F1 hM hQ => c_mv_0_3 hR hp ek rfl hz hM hQ⟩
      · by_cases hz : F 66 (12 + 2 * p + 1) - nI p = 0
        · exact ⟨(-1000000000 - 6, errF (traceG F 2 (fun i => ([21, 13] : List Int32).getD i 0)) 6), fun L xs d Q hQ => c_cv_1_3z hR hp ek rfl hz hQ, fun L xs d Q F1 hM hQ => c_mv_1_3z hR hp ek rfl hz hM hQ⟩
        · exact ⟨(((x / (F 66 (12 + 2 * p + 1) - nI p)) + (((1 + nI p) - 4) * 2)), traceG F 5 (fun i => ([21, 13, 11, 20, 10] : List Int32).getD i 0)), fun L xs d Q hQ => c_cv_1_3 hR hp ek rfl hz hQ, fun L xs d Q F1 hM hQ => c_mv_1_3 hR hp ek rfl hz hM hQ⟩
      · by_cases hz : F 66 (12 + 2 * p + 1) - nI p = 0
        · exact ⟨(-1000000000 - 6, errF (traceG F 1 (fun i => ([13] : List Int32).getD i 0)) 6), fun L xs d Q hQ => c_cv_2_3z hR hp ek rfl hz hQ, fun L xs d Q F1 hM hQ => c_mv_2_3z hR hp ek rfl hz hM hQ⟩
        · exact ⟨((x / (F 66 (12 + 2 * p + 1) - nI p)), traceG F 1 (fun i => ([13] : List Int32).getD i 0)), fun L xs d Q hQ => c_cv_2_3 hR hp ek rfl hz hQ, fun L xs d Q F1 hM hQ => c_mv_2_3 hR hp ek rfl hz hM hQ⟩
      · by_cases hz : F 66 (12 + 2 * p + 1) - nI p = 0
        · exact ⟨(-1000000000 - 6, errF (traceG F 1 (fun i => ([13] : List Int32).getD i 0)) 6), fun L xs d Q hQ => c_cv_3_3z hR hp ek rfl hz hQ, fun L xs d Q F1 hM hQ => c_mv_3_3z hR hp ek rfl hz hM hQ⟩
        · exact ⟨((x / (F 66 (12 + 2 * p + 1) - nI p)), traceG F 1 (fun i => ([13] : List Int32).getD i 0)), fun L xs d Q hQ => c_cv_3_3 hR hp ek rfl hz hQ, fun L xs d Q F1 hM hQ => c_mv_3_3 hR hp ek rfl hz hM hQ⟩
      · by_cases hz : F 66 (12 + 2 * p + 1) - nI p = 0
        · exact ⟨(-1000000000 - 6, errF (traceG F 2 (fun i => ([21, 13] : List Int32).getD i 0)) 6), fun L xs d Q hQ => c_cv_4_3z hR hp ek rfl hz hQ, fun L xs d Q F1 hM hQ => c_mv_4_3z hR hp ek rfl hz hM hQ⟩
        · exact ⟨(((x / (F 66 (12 + 2 * p + 1) - nI p)) + ((((1 + nI p) - 4) * 3) * 2)), traceG F 6 (fun i => ([21, 13, 11, 50, 20, 10] : List Int32).getD i 0)), fun L xs d Q hQ => c_cv_4_3 hR hp ek rfl hz hQ, fun L xs d Q F1 hM hQ => c_mv_4_3 hR hp ek rfl hz hM hQ⟩
      · by_cases hz : F 66 (12 + 2 * p + 1) - nI p = 0
        · exact ⟨(-1000000000 - 6, errF (traceG F 1 (fun i => ([13] : List Int32).getD i 0)) 6), fun L xs d Q hQ => c_cv_5_3z hR hp ek rfl hz hQ, fun L xs d Q F1 hM hQ => c_mv_5_3z hR hp ek rfl hz hM hQ⟩
        · exact ⟨((x / (F 66 (12 + 2 * p + 1) - nI p)), traceG F 1 (fun i => ([13] : List Int32).getD i 0)), fun L xs d Q hQ => c_cv_5_3 hR hp ek rfl hz hQ, fun L xs d Q F1 hM hQ => c_mv_5_3 hR hp ek rfl hz hM hQ⟩
      · by_cases hz : F 66 (12 + 2 * p + 1) - nI p = 0
        · exact ⟨(-1000000000 - 6, errF (traceG F 1 (fun i => ([13] : List Int32).getD i 0)) 6), fun L xs d Q hQ => c_cv_6_3z hR hp ek rfl hz hQ, fun L xs d Q F1 hM hQ => c_mv_6_3z hR hp ek rfl hz hM hQ⟩
        · exact ⟨((x / (F 66 (12 + 2 * p + 1) - nI p)), traceG F 1 (fun i => ([13] : List Int32).getD i 0)), fun L xs d Q hQ => c_cv_6_3 hR hp ek rfl hz hQ, fun L xs d Q F1 hM hQ => c_mv_6_3 hR hp ek rfl hz hM hQ⟩
  · exact ⟨(-1000000000 - 1, errF F 1), fun L xs d Q hQ => c_cv_bad hR hb hQ, fun L xs d Q F1 hM hQ => c_mv_bad hR hM hb hQ⟩
