/-! voices of kinds 0 .. 1 -/
theorem c_cv_0_0 {L : Nat} {xs : Nat → Int32} {d : Nat} {Q : Option Value → xF → Prop} {F : xF} {p : Nat} {x mm : Int32} (hR : Rel F) (hp : p < PN (F 66)) (ek : F 66 (12 + 2 * p) = 0) (em : F 66 (12 + 2 * p + 1) = mm) (hQ : ∀ F1, Mid F F1 (traceG F 1 (fun i => ([10] : List Int32).getD i 0)) → Q (some (.int (x + nI p))) F1) : V2 L xs (d + 40) m_P_voice 0 (xEntry [.ref 0, .int (nI p), .int (0 : Int32), .int x] 5) [] F Q := by
  obtain ⟨eP, hP6⟩ := inv_PN hR.2.1.2.2.1
  refine V2.to (l' := [some (.ref 0), some (.int (nI p)), some (.int (0 : Int32)), some (.int x), none]) ?_ rfl rfl rfl rfl
  refine V2_aload_n (i := 0) d_P_voice_0 rfl rfl ?_
  refine V2_getr (a := 1) d_P_voice_1 fl_P_10 (by decide) rfl (by decide) rfl ?_
  refine V2_getr (a := 3) d_P_voice_4 fl_P_70 (by decide) rfl (by decide) rfl ?_
  refine V2_iload_n (i := 1) d_P_voice_7 rfl rfl ?_
  refine V2_callV [.int (nI p)] d_P_voice_8 rfl rfl lk_P_84 mo_Push_has (by decide) rfl rfl rfl (Nat.le_of_ble_eq_true rfl) (Nat.le_of_ble_eq_true rfl) ?_
  refine c_Push_has (P := PN (F 66)) (hR.1.1.2.1.1.trans eP) hP6 ?_
  refine V2_topi (fun v1 ev1 => ?_)
  refine V2_if_eq (tgt := 21) d_P_voice_11 rfl (fun c2 => (by first | exact absurd c2 (show ¬ v1 = 0 from by subst ev1; exact xb_ne.mpr ⟨nI_pos' (by omega), by rw [hR.1.1.2.1.1, eP]; exact nI_lt hp (by omega)⟩) | exact absurd (show ¬ v1 = 0 from by subst ev1; exact xb_ne.mpr ⟨nI_pos' (by omega), by rw [hR.1.1.2.1.1, eP]; exact nI_lt hp (by omega)⟩) c2)) (fun c2 => ?_)
  refine V2_iload_n (i := 2) d_P_voice_14 rfl rfl ?_
  refine V2_callS [.int (0 : Int32)] d_P_voice_15 rfl rfl lk_P_290 mo_Voi_isVoice (Nat.le_of_ble_eq_true rfl) (Nat.le_of_ble_eq_true rfl) ?_
  refine V2.to (l' := [some (.int (0 : Int32))]) ?_ rfl rfl rfl rfl
  refine V2_iload_n (i := 0) d_Voi_isVoice_0 rfl rfl ?_
  refine V2_if_lt (tgt := 13) d_Voi_isVoice_1 rfl (fun c => (by first | exact absurd c (by decide) | exact absurd (by decide) c)) (fun _ => ?_)
  refine V2_iload_n (i := 0) d_Voi_isVoice_4 rfl rfl ?_
  refine V2_iconst (v := 4) d_Voi_isVoice_5 rfl ?_
  refine V2_icmp_ge (tgt := 13) d_Voi_isVoice_6 rfl (fun c => (by first | exact absurd c (by decide) | exact absurd (by decide) c)) (fun _ => ?_)
  refine V2_iconst (v := 1) d_Voi_isVoice_9 rfl ?_
  refine V2_goto (tgt := 14) d_Voi_isVoice_10 rfl ?_
  refine V2_zreturn d_Voi_isVoice_14 rfl (by decide) ?_
  refine V2.to (st' := [.int (1 : Int32)]) ?_ rfl rfl rfl rfl
  refine V2_if_ne (tgt := 27) d_P_voice_18 rfl (fun _ => ?_) (fun c => (by first | exact absurd c (by decide) | exact absurd (by decide) c))
  refine V2_aload_n (i := 0) d_P_voice_27 rfl rfl ?_
  refine V2_getr (a := 1) d_P_voice_28 fl_P_10 (by decide) rfl (by decide) rfl ?_
  refine V2_getr (a := 3) d_P_voice_31 fl_P_70 (by decide) rfl (by decide) rfl ?_
  refine V2_iload_n (i := 1) d_P_voice_34 rfl rfl ?_
  refine V2_callV [.int (nI p)] d_P_voice_35 rfl rfl lk_P_87 mo_Push_kindOf (by decide) rfl rfl rfl (Nat.le_of_ble_eq_true rfl) (Nat.le_of_ble_eq_true rfl) ?_
  refine c_Push_kindOf (P := PN (F 66)) (hR.1.1.2.1.1.trans eP) (hR.1.1.2.1.2.1.trans eP) hP6 hp ?_
  refine V2_lit (v := 0) (((rel_relP hR).2.2.2 p hp).1.trans ek) ?_
  refine V2_istore (i := 4) (l' := [some (.ref 0), some (.int (nI p)), some (.int (0 : Int32)), some (.int x), some (.int (0 : Int32))]) d_P_voice_38 (xst_i (Nat.le_of_ble_eq_true rfl) rfl rfl) ?_
  refine V2_aload_n (i := 0) d_P_voice_40 rfl rfl ?_
  refine V2_getr (a := 52) d_P_voice_41 fl_P_43 (by decide) rfl (by decide) rfl ?_
  refine V2_iload (i := 4) d_P_voice_44 rfl ?_
  refine V2_iload_n (i := 1) d_P_voice_46 rfl rfl ?_
  refine V2_aload_n (i := 0) d_P_voice_47 rfl rfl ?_
  refine V2_getr (a := 1) d_P_voice_48 fl_P_10 (by decide) rfl (by decide) rfl ?_
  refine V2_getr (a := 3) d_P_voice_51 fl_P_70 (by decide) rfl (by decide) rfl ?_
  refine V2_iload_n (i := 1) d_P_voice_54 rfl rfl ?_
  refine V2_callV [.int (nI p)] d_P_voice_55 rfl rfl lk_P_90 mo_Push_levelOf (by decide) rfl rfl rfl (Nat.le_of_ble_eq_true rfl) (Nat.le_of_ble_eq_true rfl) ?_
  refine c_Push_levelOf (P := PN (F 66)) (hR.1.1.2.1.1.trans eP) (hR.1.1.2.1.2.1.trans eP) hP6 hp ?_
  refine V2_lit (v := mm) (((rel_relP hR).2.2.2 p hp).2.trans em) ?_
  refine V2_iload_n (i := 2) d_P_voice_58 rfl rfl ?_
  refine V2_iload_n (i := 3) d_P_voice_59 rfl rfl ?_
  refine V2_callV [.int (0 : Int32), .int (nI p), .int mm, .int (0 : Int32), .int x] d_P_voice_60 rfl rfl lk_P_293 mo_Voi_speaks (by decide) rfl rfl rfl (Nat.le_of_ble_eq_true rfl) (Nat.le_of_ble_eq_true rfl) ?_
  refine V2.to (l' := [some (.ref 52), some (.int (0 : Int32)), some (.int (nI p)), some (.int mm), some (.int (0 : Int32)), some (.int x)]) ?_ rfl rfl rfl rfl
  refine V2_aload_n (i := 0) d_Voi_speaks_0 rfl rfl ?_
  refine V2_iload_n (i := 1) d_Voi_speaks_1 rfl rfl ?_
  refine V2_put d_Voi_speaks_2 fl_Voi_18 (by decide) rfl (by decide) rfl ?_
  refine V2_aload_n (i := 0) d_Voi_speaks_5 rfl rfl ?_
  refine V2_iload_n (i := 2) d_Voi_speaks_6 rfl rfl ?_
  refine V2_put d_Voi_speaks_7 fl_Voi_22 (by decide) rfl (by decide) rfl ?_
  refine V2_aload_n (i := 0) d_Voi_speaks_10 rfl rfl ?_
  refine V2_iload_n (i := 3) d_Voi_speaks_11 rfl rfl ?_
  refine V2_put d_Voi_speaks_12 fl_Voi_25 (by decide) rfl (by decide) rfl ?_
  refine V2_aload_n (i := 0) d_Voi_speaks_15 rfl rfl ?_
  refine V2_iconst (v := 0) d_Voi_speaks_16 rfl ?_
  refine V2_putz d_Voi_speaks_17 fl_Voi_31 (by decide) rfl (by decide) rfl (by decide) ?_
  refine V2_aload_n (i := 0) d_Voi_speaks_20 rfl rfl ?_
  refine V2_getr (a := 53) d_Voi_speaks_21 fl_Voi_14 (by decide) rfl (by decide) rfl ?_
  refine V2_callV [] d_Voi_speaks_24 rfl rfl lk_Voi_35 mo_Nums_empty (by decide) rfl rfl rfl (Nat.le_of_ble_eq_true rfl) (Nat.le_of_ble_eq_true rfl) ?_
  refine V2.to (l' := [some (.ref 53)]) ?_ rfl rfl rfl rfl
  refine V2_aload_n (i := 0) d_Nums_empty_0 rfl rfl ?_
  refine V2_iconst (v := 0) d_Nums_empty_1 rfl ?_
  refine V2_put d_Nums_empty_2 fl_Nums_7 (by decide) rfl (by decide) rfl ?_
  refine V2_return d_Nums_empty_5 rfl ?_
  refine V2.to (st' := []) ?_ rfl rfl rfl rfl
  refine V2_aload_n (i := 0) d_Voi_speaks_27 rfl rfl ?_
  refine V2_aload_n (i := 0) d_Voi_speaks_28 rfl rfl ?_
  refine V2_aload_n (i := 0) d_Voi_speaks_29 rfl rfl ?_
  refine V2_get (v := (0 : Int32)) d_Voi_speaks_30 fl_Voi_18 (by decide) rfl (by decide) rfl rfl ?_
  refine V2_iload (i := 4) d_Voi_speaks_33 rfl ?_
  refine V2_iload (i := 5) d_Voi_speaks_35 rfl ?_
  refine V2_iconst (v := 0) d_Voi_speaks_37 rfl ?_
  refine V2_callV [.int (0 : Int32), .int (0 : Int32), .int x, .int (0 : Int32)] d_Voi_speaks_38 rfl rfl lk_Voi_38 mo_Voi_says (by decide) rfl rfl rfl (Nat.le_of_ble_eq_true rfl) (Nat.le_of_ble_eq_true rfl) ?_
  refine V2.to (l' := [some (.ref 52), some (.int (0 : Int32)), some (.int (0 : Int32)), some (.int x), some (.int (0 : Int32)), none]) ?_ rfl rfl rfl rfl
  refine V2_iload_n (i := 1) d_Voi_says_0 rfl rfl ?_
  refine V2_iload_n (i := 2) d_Voi_says_1 rfl rfl ?_
  refine V2_callS [.int (0 : Int32), .int (0 : Int32)] d_Voi_says_2 rfl rfl lk_Voi_42 mo_Voi_bodyFrom (Nat.le_of_ble_eq_true rfl) (Nat.le_of_ble_eq_true rfl) ?_
  refine V2.to (l' := [some (.int (0 : Int32)), some (.int (0 : Int32)), none, none, none]) ?_ rfl rfl rfl rfl
  refine V2_iload_n (i := 0) d_Voi_bodyFrom_0 rfl rfl ?_
  refine V2_istore_n (i := 2) (l' := [some (.int (0 : Int32)), some (.int (0 : Int32)), some (.int (0 : Int32)), none, none]) d_Voi_bodyFrom_1 rfl (xst_i (Nat.le_of_ble_eq_true rfl) rfl rfl) ?_
  refine V2_iconst (v := 0) d_Voi_bodyFrom_2 rfl ?_
  refine V2_istore_n (i := 3) (l' := [some (.int (0 : Int32)), some (.int (0 : Int32)), some (.int (0 : Int32)), some (.int (0 : Int32)), none]) d_Voi_bodyFrom_3 rfl (xst_i (Nat.le_of_ble_eq_true rfl) rfl rfl) ?_
  refine V2_iload_n (i := 3) d_Voi_bodyFrom_4 rfl rfl ?_
  refine V2_getsB d_Voi_bodyFrom_5 gs_Voi_53 ?_
  refine V2_bodieslen d_Voi_bodyFrom_8 ?_
  refine V2_icmp_ge (tgt := 45) d_Voi_bodyFrom_9 rfl (fun c => (by first | exact absurd c (by decide) | exact absurd (by decide) c)) (fun _ => ?_)
  refine V2_iload_n (i := 2) d_Voi_bodyFrom_12 rfl rfl ?_
  refine V2_if_lt (tgt := 45) d_Voi_bodyFrom_13 rfl (fun c => (by first | exact absurd c (by decide) | exact absurd (by decide) c)) (fun _ => ?_)
  refine V2_iload_n (i := 2) d_Voi_bodyFrom_16 rfl rfl ?_
  refine V2_iconst (v := 4) d_Voi_bodyFrom_17 rfl ?_
  refine V2_imul d_Voi_bodyFrom_18 ?_
  refine V2_lit (v := 0) (by decide) ?_
  refine V2_iload_n (i := 1) d_Voi_bodyFrom_19 rfl rfl ?_
  refine V2_iadd d_Voi_bodyFrom_20 ?_
  refine V2_lit (v := 0) (by decide) ?_
  refine V2_callS [.int (0 : Int32)] d_Voi_bodyFrom_21 rfl rfl lk_Voi_57 mo_Voi_bodyAt (Nat.le_of_ble_eq_true rfl) (Nat.le_of_ble_eq_true rfl) ?_
  refine V2.to (l' := [some (.int (0 : Int32))]) ?_ rfl rfl rfl rfl
  refine V2_iload_n (i := 0) d_Voi_bodyAt_0 rfl rfl ?_
  refine V2_if_lt (tgt := 20) d_Voi_bodyAt_1 rfl (fun c => (by first | exact absurd c (by decide) | exact absurd (by decide) c)) (fun _ => ?_)
  refine V2_iload_n (i := 0) d_Voi_bodyAt_4 rfl rfl ?_
  refine V2_getsB d_Voi_bodyAt_5 gs_Voi_53 ?_
  refine V2_bodieslen d_Voi_bodyAt_8 ?_
  refine V2_icmp_ge (tgt := 20) d_Voi_bodyAt_9 rfl (fun c => (by first | exact absurd c (by decide) | exact absurd (by decide) c)) (fun _ => ?_)
  refine V2_getsB d_Voi_bodyAt_12 gs_Voi_53 ?_
  refine V2_iload_n (i := 0) d_Voi_bodyAt_15 rfl rfl ?_
  refine V2_bodies (v := 10) d_Voi_bodyAt_16 (xixA (n := 0) rfl (by decide) (by decide)) (by decide) ?_
  refine V2_goto (tgt := 21) d_Voi_bodyAt_17 rfl ?_
  refine V2_ireturn d_Voi_bodyAt_21 rfl ?_
  refine V2.to (st' := [.int (10 : Int32)]) ?_ rfl rfl rfl rfl
  refine V2_istore (i := 4) (l' := [some (.int (0 : Int32)), some (.int (0 : Int32)), some (.int (0 : Int32)), some (.int (0 : Int32)), some (.int (10 : Int32))]) d_Voi_bodyFrom_24 (xst_i (Nat.le_of_ble_eq_true rfl) rfl rfl) ?_
  refine V2_iload (i := 4) d_Voi_bodyFrom_26 rfl ?_
  refine V2_if_eq (tgt := 34) d_Voi_bodyFrom_28 rfl (fun c => (by first | exact absurd c (by decide) | exact absurd (by decide) c)) (fun _ => ?_)
  refine V2_iload (i := 4) d_Voi_bodyFrom_31 rfl ?_
  refine V2_ireturn d_Voi_bodyFrom_33 rfl ?_
  refine V2.to (st' := [.int (10 : Int32)]) ?_ rfl rfl rfl rfl
  refine V2_istore (i := 5) (l' := [some (.ref 52), some (.int (0 : Int32)), some (.int (0 : Int32)), some (.int x), some (.int (0 : Int32)), some (.int (10 : Int32))]) d_Voi_says_5 (xst_i (Nat.le_of_ble_eq_true rfl) rfl rfl) ?_
  refine V2_aload_n (i := 0) d_Voi_says_7 rfl rfl ?_
  refine V2_get (v := (0 : Int32)) d_Voi_says_8 fl_Voi_31 (by decide) rfl (by decide) rfl rfl ?_
  refine V2_if_ne (tgt := 26) d_Voi_says_11 rfl (fun c => (by first | exact absurd c (by decide) | exact absurd (by decide) c)) (fun _ => ?_)
  refine V2_iload (i := 5) d_Voi_says_14 rfl ?_
  refine V2_if_eq (tgt := 26) d_Voi_says_16 rfl (fun c => (by first | exact absurd c (by decide) | exact absurd (by decide) c)) (fun _ => ?_)
  refine V2_iload (i := 4) d_Voi_says_19 rfl ?_
  refine V2_bipush (v := 30) d_Voi_says_21 rfl ?_
  refine V2_icmp_lt (tgt := 28) d_Voi_says_23 rfl (fun _ => ?_) (fun c => (by first | exact absurd c (by decide) | exact absurd (by decide) c))
  refine V2_aload_n (i := 0) d_Voi_says_28 rfl rfl ?_
  refine V2_getr (a := 53) d_Voi_says_29 fl_Voi_14 (by decide) rfl (by decide) rfl ?_
  refine V2_iload (i := 5) d_Voi_says_32 rfl ?_
  refine V2_callV [.int (10 : Int32)] d_Voi_says_34 rfl rfl lk_Voi_46 mo_Nums_add (by decide) rfl rfl rfl (Nat.le_of_ble_eq_true rfl) (Nat.le_of_ble_eq_true rfl) ?_
  refine V2.to (l' := [some (.ref 53), some (.int (10 : Int32))]) ?_ rfl rfl rfl rfl
  refine V2_aload_n (i := 0) d_Nums_add_0 rfl rfl ?_
  refine V2_get (v := (0 : Int32)) d_Nums_add_1 fl_Nums_7 (by decide) rfl (by decide) rfl rfl ?_
  refine V2_if_lt (tgt := 39) d_Nums_add_4 rfl (fun c => (by first | exact absurd c (by decide) | exact absurd (by decide) c)) (fun _ => ?_)
  refine V2_aload_n (i := 0) d_Nums_add_7 rfl rfl ?_
  refine V2_get (v := (0 : Int32)) d_Nums_add_8 fl_Nums_7 (by decide) rfl (by decide) rfl rfl ?_
  refine V2_aload_n (i := 0) d_Nums_add_11 rfl rfl ?_
  refine V2_getr (a := 54) d_Nums_add_12 fl_Nums_19 (by decide) rfl (by decide) rfl ?_
  refine V2_alen (t := 0) (v := 30) d_Nums_add_15 (by decide) rfl (by decide) rfl ?_
  refine V2_icmp_ge (tgt := 39) d_Nums_add_16 rfl (fun c => (by first | exact absurd c (by decide) | exact absurd (by decide) c)) (fun _ => ?_)
  refine V2_aload_n (i := 0) d_Nums_add_19 rfl rfl ?_
  refine V2_getr (a := 54) d_Nums_add_20 fl_Nums_19 (by decide) rfl (by decide) rfl ?_
  refine V2_aload_n (i := 0) d_Nums_add_23 rfl rfl ?_
  refine V2_get (v := (0 : Int32)) d_Nums_add_24 fl_Nums_7 (by decide) rfl (by decide) rfl rfl ?_
  refine V2_iload_n (i := 1) d_Nums_add_27 rfl rfl ?_
  refine V2_iastore (j := 0) d_Nums_add_28 (by decide) rfl (xixA (n := 0) rfl (by decide) (by decide)) rfl ?_
  refine V2_aload_n (i := 0) d_Nums_add_29 rfl rfl ?_
  refine V2_dup d_Nums_add_30 rfl ?_
  refine V2_get (v := (0 : Int32)) d_Nums_add_31 fl_Nums_7 (by decide) rfl (by decide) rfl rfl ?_
  refine V2_iconst (v := 1) d_Nums_add_34 rfl ?_
  refine V2_iadd d_Nums_add_35 ?_
  refine V2_lit (v := 1) (by decide) ?_
  refine V2_put d_Nums_add_36 fl_Nums_7 (by decide) rfl (by decide) rfl ?_
  refine V2_return d_Nums_add_39 rfl ?_
  refine V2.to (st' := []) ?_ rfl rfl rfl rfl
  refine V2_aload_n (i := 0) d_Voi_says_37 rfl rfl ?_
  refine V2_iload (i := 5) d_Voi_says_38 rfl ?_
  refine V2_iload_n (i := 3) d_Voi_says_40 rfl rfl ?_
  refine V2_iload (i := 4) d_Voi_says_41 rfl ?_
  refine V2_iconst (v := 1) d_Voi_says_43 rfl ?_
  refine V2_iadd d_Voi_says_44 ?_
  refine V2_lit (v := 1) (by decide) ?_
  refine V2_callV [.int (10 : Int32), .int x, .int (1 : Int32)] d_Voi_says_45 rfl rfl lk_Voi_49 mo_Voi_worksOut (by decide) rfl rfl rfl (Nat.le_of_ble_eq_true rfl) (Nat.le_of_ble_eq_true rfl) ?_
  refine V2.to (l' := [some (.ref 52), some (.int (10 : Int32)), some (.int x), some (.int (1 : Int32))]) ?_ rfl rfl rfl rfl
  refine V2_iload_n (i := 1) d_Voi_worksOut_0 rfl rfl ?_
  refine V2_lookup (tgt := 116) (off := 115) d_Voi_worksOut_1 (by decide) (by decide +kernel) rfl ?_
  refine V2_iload_n (i := 2) d_Voi_worksOut_116 rfl rfl ?_
  refine V2_aload_n (i := 0) d_Voi_worksOut_117 rfl rfl ?_
  refine V2_get (v := nI p) d_Voi_worksOut_118 fl_Voi_22 (by decide) rfl (by decide) rfl rfl ?_
  refine V2_topi (fun v3 ev3 => ?_)
  refine V2_iadd d_Voi_worksOut_121 ?_
  refine V2_topi (fun v4 ev4 => ?_)
  refine V2_ireturn d_Voi_worksOut_122 rfl ?_
  refine V2.to (st' := [.int v4]) ?_ rfl rfl rfl rfl
  refine V2_ireturn d_Voi_says_48 rfl ?_
  refine V2.to (st' := [.int v4, .ref 52]) ?_ rfl rfl rfl rfl
  refine V2_put d_Voi_speaks_41 fl_Voi_28 (by decide) rfl (by decide) rfl ?_
  refine V2_aload_n (i := 0) d_Voi_speaks_44 rfl rfl ?_
  refine V2_get (v := (0 : Int32)) d_Voi_speaks_45 fl_Voi_31 (by decide) rfl (by decide) rfl rfl ?_
  refine V2_if_ne (tgt := 55) d_Voi_speaks_48 rfl (fun c => (by first | exact absurd c (by decide) | exact absurd (by decide) c)) (fun _ => ?_)
  refine V2_iconst (v := 1) d_Voi_speaks_51 rfl ?_
  refine V2_goto (tgt := 56) d_Voi_speaks_52 rfl ?_
  refine V2_zreturn d_Voi_speaks_56 rfl (by decide) ?_
  refine V2.to (st' := [.int (1 : Int32)]) ?_ rfl rfl rfl rfl
  refine V2_if_ne (tgt := 73) d_P_voice_63 rfl (fun _ => ?_) (fun c => (by first | exact absurd c (by decide) | exact absurd (by decide) c))
  refine V2_aload_n (i := 0) d_P_voice_73 rfl rfl ?_
  refine V2_getr (a := 52) d_P_voice_74 fl_P_43 (by decide) rfl (by decide) rfl ?_
  refine V2_callV [] d_P_voice_77 rfl rfl lk_P_297 mo_Voi_answer (by decide) rfl rfl rfl (Nat.le_of_ble_eq_true rfl) (Nat.le_of_ble_eq_true rfl) ?_
  refine V2.to (l' := [some (.ref 52)]) ?_ rfl rfl rfl rfl
  refine V2_aload_n (i := 0) d_Voi_answer_0 rfl rfl ?_
  refine V2_get (v := v4) d_Voi_answer_1 fl_Voi_28 (by decide) rfl (by decide) rfl rfl ?_
  refine V2_ireturn d_Voi_answer_4 rfl ?_
  refine V2.to (st' := [.int v4]) ?_ rfl rfl rfl rfl
  refine V2_ireturn d_P_voice_80 rfl ?_
  subst ev4 ev3 ev1
  exact xQi (hQ _ (mid_trace (n := 1) (b := (fun i => ([10] : List Int32).getD i 0)) hR (by decide) (fun a h1 h2 h3 => by   repeat (first | rw [xp_row_ne h1] | rw [xp_row_ne h2] | rw [xp_row_ne h3]) ; try rfl) rfl (fun i hi => by have h9 : i = 0 := (by omega) ; subst h9 ; rfl))) (by first | rfl | decide) rfl
theorem c_mv_0_0 {L : Nat} {xs : Nat → Int32} {d : Nat} {Q : Option Value → xF → Prop} {F : xF} {p : Nat} {x mm : Int32} {F0 : xF} (hR : Rel F0) (hp : p < PN (F0 66)) (ek : F0 66 (12 + 2 * p) = 0) (em : F0 66 (12 + 2 * p + 1) = mm) (hM : Mid F0 F (traceG F0 1 (fun i => ([10] : List Int32).getD i 0))) (hQ : ∀ F2, Rel F2 → Q (some (.int (x + nI p))) F2) : V2 L xs (d + 40) m_R_voice 0 (xEntry [.ref 65, .int (nI p), .int (0 : Int32), .int x] 6) [] F Q := by
  have e66 : F 66 = F0 66 := hM.1 66 (by decide)
  obtain ⟨eP, hP6⟩ := inv_PN hR.2.1.2.2.1
  have s1 : (F 66 11 - 1).toInt = (PN (F0 66) : Int) - 1 := sub_any (n := PN (F0 66)) ((congrFun e66 11).trans eP) (by omega) (by decide)
  refine V2.to (l' := [some (.ref 65), some (.int (nI p)), some (.int (0 : Int32)), some (.int x), none, none]) ?_ rfl rfl rfl rfl
  refine V2_aload_n (i := 0) d_R_voice_0 rfl rfl ?_
  refine V2_iload_n (i := 1) d_R_voice_1 rfl rfl ?_
  refine V2_callV [.int (nI p)] d_R_voice_2 rfl rfl lk_R_168 mo_R_isPusher (by decide) rfl rfl rfl (Nat.le_of_ble_eq_true rfl) (Nat.le_of_ble_eq_true rfl) ?_
  refine c_R_isPusher ?_
  refine V2_topi (fun v1 ev1 => ?_)
  refine V2_if_eq (tgt := 17) d_R_voice_5 rfl (fun c2 => (by first | exact absurd c2 (show ¬ v1 = 0 from by subst ev1; exact xb_ne.mpr (by rw [toI_le, toI_le, s1, nI_toInt (by omega)]; have q0 : (0 : Int32).toInt = 0 := (by decide); omega)) | exact absurd (show ¬ v1 = 0 from by subst ev1; exact xb_ne.mpr (by rw [toI_le, toI_le, s1, nI_toInt (by omega)]; have q0 : (0 : Int32).toInt = 0 := (by decide); omega)) c2)) (fun c2 => ?_)
  refine V2_iload_n (i := 2) d_R_voice_8 rfl rfl ?_
  refine V2_iconst (v := 0) d_R_voice_9 rfl ?_
  refine V2_iconst (v := 3) d_R_voice_10 rfl ?_
  refine V2_callS [.int (0 : Int32), .int (0 : Int32), .int (3 : Int32)] d_R_voice_11 rfl rfl lk_R_51 mo_R_in (Nat.le_of_ble_eq_true rfl) (Nat.le_of_ble_eq_true rfl) ?_
  refine V2.to (l' := [some (.int (0 : Int32)), some (.int (0 : Int32)), some (.int (3 : Int32))]) ?_ rfl rfl rfl rfl
  refine V2_iload_n (i := 0) d_R_in_0 rfl rfl ?_
  refine V2_iload_n (i := 1) d_R_in_1 rfl rfl ?_
  refine V2_icmp_lt (tgt := 14) d_R_in_2 rfl (fun c => (by first | exact absurd c (by decide) | exact absurd (by decide) c)) (fun _ => ?_)
  refine V2_iload_n (i := 0) d_R_in_5 rfl rfl ?_
  refine V2_iload_n (i := 2) d_R_in_6 rfl rfl ?_
  refine V2_icmp_gt (tgt := 14) d_R_in_7 rfl (fun c => (by first | exact absurd c (by decide) | exact absurd (by decide) c)) (fun _ => ?_)
  refine V2_iconst (v := 1) d_R_in_10 rfl ?_
  refine V2_goto (tgt := 15) d_R_in_11 rfl ?_
  refine V2_zreturn d_R_in_15 rfl (by decide) ?_
  refine V2.to (st' := [.int (1 : Int32)]) ?_ rfl rfl rfl rfl
  refine V2_if_ne (tgt := 23) d_R_voice_14 rfl (fun _ => ?_) (fun c => (by first | exact absurd c (by decide) | exact absurd (by decide) c))
  refine V2_aload_n (i := 0) d_R_voice_23 rfl rfl ?_
  refine V2_iconst (v := 0) d_R_voice_24 rfl ?_
  refine V2_put d_R_voice_25 fl_R_227 (by decide) rfl (by decide) rfl ?_
  refine V2_aload_n (i := 0) d_R_voice_28 rfl rfl ?_
  refine V2_iload_n (i := 1) d_R_voice_29 rfl rfl ?_
  refine V2_put d_R_voice_30 fl_R_230 (by decide) rfl (by decide) rfl ?_
  refine V2_aload_n (i := 0) d_R_voice_33 rfl rfl ?_
  refine V2_iconst (v := 0) d_R_voice_34 rfl ?_
  refine V2_putz d_R_voice_35 fl_R_251 (by decide) rfl (by decide) rfl (by decide) ?_
  refine V2_aload_n (i := 0) d_R_voice_38 rfl rfl ?_
  refine V2_callV [] d_R_voice_39 rfl rfl lk_R_239 mo_R_kindNow (by decide) rfl rfl rfl (Nat.le_of_ble_eq_true rfl) (Nat.le_of_ble_eq_true rfl) ?_
  refine c_R_kindNow (p := p) (by omega) rfl ?_
  refine V2_lit (v := 0) (show F 66 (12 + 2 * p) = 0 from (congrFun e66 _).trans ek) ?_
  refine V2_istore (i := 4) (l' := [some (.ref 65), some (.int (nI p)), some (.int (0 : Int32)), some (.int x), some (.int (0 : Int32)), none]) d_R_voice_42 (xst_i (Nat.le_of_ble_eq_true rfl) rfl rfl) ?_
  refine V2_iload_n (i := 2) d_R_voice_44 rfl rfl ?_
  refine V2_if_ne (tgt := 58) d_R_voice_45 rfl (fun c => (by first | exact absurd c (by decide) | exact absurd (by decide) c)) (fun _ => ?_)
  refine V2_aload_n (i := 0) d_R_voice_48 rfl rfl ?_
  refine V2_iload (i := 4) d_R_voice_49 rfl ?_
  refine V2_iload_n (i := 3) d_R_voice_51 rfl rfl ?_
  refine V2_callV [.int (0 : Int32), .int x] d_R_voice_52 rfl rfl lk_R_236 mo_R_heavesAs (by decide) rfl rfl rfl (Nat.le_of_ble_eq_true rfl) (Nat.le_of_ble_eq_true rfl) ?_
  refine V2.to (l' := [some (.ref 65), some (.int (0 : Int32)), some (.int x)]) ?_ rfl rfl rfl rfl
  refine V2_iload_n (i := 1) d_R_heavesAs_0 rfl rfl ?_
  refine V2_tableIn (tgt := 44) (off := 43) d_R_heavesAs_1 (by decide) (by decide) (by decide) rfl ?_
  refine V2_aload_n (i := 0) d_R_heavesAs_44 rfl rfl ?_
  refine V2_bipush (v := 10) d_R_heavesAs_45 rfl ?_
  refine V2_callV [.int (10 : Int32)] d_R_heavesAs_47 rfl rfl lk_R_233 mo_R_begins (by decide) rfl rfl rfl (Nat.le_of_ble_eq_true rfl) (Nat.le_of_ble_eq_true rfl) ?_
  refine V2.to (l' := [some (.ref 65), some (.int (10 : Int32))]) ?_ rfl rfl rfl rfl
  refine V2_aload_n (i := 0) d_R_begins_0 rfl rfl ?_
  refine V2_get (v := (0 : Int32)) d_R_begins_1 fl_R_227 (by decide) rfl (by decide) rfl rfl ?_
  refine V2_bipush (v := 30) d_R_begins_4 rfl ?_
  refine V2_icmp_ge (tgt := 29) d_R_begins_6 rfl (fun c => (by first | exact absurd c (by decide) | exact absurd (by decide) c)) (fun _ => ?_)
  refine V2_aload_n (i := 0) d_R_begins_9 rfl rfl ?_
  refine V2_getr (a := 73) d_R_begins_10 fl_R_35 (by decide) rfl (by decide) rfl ?_
  refine V2_aload_n (i := 0) d_R_begins_13 rfl rfl ?_
  refine V2_get (v := (0 : Int32)) d_R_begins_14 fl_R_227 (by decide) rfl (by decide) rfl rfl ?_
  refine V2_iload_n (i := 1) d_R_begins_17 rfl rfl ?_
  refine V2_iastore (j := 0) d_R_begins_18 (by decide) rfl (xixA (n := 0) rfl (by decide) (by decide)) rfl ?_
  refine V2_aload_n (i := 0) d_R_begins_19 rfl rfl ?_
  refine V2_dup d_R_begins_20 rfl ?_
  refine V2_get (v := (0 : Int32)) d_R_begins_21 fl_R_227 (by decide) rfl (by decide) rfl rfl ?_
  refine V2_iconst (v := 1) d_R_begins_24 rfl ?_
  refine V2_iadd d_R_begins_25 ?_
  refine V2_lit (v := 1) (by decide) ?_
  refine V2_put d_R_begins_26 fl_R_227 (by decide) rfl (by decide) rfl ?_
  refine V2_return d_R_begins_29 rfl ?_
  refine V2.to (st' := []) ?_ rfl rfl rfl rfl
  refine V2_iload_n (i := 2) d_R_heavesAs_50 rfl rfl ?_
  refine V2_aload_n (i := 0) d_R_heavesAs_51 rfl rfl ?_
  refine V2_get (v := nI p) d_R_heavesAs_52 fl_R_230 (by decide) rfl (by decide) rfl rfl ?_
  refine V2_topi (fun v3 ev3 => ?_)
  refine V2_iadd d_R_heavesAs_55 ?_
  refine V2_topi (fun v4 ev4 => ?_)
  refine V2_ireturn d_R_heavesAs_56 rfl ?_
  refine V2.to (st' := [.int v4]) ?_ rfl rfl rfl rfl
  refine V2_goto (tgt := 95) d_R_voice_55 rfl ?_
  refine V2_istore (i := 5) (l' := [some (.ref 65), some (.int (nI p)), some (.int (0 : Int32)), some (.int x), some (.int (0 : Int32)), some (.int v4)]) d_R_voice_95 (xst_i (Nat.le_of_ble_eq_true rfl) rfl rfl) ?_
  refine V2_aload_n (i := 0) d_R_voice_97 rfl rfl ?_
  refine V2_get (v := (0 : Int32)) d_R_voice_98 fl_R_251 (by decide) rfl (by decide) rfl rfl ?_
  refine V2_if_eq (tgt := 113) d_R_voice_101 rfl (fun _ => ?_) (fun c => (by first | exact absurd c (by decide) | exact absurd (by decide) c))
  refine V2_iload (i := 5) d_R_voice_113 rfl ?_
  refine V2_ireturn d_R_voice_115 rfl ?_
  subst ev4 ev3 ev1
  refine xQi (hQ _ (rel_trace (n := 1) (b := (fun i => ([10] : List Int32).getD i 0)) hR (by decide) hM ?_ ?_ ?_ ?_ ?_)) ?_ rfl
  · intro a h1 h2
    repeat (first | rw [xp_row_ne h1] | rw [xp_row_ne h2])
    try rfl
  · rfl
  · rfl
  · rfl
  · exact (fun i hi => by have h9 : i = 0 := (by omega) ; subst h9 ; rfl)
  · first | rfl | decide
theorem c_cv_0_1 {L : Nat} {xs : Nat → Int32} {d : Nat} {Q : Option Value → xF → Prop} {F : xF} {p : Nat} {x mm : Int32} (hR : Rel F) (hp : p < PN (F 66)) (ek : F 66 (12 + 2 * p) = 0) (em : F 66 (12 + 2 * p + 1) = mm) (hQ : ∀ F1, Mid F F1 (traceG F 2 (fun i => ([11, 10] : List Int32).getD i 0)) → Q (some (.int ((x + nI p) * 2))) F1) : V2 L xs (d + 40) m_P_voice 0 (xEntry [.ref 0, .int (nI p), .int (1 : Int32), .int x] 5) [] F Q := by
  obtain ⟨eP, hP6⟩ := inv_PN hR.2.1.2.2.1
  refine V2.to (l' := [some (.ref 0), some (.int (nI p)), some (.int (1 : Int32)), some (.int x), none]) ?_ rfl rfl rfl rfl
  refine V2_aload_n (i := 0) d_P_voice_0 rfl rfl ?_
  refine V2_getr (a := 1) d_P_voice_1 fl_P_10 (by decide) rfl (by decide) rfl ?_
  refine V2_getr (a := 3) d_P_voice_4 fl_P_70 (by decide) rfl (by decide) rfl ?_
  refine V2_iload_n (i := 1) d_P_voice_7 rfl rfl ?_
  refine V2_callV [.int (nI p)] d_P_voice_8 rfl rfl lk_P_84 mo_Push_has (by decide) rfl rfl rfl (Nat.le_of_ble_eq_true rfl) (Nat.le_of_ble_eq_true rfl) ?_
  refine c_Push_has (P := PN (F 66)) (hR.1.1.2.1.1.trans eP) hP6 ?_
  refine V2_topi (fun v1 ev1 => ?_)
  refine V2_if_eq (tgt := 21) d_P_voice_11 rfl (fun c2 => (by first | exact absurd c2 (show ¬ v1 = 0 from by subst ev1; exact xb_ne.mpr ⟨nI_pos' (by omega), by rw [hR.1.1.2.1.1, eP]; exact nI_lt hp (by omega)⟩) | exact absurd (show ¬ v1 = 0 from by subst ev1; exact xb_ne.mpr ⟨nI_pos' (by omega), by rw [hR.1.1.2.1.1, eP]; exact nI_lt hp (by omega)⟩) c2)) (fun c2 => ?_)
  refine V2_iload_n (i := 2) d_P_voice_14 rfl rfl ?_
  refine V2_callS [.int (1 : Int32)] d_P_voice_15 rfl rfl lk_P_290 mo_Voi_isVoice (Nat.le_of_ble_eq_true rfl) (Nat.le_of_ble_eq_true rfl) ?_
  refine V2.to (l' := [some (.int (1 : Int32))]) ?_ rfl rfl rfl rfl
  refine V2_iload_n (i := 0) d_Voi_isVoice_0 rfl rfl ?_
  refine V2_if_lt (tgt := 13) d_Voi_isVoice_1 rfl (fun c => (by first | exact absurd c (by decide) | exact absurd (by decide) c)) (fun _ => ?_)
  refine V2_iload_n (i := 0) d_Voi_isVoice_4 rfl rfl ?_
  refine V2_iconst (v := 4) d_Voi_isVoice_5 rfl ?_
  refine V2_icmp_ge (tgt := 13) d_Voi_isVoice_6 rfl (fun c => (by first | exact absurd c (by decide) | exact absurd (by decide) c)) (fun _ => ?_)
  refine V2_iconst (v := 1) d_Voi_isVoice_9 rfl ?_
  refine V2_goto (tgt := 14) d_Voi_isVoice_10 rfl ?_
  refine V2_zreturn d_Voi_isVoice_14 rfl (by decide) ?_
  refine V2.to (st' := [.int (1 : Int32)]) ?_ rfl rfl rfl rfl
  refine V2_if_ne (tgt := 27) d_P_voice_18 rfl (fun _ => ?_) (fun c => (by first | exact absurd c (by decide) | exact absurd (by decide) c))
  refine V2_aload_n (i := 0) d_P_voice_27 rfl rfl ?_
  refine V2_getr (a := 1) d_P_voice_28 fl_P_10 (by decide) rfl (by decide) rfl ?_
  refine V2_getr (a := 3) d_P_voice_31 fl_P_70 (by decide) rfl (by decide) rfl ?_
  refine V2_iload_n (i := 1) d_P_voice_34 rfl rfl ?_
  refine V2_callV [.int (nI p)] d_P_voice_35 rfl rfl lk_P_87 mo_Push_kindOf (by decide) rfl rfl rfl (Nat.le_of_ble_eq_true rfl) (Nat.le_of_ble_eq_true rfl) ?_
  refine c_Push_kindOf (P := PN (F 66)) (hR.1.1.2.1.1.trans eP) (hR.1.1.2.1.2.1.trans eP) hP6 hp ?_
  refine V2_lit (v := 0) (((rel_relP hR).2.2.2 p hp).1.trans ek) ?_
  refine V2_istore (i := 4) (l' := [some (.ref 0), some (.int (nI p)), some (.int (1 : Int32)), some (.int x), some (.int (0 : Int32))]) d_P_voice_38 (xst_i (Nat.le_of_ble_eq_true rfl) rfl rfl) ?_
  refine V2_aload_n (i := 0) d_P_voice_40 rfl rfl ?_
  refine V2_getr (a := 52) d_P_voice_41 fl_P_43 (by decide) rfl (by decide) rfl ?_
  refine V2_iload (i := 4) d_P_voice_44 rfl ?_
  refine V2_iload_n (i := 1) d_P_voice_46 rfl rfl ?_
  refine V2_aload_n (i := 0) d_P_voice_47 rfl rfl ?_
  refine V2_getr (a := 1) d_P_voice_48 fl_P_10 (by decide) rfl (by decide) rfl ?_
  refine V2_getr (a := 3) d_P_voice_51 fl_P_70 (by decide) rfl (by decide) rfl ?_
  refine V2_iload_n (i := 1) d_P_voice_54 rfl rfl ?_
  refine V2_callV [.int (nI p)] d_P_voice_55 rfl rfl lk_P_90 mo_Push_levelOf (by decide) rfl rfl rfl (Nat.le_of_ble_eq_true rfl) (Nat.le_of_ble_eq_true rfl) ?_
  refine c_Push_levelOf (P := PN (F 66)) (hR.1.1.2.1.1.trans eP) (hR.1.1.2.1.2.1.trans eP) hP6 hp ?_
  refine V2_lit (v := mm) (((rel_relP hR).2.2.2 p hp).2.trans em) ?_
  refine V2_iload_n (i := 2) d_P_voice_58 rfl rfl ?_
  refine V2_iload_n (i := 3) d_P_voice_59 rfl rfl ?_
  refine V2_callV [.int (0 : Int32), .int (nI p), .int mm, .int (1 : Int32), .int x] d_P_voice_60 rfl rfl lk_P_293 mo_Voi_speaks (by decide) rfl rfl rfl (Nat.le_of_ble_eq_true rfl) (Nat.le_of_ble_eq_true rfl) ?_
  refine V2.to (l' := [some (.ref 52), some (.int (0 : Int32)), some (.int (nI p)), some (.int mm), some (.int (1 : Int32)), some (.int x)]) ?_ rfl rfl rfl rfl
  refine V2_aload_n (i := 0) d_Voi_speaks_0 rfl rfl ?_
  refine V2_iload_n (i := 1) d_Voi_speaks_1 rfl rfl ?_
  refine V2_put d_Voi_speaks_2 fl_Voi_18 (by decide) rfl (by decide) rfl ?_
  refine V2_aload_n (i := 0) d_Voi_speaks_5 rfl rfl ?_
  refine V2_iload_n (i := 2) d_Voi_speaks_6 rfl rfl ?_
  refine V2_put d_Voi_speaks_7 fl_Voi_22 (by decide) rfl (by decide) rfl ?_
  refine V2_aload_n (i := 0) d_Voi_speaks_10 rfl rfl ?_
  refine V2_iload_n (i := 3) d_Voi_speaks_11 rfl rfl ?_
  refine V2_put d_Voi_speaks_12 fl_Voi_25 (by decide) rfl (by decide) rfl ?_
  refine V2_aload_n (i := 0) d_Voi_speaks_15 rfl rfl ?_
  refine V2_iconst (v := 0) d_Voi_speaks_16 rfl ?_
  refine V2_putz d_Voi_speaks_17 fl_Voi_31 (by decide) rfl (by decide) rfl (by decide) ?_
  refine V2_aload_n (i := 0) d_Voi_speaks_20 rfl rfl ?_
  refine V2_getr (a := 53) d_Voi_speaks_21 fl_Voi_14 (by decide) rfl (by decide) rfl ?_
  refine V2_callV [] d_Voi_speaks_24 rfl rfl lk_Voi_35 mo_Nums_empty (by decide) rfl rfl rfl (Nat.le_of_ble_eq_true rfl) (Nat.le_of_ble_eq_true rfl) ?_
  refine V2.to (l' := [some (.ref 53)]) ?_ rfl rfl rfl rfl
  refine V2_aload_n (i := 0) d_Nums_empty_0 rfl rfl ?_
  refine V2_iconst (v := 0) d_Nums_empty_1 rfl ?_
  refine V2_put d_Nums_empty_2 fl_Nums_7 (by decide) rfl (by decide) rfl ?_
  refine V2_return d_Nums_empty_5 rfl ?_
  refine V2.to (st' := []) ?_ rfl rfl rfl rfl
  refine V2_aload_n (i := 0) d_Voi_speaks_27 rfl rfl ?_
  refine V2_aload_n (i := 0) d_Voi_speaks_28 rfl rfl ?_
  refine V2_aload_n (i := 0) d_Voi_speaks_29 rfl rfl ?_
  refine V2_get (v := (0 : Int32)) d_Voi_speaks_30 fl_Voi_18 (by decide) rfl (by decide) rfl rfl ?_
  refine V2_iload (i := 4) d_Voi_speaks_33 rfl ?_
  refine V2_iload (i := 5) d_Voi_speaks_35 rfl ?_
  refine V2_iconst (v := 0) d_Voi_speaks_37 rfl ?_
  refine V2_callV [.int (0 : Int32), .int (1 : Int32), .int x, .int (0 : Int32)] d_Voi_speaks_38 rfl rfl lk_Voi_38 mo_Voi_says (by decide) rfl rfl rfl (Nat.le_of_ble_eq_true rfl) (Nat.le_of_ble_eq_true rfl) ?_
  refine V2.to (l' := [some (.ref 52), some (.int (0 : Int32)), some (.int (1 : Int32)), some (.int x), some (.int (0 : Int32)), none]) ?_ rfl rfl rfl rfl
  refine V2_iload_n (i := 1) d_Voi_says_0 rfl rfl ?_
  refine V2_iload_n (i := 2) d_Voi_says_1 rfl rfl ?_
  refine V2_callS [.int (0 : Int32), .int (1 : Int32)] d_Voi_says_2 rfl rfl lk_Voi_42 mo_Voi_bodyFrom (Nat.le_of_ble_eq_true rfl) (Nat.le_of_ble_eq_true rfl) ?_
  refine V2.to (l' := [some (.int (0 : Int32)), some (.int (1 : Int32)), none, none, none]) ?_ rfl rfl rfl rfl
  refine V2_iload_n (i := 0) d_Voi_bodyFrom_0 rfl rfl ?_
  refine V2_istore_n (i := 2) (l' := [some (.int (0 : Int32)), some (.int (1 : Int32)), some (.int (0 : Int32)), none, none]) d_Voi_bodyFrom_1 rfl (xst_i (Nat.le_of_ble_eq_true rfl) rfl rfl) ?_
  refine V2_iconst (v := 0) d_Voi_bodyFrom_2 rfl ?_
  refine V2_istore_n (i := 3) (l' := [some (.int (0 : Int32)), some (.int (1 : Int32)), some (.int (0 : Int32)), some (.int (0 : Int32)), none]) d_Voi_bodyFrom_3 rfl (xst_i (Nat.le_of_ble_eq_true rfl) rfl rfl) ?_
  refine V2_iload_n (i := 3) d_Voi_bodyFrom_4 rfl rfl ?_
  refine V2_getsB d_Voi_bodyFrom_5 gs_Voi_53 ?_
  refine V2_bodieslen d_Voi_bodyFrom_8 ?_
  refine V2_icmp_ge (tgt := 45) d_Voi_bodyFrom_9 rfl (fun c => (by first | exact absurd c (by decide) | exact absurd (by decide) c)) (fun _ => ?_)
  refine V2_iload_n (i := 2) d_Voi_bodyFrom_12 rfl rfl ?_
  refine V2_if_lt (tgt := 45) d_Voi_bodyFrom_13 rfl (fun c => (by first | exact absurd c (by decide) | exact absurd (by decide) c)) (fun _ => ?_)
  refine V2_iload_n (i := 2) d_Voi_bodyFrom_16 rfl rfl ?_
  refine V2_iconst (v := 4) d_Voi_bodyFrom_17 rfl ?_
  refine V2_imul d_Voi_bodyFrom_18 ?_
  refine V2_lit (v := 0) (by decide) ?_
  refine V2_iload_n (i := 1) d_Voi_bodyFrom_19 rfl rfl ?_
  refine V2_iadd d_Voi_bodyFrom_20 ?_
  refine V2_lit (v := 1) (by decide) ?_
  refine V2_callS [.int (1 : Int32)] d_Voi_bodyFrom_21 rfl rfl lk_Voi_57 mo_Voi_bodyAt (Nat.le_of_ble_eq_true rfl) (Nat.le_of_ble_eq_true rfl) ?_
  refine V2.to (l' := [some (.int (1 : Int32))]) ?_ rfl rfl rfl rfl
  refine V2_iload_n (i := 0) d_Voi_bodyAt_0 rfl rfl ?_
  refine V2_if_lt (tgt := 20) d_Voi_bodyAt_1 rfl (fun c => (by first | exact absurd c (by decide) | exact absurd (by decide) c)) (fun _ => ?_)
  refine V2_iload_n (i := 0) d_Voi_bodyAt_4 rfl rfl ?_
  refine V2_getsB d_Voi_bodyAt_5 gs_Voi_53 ?_
  refine V2_bodieslen d_Voi_bodyAt_8 ?_
  refine V2_icmp_ge (tgt := 20) d_Voi_bodyAt_9 rfl (fun c => (by first | exact absurd c (by decide) | exact absurd (by decide) c)) (fun _ => ?_)
  refine V2_getsB d_Voi_bodyAt_12 gs_Voi_53 ?_
  refine V2_iload_n (i := 0) d_Voi_bodyAt_15 rfl rfl ?_
  refine V2_bodies (v := 11) d_Voi_bodyAt_16 (xixA (n := 1) rfl (by decide) (by decide)) (by decide) ?_
  refine V2_goto (tgt := 21) d_Voi_bodyAt_17 rfl ?_
  refine V2_ireturn d_Voi_bodyAt_21 rfl ?_
  refine V2.to (st' := [.int (11 : Int32)]) ?_ rfl rfl rfl rfl
  refine V2_istore (i := 4) (l' := [some (.int (0 : Int32)), some (.int (1 : Int32)), some (.int (0 : Int32)), some (.int (0 : Int32)), some (.int (11 : Int32))]) d_Voi_bodyFrom_24 (xst_i (Nat.le_of_ble_eq_true rfl) rfl rfl) ?_
  refine V2_iload (i := 4) d_Voi_bodyFrom_26 rfl ?_
  refine V2_if_eq (tgt := 34) d_Voi_bodyFrom_28 rfl (fun c => (by first | exact absurd c (by decide) | exact absurd (by decide) c)) (fun _ => ?_)
  refine V2_iload (i := 4) d_Voi_bodyFrom_31 rfl ?_
  refine V2_ireturn d_Voi_bodyFrom_33 rfl ?_
  refine V2.to (st' := [.int (11 : Int32)]) ?_ rfl rfl rfl rfl
  refine V2_istore (i := 5) (l' := [some (.ref 52), some (.int (0 : Int32)), some (.int (1 : Int32)), some (.int x), some (.int (0 : Int32)), some (.int (11 : Int32))]) d_Voi_says_5 (xst_i (Nat.le_of_ble_eq_true rfl) rfl rfl) ?_
  refine V2_aload_n (i := 0) d_Voi_says_7 rfl rfl ?_
  refine V2_get (v := (0 : Int32)) d_Voi_says_8 fl_Voi_31 (by decide) rfl (by decide) rfl rfl ?_
  refine V2_if_ne (tgt := 26) d_Voi_says_11 rfl (fun c => (by first | exact absurd c (by decide) | exact absurd (by decide) c)) (fun _ => ?_)
  refine V2_iload (i := 5) d_Voi_says_14 rfl ?_
  refine V2_if_eq (tgt := 26) d_Voi_says_16 rfl (fun c => (by first | exact absurd c (by decide) | exact absurd (by decide) c)) (fun _ => ?_)
  refine V2_iload (i := 4) d_Voi_says_19 rfl ?_
  refine V2_bipush (v := 30) d_Voi_says_21 rfl ?_
  refine V2_icmp_lt (tgt := 28) d_Voi_says_23 rfl (fun _ => ?_) (fun c => (by first | exact absurd c (by decide) | exact absurd (by decide) c))
  refine V2_aload_n (i := 0) d_Voi_says_28 rfl rfl ?_
  refine V2_getr (a := 53) d_Voi_says_29 fl_Voi_14 (by decide) rfl (by decide) rfl ?_
  refine V2_iload (i := 5) d_Voi_says_32 rfl ?_
  refine V2_callV [.int (11 : Int32)] d_Voi_says_34 rfl rfl lk_Voi_46 mo_Nums_add (by decide) rfl rfl rfl (Nat.le_of_ble_eq_true rfl) (Nat.le_of_ble_eq_true rfl) ?_
  refine V2.to (l' := [some (.ref 53), some (.int (11 : Int32))]) ?_ rfl rfl rfl rfl
  refine V2_aload_n (i := 0) d_Nums_add_0 rfl rfl ?_
  refine V2_get (v := (0 : Int32)) d_Nums_add_1 fl_Nums_7 (by decide) rfl (by decide) rfl rfl ?_
  refine V2_if_lt (tgt := 39) d_Nums_add_4 rfl (fun c => (by first | exact absurd c (by decide) | exact absurd (by decide) c)) (fun _ => ?_)
  refine V2_aload_n (i := 0) d_Nums_add_7 rfl rfl ?_
  refine V2_get (v := (0 : Int32)) d_Nums_add_8 fl_Nums_7 (by decide) rfl (by decide) rfl rfl ?_
  refine V2_aload_n (i := 0) d_Nums_add_11 rfl rfl ?_
  refine V2_getr (a := 54) d_Nums_add_12 fl_Nums_19 (by decide) rfl (by decide) rfl ?_
  refine V2_alen (t := 0) (v := 30) d_Nums_add_15 (by decide) rfl (by decide) rfl ?_
  refine V2_icmp_ge (tgt := 39) d_Nums_add_16 rfl (fun c => (by first | exact absurd c (by decide) | exact absurd (by decide) c)) (fun _ => ?_)
  refine V2_aload_n (i := 0) d_Nums_add_19 rfl rfl ?_
  refine V2_getr (a := 54) d_Nums_add_20 fl_Nums_19 (by decide) rfl (by decide) rfl ?_
  refine V2_aload_n (i := 0) d_Nums_add_23 rfl rfl ?_
  refine V2_get (v := (0 : Int32)) d_Nums_add_24 fl_Nums_7 (by decide) rfl (by decide) rfl rfl ?_
  refine V2_iload_n (i := 1) d_Nums_add_27 rfl rfl ?_
  refine V2_iastore (j := 0) d_Nums_add_28 (by decide) rfl (xixA (n := 0) rfl (by decide) (by decide)) rfl ?_
  refine V2_aload_n (i := 0) d_Nums_add_29 rfl rfl ?_
  refine V2_dup d_Nums_add_30 rfl ?_
  refine V2_get (v := (0 : Int32)) d_Nums_add_31 fl_Nums_7 (by decide) rfl (by decide) rfl rfl ?_
  refine V2_iconst (v := 1) d_Nums_add_34 rfl ?_
  refine V2_iadd d_Nums_add_35 ?_
  refine V2_lit (v := 1) (by decide) ?_
  refine V2_put d_Nums_add_36 fl_Nums_7 (by decide) rfl (by decide) rfl ?_
  refine V2_return d_Nums_add_39 rfl ?_
  refine V2.to (st' := []) ?_ rfl rfl rfl rfl
  refine V2_aload_n (i := 0) d_Voi_says_37 rfl rfl ?_
  refine V2_iload (i := 5) d_Voi_says_38 rfl ?_
  refine V2_iload_n (i := 3) d_Voi_says_40 rfl rfl ?_
  refine V2_iload (i := 4) d_Voi_says_41 rfl ?_
  refine V2_iconst (v := 1) d_Voi_says_43 rfl ?_
  refine V2_iadd d_Voi_says_44 ?_
  refine V2_lit (v := 1) (by decide) ?_
  refine V2_callV [.int (11 : Int32), .int x, .int (1 : Int32)] d_Voi_says_45 rfl rfl lk_Voi_49 mo_Voi_worksOut (by decide) rfl rfl rfl (Nat.le_of_ble_eq_true rfl) (Nat.le_of_ble_eq_true rfl) ?_
  refine V2.to (l' := [some (.ref 52), some (.int (11 : Int32)), some (.int x), some (.int (1 : Int32))]) ?_ rfl rfl rfl rfl
  refine V2_iload_n (i := 1) d_Voi_worksOut_0 rfl rfl ?_
  refine V2_lookup (tgt := 123) (off := 122) d_Voi_worksOut_1 (by decide) (by decide +kernel) rfl ?_
  refine V2_aload_n (i := 0) d_Voi_worksOut_123 rfl rfl ?_
  refine V2_aload_n (i := 0) d_Voi_worksOut_124 rfl rfl ?_
  refine V2_get (v := (0 : Int32)) d_Voi_worksOut_125 fl_Voi_18 (by decide) rfl (by decide) rfl rfl ?_
  refine V2_iconst (v := 0) d_Voi_worksOut_128 rfl ?_
  refine V2_iload_n (i := 2) d_Voi_worksOut_129 rfl rfl ?_
  refine V2_iload_n (i := 3) d_Voi_worksOut_130 rfl rfl ?_
  refine V2_callV [.int (0 : Int32), .int (0 : Int32), .int x, .int (1 : Int32)] d_Voi_worksOut_131 rfl rfl lk_Voi_38 mo_Voi_says (by decide) rfl rfl rfl (Nat.le_of_ble_eq_true rfl) (Nat.le_of_ble_eq_true rfl) ?_
  refine V2.to (l' := [some (.ref 52), some (.int (0 : Int32)), some (.int (0 : Int32)), some (.int x), some (.int (1 : Int32)), none]) ?_ rfl rfl rfl rfl
  refine V2_iload_n (i := 1) d_Voi_says_0 rfl rfl ?_
  refine V2_iload_n (i := 2) d_Voi_says_1 rfl rfl ?_
  refine V2_callS [.int (0 : Int32), .int (0 : Int32)] d_Voi_says_2 rfl rfl lk_Voi_42 mo_Voi_bodyFrom (Nat.le_of_ble_eq_true rfl) (Nat.le_of_ble_eq_true rfl) ?_
  refine V2.to (l' := [some (.int (0 : Int32)), some (.int (0 : Int32)), none, none, none]) ?_ rfl rfl rfl rfl
  refine V2_iload_n (i := 0) d_Voi_bodyFrom_0 rfl rfl ?_
  refine V2_istore_n (i := 2) (l' := [some (.int (0 : Int32)), some (.int (0 : Int32)), some (.int (0 : Int32)), none, none]) d_Voi_bodyFrom_1 rfl (xst_i (Nat.le_of_ble_eq_true rfl) rfl rfl) ?_
  refine V2_iconst (v := 0) d_Voi_bodyFrom_2 rfl ?_
  refine V2_istore_n (i := 3) (l' := [some (.int (0 : Int32)), some (.int (0 : Int32)), some (.int (0 : Int32)), some (.int (0 : Int32)), none]) d_Voi_bodyFrom_3 rfl (xst_i (Nat.le_of_ble_eq_true rfl) rfl rfl) ?_
  refine V2_iload_n (i := 3) d_Voi_bodyFrom_4 rfl rfl ?_
  refine V2_getsB d_Voi_bodyFrom_5 gs_Voi_53 ?_
  refine V2_bodieslen d_Voi_bodyFrom_8 ?_
  refine V2_icmp_ge (tgt := 45) d_Voi_bodyFrom_9 rfl (fun c => (by first | exact absurd c (by decide) | exact absurd (by decide) c)) (fun _ => ?_)
  refine V2_iload_n (i := 2) d_Voi_bodyFrom_12 rfl rfl ?_
  refine V2_if_lt (tgt := 45) d_Voi_bodyFrom_13 rfl (fun c => (by first | exact absurd c (by decide) | exact absurd (by decide) c)) (fun _ => ?_)
  refine V2_iload_n (i := 2) d_Voi_bodyFrom_16 rfl rfl ?_
  refine V2_iconst (v := 4) d_Voi_bodyFrom_17 rfl ?_
  refine V2_imul d_Voi_bodyFrom_18 ?_
  refine V2_lit (v := 0) (by decide) ?_
  refine V2_iload_n (i := 1) d_Voi_bodyFrom_19 rfl rfl ?_
  refine V2_iadd d_Voi_bodyFrom_20 ?_
  refine V2_lit (v := 0) (by decide) ?_
  refine V2_callS [.int (0 : Int32)] d_Voi_bodyFrom_21 rfl rfl lk_Voi_57 mo_Voi_bodyAt (Nat.le_of_ble_eq_true rfl) (Nat.le_of_ble_eq_true rfl) ?_
  refine V2.to (l' := [some (.int (0 : Int32))]) ?_ rfl rfl rfl rfl
  refine V2_iload_n (i := 0) d_Voi_bodyAt_0 rfl rfl ?_
  refine V2_if_lt (tgt := 20) d_Voi_bodyAt_1 rfl (fun c => (by first | exact absurd c (by decide) | exact absurd (by decide) c)) (fun _ => ?_)
  refine V2_iload_n (i := 0) d_Voi_bodyAt_4 rfl rfl ?_
  refine V2_getsB d_Voi_bodyAt_5 gs_Voi_53 ?_
  refine V2_bodieslen d_Voi_bodyAt_8 ?_
  refine V2_icmp_ge (tgt := 20) d_Voi_bodyAt_9 rfl (fun c => (by first | exact absurd c (by decide) | exact absurd (by decide) c)) (fun _ => ?_)
  refine V2_getsB d_Voi_bodyAt_12 gs_Voi_53 ?_
  refine V2_iload_n (i := 0) d_Voi_bodyAt_15 rfl rfl ?_
  refine V2_bodies (v := 10) d_Voi_bodyAt_16 (xixA (n := 0) rfl (by decide) (by decide)) (by decide) ?_
  refine V2_goto (tgt := 21) d_Voi_bodyAt_17 rfl ?_
  refine V2_ireturn d_Voi_bodyAt_21 rfl ?_
  refine V2.to (st' := [.int (10 : Int32)]) ?_ rfl rfl rfl rfl
  refine V2_istore (i := 4) (l' := [some (.int (0 : Int32)), some (.int (0 : Int32)), some (.int (0 : Int32)), some (.int (0 : Int32)), some (.int (10 : Int32))]) d_Voi_bodyFrom_24 (xst_i (Nat.le_of_ble_eq_true rfl) rfl rfl) ?_
  refine V2_iload (i := 4) d_Voi_bodyFrom_26 rfl ?_
  refine V2_if_eq (tgt := 34) d_Voi_bodyFrom_28 rfl (fun c => (by first | exact absurd c (by decide) | exact absurd (by decide) c)) (fun _ => ?_)
  refine V2_iload (i := 4) d_Voi_bodyFrom_31 rfl ?_
  refine V2_ireturn d_Voi_bodyFrom_33 rfl ?_
  refine V2.to (st' := [.int (10 : Int32)]) ?_ rfl rfl rfl rfl
  refine V2_istore (i := 5) (l' := [some (.ref 52), some (.int (0 : Int32)), some (.int (0 : Int32)), some (.int x), some (.int (1 : Int32)), some (.int (10 : Int32))]) d_Voi_says_5 (xst_i (Nat.le_of_ble_eq_true rfl) rfl rfl) ?_
  refine V2_aload_n (i := 0) d_Voi_says_7 rfl rfl ?_
  refine V2_get (v := (0 : Int32)) d_Voi_says_8 fl_Voi_31 (by decide) rfl (by decide) rfl rfl ?_
  refine V2_if_ne (tgt := 26) d_Voi_says_11 rfl (fun c => (by first | exact absurd c (by decide) | exact absurd (by decide) c)) (fun _ => ?_)
  refine V2_iload (i := 5) d_Voi_says_14 rfl ?_
  refine V2_if_eq (tgt := 26) d_Voi_says_16 rfl (fun c => (by first | exact absurd c (by decide) | exact absurd (by decide) c)) (fun _ => ?_)
  refine V2_iload (i := 4) d_Voi_says_19 rfl ?_
  refine V2_bipush (v := 30) d_Voi_says_21 rfl ?_
  refine V2_icmp_lt (tgt := 28) d_Voi_says_23 rfl (fun _ => ?_) (fun c => (by first | exact absurd c (by decide) | exact absurd (by decide) c))
  refine V2_aload_n (i := 0) d_Voi_says_28 rfl rfl ?_
  refine V2_getr (a := 53) d_Voi_says_29 fl_Voi_14 (by decide) rfl (by decide) rfl ?_
  refine V2_iload (i := 5) d_Voi_says_32 rfl ?_
  refine V2_callV [.int (10 : Int32)] d_Voi_says_34 rfl rfl lk_Voi_46 mo_Nums_add (by decide) rfl rfl rfl (Nat.le_of_ble_eq_true rfl) (Nat.le_of_ble_eq_true rfl) ?_
  refine V2.to (l' := [some (.ref 53), some (.int (10 : Int32))]) ?_ rfl rfl rfl rfl
  refine V2_aload_n (i := 0) d_Nums_add_0 rfl rfl ?_
  refine V2_get (v := (1 : Int32)) d_Nums_add_1 fl_Nums_7 (by decide) rfl (by decide) rfl rfl ?_
  refine V2_if_lt (tgt := 39) d_Nums_add_4 rfl (fun c => (by first | exact absurd c (by decide) | exact absurd (by decide) c)) (fun _ => ?_)
  refine V2_aload_n (i := 0) d_Nums_add_7 rfl rfl ?_
  refine V2_get (v := (1 : Int32)) d_Nums_add_8 fl_Nums_7 (by decide) rfl (by decide) rfl rfl ?_
  refine V2_aload_n (i := 0) d_Nums_add_11 rfl rfl ?_
  refine V2_getr (a := 54) d_Nums_add_12 fl_Nums_19 (by decide) rfl (by decide) rfl ?_
  refine V2_alen (t := 0) (v := 30) d_Nums_add_15 (by decide) rfl (by decide) rfl ?_
  refine V2_icmp_ge (tgt := 39) d_Nums_add_16 rfl (fun c => (by first | exact absurd c (by decide) | exact absurd (by decide) c)) (fun _ => ?_)
  refine V2_aload_n (i := 0) d_Nums_add_19 rfl rfl ?_
  refine V2_getr (a := 54) d_Nums_add_20 fl_Nums_19 (by decide) rfl (by decide) rfl ?_
  refine V2_aload_n (i := 0) d_Nums_add_23 rfl rfl ?_
  refine V2_get (v := (1 : Int32)) d_Nums_add_24 fl_Nums_7 (by decide) rfl (by decide) rfl rfl ?_
  refine V2_iload_n (i := 1) d_Nums_add_27 rfl rfl ?_
  refine V2_iastore (j := 1) d_Nums_add_28 (by decide) rfl (xixA (n := 1) rfl (by decide) (by decide)) rfl ?_
  refine V2_aload_n (i := 0) d_Nums_add_29 rfl rfl ?_
  refine V2_dup d_Nums_add_30 rfl ?_
  refine V2_get (v := (1 : Int32)) d_Nums_add_31 fl_Nums_7 (by decide) rfl (by decide) rfl rfl ?_
  refine V2_iconst (v := 1) d_Nums_add_34 rfl ?_
  refine V2_iadd d_Nums_add_35 ?_
  refine V2_lit (v := 2) (by decide) ?_
  refine V2_put d_Nums_add_36 fl_Nums_7 (by decide) rfl (by decide) rfl ?_
  refine V2_return d_Nums_add_39 rfl ?_
  refine V2.to (st' := []) ?_ rfl rfl rfl rfl
  refine V2_aload_n (i := 0) d_Voi_says_37 rfl rfl ?_
  refine V2_iload (i := 5) d_Voi_says_38 rfl ?_
  refine V2_iload_n (i := 3) d_Voi_says_40 rfl rfl ?_
  refine V2_iload (i := 4) d_Voi_says_41 rfl ?_
  refine V2_iconst (v := 1) d_Voi_says_43 rfl ?_
  refine V2_iadd d_Voi_says_44 ?_
  refine V2_lit (v := 2) (by decide) ?_
  refine V2_callV [.int (10 : Int32), .int x, .int (2 : Int32)] d_Voi_says_45 rfl rfl lk_Voi_49 mo_Voi_worksOut (by decide) rfl rfl rfl (Nat.le_of_ble_eq_true rfl) (Nat.le_of_ble_eq_true rfl) ?_
  refine V2.to (l' := [some (.ref 52), some (.int (10 : Int32)), some (.int x), some (.int (2 : Int32))]) ?_ rfl rfl rfl rfl
  refine V2_iload_n (i := 1) d_Voi_worksOut_0 rfl rfl ?_
  refine V2_lookup (tgt := 116) (off := 115) d_Voi_worksOut_1 (by decide) (by decide +kernel) rfl ?_
  refine V2_iload_n (i := 2) d_Voi_worksOut_116 rfl rfl ?_
  refine V2_aload_n (i := 0) d_Voi_worksOut_117 rfl rfl ?_
  refine V2_get (v := nI p) d_Voi_worksOut_118 fl_Voi_22 (by decide) rfl (by decide) rfl rfl ?_
  refine V2_topi (fun v3 ev3 => ?_)
  refine V2_iadd d_Voi_worksOut_121 ?_
  refine V2_topi (fun v4 ev4 => ?_)
  refine V2_ireturn d_Voi_worksOut_122 rfl ?_
  refine V2.to (st' := [.int v4]) ?_ rfl rfl rfl rfl
  refine V2_ireturn d_Voi_says_48 rfl ?_
  refine V2.to (st' := [.int v4]) ?_ rfl rfl rfl rfl
  refine V2_iconst (v := 2) d_Voi_worksOut_134 rfl ?_
  refine V2_imul d_Voi_worksOut_135 ?_
  refine V2_topi (fun v5 ev5 => ?_)
  refine V2_ireturn d_Voi_worksOut_136 rfl ?_
  refine V2.to (st' := [.int v5]) ?_ rfl rfl rfl rfl
  refine V2_ireturn d_Voi_says_48 rfl ?_
  refine V2.to (st' := [.int v5, .ref 52]) ?_ rfl rfl rfl rfl
  refine V2_put d_Voi_speaks_41 fl_Voi_28 (by decide) rfl (by decide) rfl ?_
  refine V2_aload_n (i := 0) d_Voi_speaks_44 rfl rfl ?_
  refine V2_get (v := (0 : Int32)) d_Voi_speaks_45 fl_Voi_31 (by decide) rfl (by decide) rfl rfl ?_
  refine V2_if_ne (tgt := 55) d_Voi_speaks_48 rfl (fun c => (by first | exact absurd c (by decide) | exact absurd (by decide) c)) (fun _ => ?_)
  refine V2_iconst (v := 1) d_Voi_speaks_51 rfl ?_
  refine V2_goto (tgt := 56) d_Voi_speaks_52 rfl ?_
  refine V2_zreturn d_Voi_speaks_56 rfl (by decide) ?_
  refine V2.to (st' := [.int (1 : Int32)]) ?_ rfl rfl rfl rfl
  refine V2_if_ne (tgt := 73) d_P_voice_63 rfl (fun _ => ?_) (fun c => (by first | exact absurd c (by decide) | exact absurd (by decide) c))
  refine V2_aload_n (i := 0) d_P_voice_73 rfl rfl ?_
  refine V2_getr (a := 52) d_P_voice_74 fl_P_43 (by decide) rfl (by decide) rfl ?_
  refine V2_callV [] d_P_voice_77 rfl rfl lk_P_297 mo_Voi_answer (by decide) rfl rfl rfl (Nat.le_of_ble_eq_true rfl) (Nat.le_of_ble_eq_true rfl) ?_
  refine V2.to (l' := [some (.ref 52)]) ?_ rfl rfl rfl rfl
  refine V2_aload_n (i := 0) d_Voi_answer_0 rfl rfl ?_
  refine V2_get (v := v5) d_Voi_answer_1 fl_Voi_28 (by decide) rfl (by decide) rfl rfl ?_
  refine V2_ireturn d_Voi_answer_4 rfl ?_
  refine V2.to (st' := [.int v5]) ?_ rfl rfl rfl rfl
  refine V2_ireturn d_P_voice_80 rfl ?_
  subst ev5 ev4 ev3 ev1
  exact xQi (hQ _ (mid_trace (n := 2) (b := (fun i => ([11, 10] : List Int32).getD i 0)) hR (by decide) (fun a h1 h2 h3 => by   repeat (first | rw [xp_row_ne h1] | rw [xp_row_ne h2] | rw [xp_row_ne h3]) ; try rfl) rfl (fun i hi => by rcases (show i = 0 ∨ i = 1 by omega) with h9 | h9 <;> subst h9 <;> rfl))) (by first | rfl | decide) rfl
theorem c_mv_0_1 {L : Nat} {xs : Nat → Int32} {d : Nat} {Q : Option Value → xF → Prop} {F : xF} {p : Nat} {x mm : Int32} {F0 : xF} (hR : Rel F0) (hp : p < PN (F0 66)) (ek : F0 66 (12 + 2 * p) = 0) (em : F0 66 (12 + 2 * p + 1) = mm) (hM : Mid F0 F (traceG F0 2 (fun i => ([11, 10] : List Int32).getD i 0))) (hQ : ∀ F2, Rel F2 → Q (some (.int ((x + nI p) * 2))) F2) : V2 L xs (d + 40) m_R_voice 0 (xEntry [.ref 65, .int (nI p), .int (1 : Int32), .int x] 6) [] F Q := by
  have e66 : F 66 = F0 66 := hM.1 66 (by decide)
  obtain ⟨eP, hP6⟩ := inv_PN hR.2.1.2.2.1
  have s1 : (F 66 11 - 1).toInt = (PN (F0 66) : Int) - 1 := sub_any (n := PN (F0 66)) ((congrFun e66 11).trans eP) (by omega) (by decide)
  refine V2.to (l' := [some (.ref 65), some (.int (nI p)), some (.int (1 : Int32)), some (.int x), none, none]) ?_ rfl rfl rfl rfl
  refine V2_aload_n (i := 0) d_R_voice_0 rfl rfl ?_
  refine V2_iload_n (i := 1) d_R_voice_1 rfl rfl ?_
  refine V2_callV [.int (nI p)] d_R_voice_2 rfl rfl lk_R_168 mo_R_isPusher (by decide) rfl rfl rfl (Nat.le_of_ble_eq_true rfl) (Nat.le_of_ble_eq_true rfl) ?_
  refine c_R_isPusher ?_
  refine V2_topi (fun v1 ev1 => ?_)
  refine V2_if_eq (tgt := 17) d_R_voice_5 rfl (fun c2 => (by first | exact absurd c2 (show ¬ v1 = 0 from by subst ev1; exact xb_ne.mpr (by rw [toI_le, toI_le, s1, nI_toInt (by omega)]; have q0 : (0 : Int32).toInt = 0 := (by decide); omega)) | exact absurd (show ¬ v1 = 0 from by subst ev1; exact xb_ne.mpr (by rw [toI_le, toI_le, s1, nI_toInt (by omega)]; have q0 : (0 : Int32).toInt = 0 := (by decide); omega)) c2)) (fun c2 => ?_)
  refine V2_iload_n (i := 2) d_R_voice_8 rfl rfl ?_
  refine V2_iconst (v := 0) d_R_voice_9 rfl ?_
  refine V2_iconst (v := 3) d_R_voice_10 rfl ?_
  refine V2_callS [.int (1 : Int32), .int (0 : Int32), .int (3 : Int32)] d_R_voice_11 rfl rfl lk_R_51 mo_R_in (Nat.le_of_ble_eq_true rfl) (Nat.le_of_ble_eq_true rfl) ?_
  refine V2.to (l' := [some (.int (1 : Int32)), some (.int (0 : Int32)), some (.int (3 : Int32))]) ?_ rfl rfl rfl rfl
  refine V2_iload_n (i := 0) d_R_in_0 rfl rfl ?_
  refine V2_iload_n (i := 1) d_R_in_1 rfl rfl ?_
  refine V2_icmp_lt (tgt := 14) d_R_in_2 rfl (fun c => (by first | exact absurd c (by decide) | exact absurd (by decide) c)) (fun _ => ?_)
  refine V2_iload_n (i := 0) d_R_in_5 rfl rfl ?_
  refine V2_iload_n (i := 2) d_R_in_6 rfl rfl ?_
  refine V2_icmp_gt (tgt := 14) d_R_in_7 rfl (fun c => (by first | exact absurd c (by decide) | exact absurd (by decide) c)) (fun _ => ?_)
  refine V2_iconst (v := 1) d_R_in_10 rfl ?_
  refine V2_goto (tgt := 15) d_R_in_11 rfl ?_
  refine V2_zreturn d_R_in_15 rfl (by decide) ?_
  refine V2.to (st' := [.int (1 : Int32)]) ?_ rfl rfl rfl rfl
  refine V2_if_ne (tgt := 23) d_R_voice_14 rfl (fun _ => ?_) (fun c => (by first | exact absurd c (by decide) | exact absurd (by decide) c))
  refine V2_aload_n (i := 0) d_R_voice_23 rfl rfl ?_
  refine V2_iconst (v := 0) d_R_voice_24 rfl ?_
  refine V2_put d_R_voice_25 fl_R_227 (by decide) rfl (by decide) rfl ?_
  refine V2_aload_n (i := 0) d_R_voice_28 rfl rfl ?_
  refine V2_iload_n (i := 1) d_R_voice_29 rfl rfl ?_
  refine V2_put d_R_voice_30 fl_R_230 (by decide) rfl (by decide) rfl ?_
  refine V2_aload_n (i := 0) d_R_voice_33 rfl rfl ?_
  refine V2_iconst (v := 0) d_R_voice_34 rfl ?_
  refine V2_putz d_R_voice_35 fl_R_251 (by decide) rfl (by decide) rfl (by decide) ?_
  refine V2_aload_n (i := 0) d_R_voice_38 rfl rfl ?_
  refine V2_callV [] d_R_voice_39 rfl rfl lk_R_239 mo_R_kindNow (by decide) rfl rfl rfl (Nat.le_of_ble_eq_true rfl) (Nat.le_of_ble_eq_true rfl) ?_
  refine c_R_kindNow (p := p) (by omega) rfl ?_
  refine V2_lit (v := 0) (show F 66 (12 + 2 * p) = 0 from (congrFun e66 _).trans ek) ?_
  refine V2_istore (i := 4) (l' := [some (.ref 65), some (.int (nI p)), some (.int (1 : Int32)), some (.int x), some (.int (0 : Int32)), none]) d_R_voice_42 (xst_i (Nat.le_of_ble_eq_true rfl) rfl rfl) ?_
  refine V2_iload_n (i := 2) d_R_voice_44 rfl rfl ?_
  refine V2_if_ne (tgt := 58) d_R_voice_45 rfl (fun _ => ?_) (fun c => (by first | exact absurd c (by decide) | exact absurd (by decide) c))
  refine V2_iload_n (i := 2) d_R_voice_58 rfl rfl ?_
  refine V2_iconst (v := 1) d_R_voice_59 rfl ?_
  refine V2_icmp_ne (tgt := 73) d_R_voice_60 rfl (fun c => (by first | exact absurd c (by decide) | exact absurd (by decide) c)) (fun _ => ?_)
  refine V2_aload_n (i := 0) d_R_voice_63 rfl rfl ?_
  refine V2_iload (i := 4) d_R_voice_64 rfl ?_
  refine V2_iload_n (i := 3) d_R_voice_66 rfl rfl ?_
  refine V2_callV [.int (0 : Int32), .int x] d_R_voice_67 rfl rfl lk_R_242 mo_R_slipsAs (by decide) rfl rfl rfl (Nat.le_of_ble_eq_true rfl) (Nat.le_of_ble_eq_true rfl) ?_
  refine V2.to (l' := [some (.ref 65), some (.int (0 : Int32)), some (.int x)]) ?_ rfl rfl rfl rfl
  refine V2_iload_n (i := 1) d_R_slipsAs_0 rfl rfl ?_
  refine V2_tableIn (tgt := 44) (off := 43) d_R_slipsAs_1 (by decide) (by decide) (by decide) rfl ?_
  refine V2_aload_n (i := 0) d_R_slipsAs_44 rfl rfl ?_
  refine V2_bipush (v := 11) d_R_slipsAs_45 rfl ?_
  refine V2_callV [.int (11 : Int32)] d_R_slipsAs_47 rfl rfl lk_R_233 mo_R_begins (by decide) rfl rfl rfl (Nat.le_of_ble_eq_true rfl) (Nat.le_of_ble_eq_true rfl) ?_
  refine V2.to (l' := [some (.ref 65), some (.int (11 : Int32))]) ?_ rfl rfl rfl rfl
  refine V2_aload_n (i := 0) d_R_begins_0 rfl rfl ?_
  refine V2_get (v := (0 : Int32)) d_R_begins_1 fl_R_227 (by decide) rfl (by decide) rfl rfl ?_
  refine V2_bipush (v := 30) d_R_begins_4 rfl ?_
  refine V2_icmp_ge (tgt := 29) d_R_begins_6 rfl (fun c => (by first | exact absurd c (by decide) | exact absurd (by decide) c)) (fun _ => ?_)
  refine V2_aload_n (i := 0) d_R_begins_9 rfl rfl ?_
  refine V2_getr (a := 73) d_R_begins_10 fl_R_35 (by decide) rfl (by decide) rfl ?_
  refine V2_aload_n (i := 0) d_R_begins_13 rfl rfl ?_
  refine V2_get (v := (0 : Int32)) d_R_begins_14 fl_R_227 (by decide) rfl (by decide) rfl rfl ?_
  refine V2_iload_n (i := 1) d_R_begins_17 rfl rfl ?_
  refine V2_iastore (j := 0) d_R_begins_18 (by decide) rfl (xixA (n := 0) rfl (by decide) (by decide)) rfl ?_
  refine V2_aload_n (i := 0) d_R_begins_19 rfl rfl ?_
  refine V2_dup d_R_begins_20 rfl ?_
  refine V2_get (v := (0 : Int32)) d_R_begins_21 fl_R_227 (by decide) rfl (by decide) rfl rfl ?_
  refine V2_iconst (v := 1) d_R_begins_24 rfl ?_
  refine V2_iadd d_R_begins_25 ?_
  refine V2_lit (v := 1) (by decide) ?_
  refine V2_put d_R_begins_26 fl_R_227 (by decide) rfl (by decide) rfl ?_
  refine V2_return d_R_begins_29 rfl ?_
  refine V2.to (st' := []) ?_ rfl rfl rfl rfl
  refine V2_aload_n (i := 0) d_R_slipsAs_50 rfl rfl ?_
  refine V2_aload_n (i := 0) d_R_slipsAs_51 rfl rfl ?_
  refine V2_callV [] d_R_slipsAs_52 rfl rfl lk_R_239 mo_R_kindNow (by decide) rfl rfl rfl (Nat.le_of_ble_eq_true rfl) (Nat.le_of_ble_eq_true rfl) ?_
  refine c_R_kindNow (p := p) (by omega) rfl ?_
  refine V2_lit (v := 0) (show F 66 (12 + 2 * p) = 0 from (congrFun e66 _).trans ek) ?_
  refine V2_iload_n (i := 2) d_R_slipsAs_55 rfl rfl ?_
  refine V2_callV [.int (0 : Int32), .int x] d_R_slipsAs_56 rfl rfl lk_R_236 mo_R_heavesAs (by decide) rfl rfl rfl (Nat.le_of_ble_eq_true rfl) (Nat.le_of_ble_eq_true rfl) ?_
  refine V2.to (l' := [some (.ref 65), some (.int (0 : Int32)), some (.int x)]) ?_ rfl rfl rfl rfl
  refine V2_iload_n (i := 1) d_R_heavesAs_0 rfl rfl ?_
  refine V2_tableIn (tgt := 44) (off := 43) d_R_heavesAs_1 (by decide) (by decide) (by decide) rfl ?_
  refine V2_aload_n (i := 0) d_R_heavesAs_44 rfl rfl ?_
  refine V2_bipush (v := 10) d_R_heavesAs_45 rfl ?_
  refine V2_callV [.int (10 : Int32)] d_R_heavesAs_47 rfl rfl lk_R_233 mo_R_begins (by decide) rfl rfl rfl (Nat.le_of_ble_eq_true rfl) (Nat.le_of_ble_eq_true rfl) ?_
  refine V2.to (l' := [some (.ref 65), some (.int (10 : Int32))]) ?_ rfl rfl rfl rfl
  refine V2_aload_n (i := 0) d_R_begins_0 rfl rfl ?_
  refine V2_get (v := (1 : Int32)) d_R_begins_1 fl_R_227 (by decide) rfl (by decide) rfl rfl ?_
  refine V2_bipush (v := 30) d_R_begins_4 rfl ?_
  refine V2_icmp_ge (tgt := 29) d_R_begins_6 rfl (fun c => (by first | exact absurd c (by decide) | exact absurd (by decide) c)) (fun _ => ?_)
  refine V2_aload_n (i := 0) d_R_begins_9 rfl rfl ?_
  refine V2_getr (a := 73) d_R_begins_10 fl_R_35 (by decide) rfl (by decide) rfl ?_
  refine V2_aload_n (i := 0) d_R_begins_13 rfl rfl ?_
  refine V2_get (v := (1 : Int32)) d_R_begins_14 fl_R_227 (by decide) rfl (by decide) rfl rfl ?_
  refine V2_iload_n (i := 1) d_R_begins_17 rfl rfl ?_
  refine V2_iastore (j := 1) d_R_begins_18 (by decide) rfl (xixA (n := 1) rfl (by decide) (by decide)) rfl ?_
  refine V2_aload_n (i := 0) d_R_begins_19 rfl rfl ?_
  refine V2_dup d_R_begins_20 rfl ?_
  refine V2_get (v := (1 : Int32)) d_R_begins_21 fl_R_227 (by decide) rfl (by decide) rfl rfl ?_
  refine V2_iconst (v := 1) d_R_begins_24 rfl ?_
  refine V2_iadd d_R_begins_25 ?_
  refine V2_lit (v := 2) (by decide) ?_
  refine V2_put d_R_begins_26 fl_R_227 (by decide) rfl (by decide) rfl ?_
  refine V2_return d_R_begins_29 rfl ?_
  refine V2.to (st' := []) ?_ rfl rfl rfl rfl
  refine V2_iload_n (i := 2) d_R_heavesAs_50 rfl rfl ?_
  refine V2_aload_n (i := 0) d_R_heavesAs_51 rfl rfl ?_
  refine V2_get (v := nI p) d_R_heavesAs_52 fl_R_230 (by decide) rfl (by decide) rfl rfl ?_
  refine V2_topi (fun v3 ev3 => ?_)
  refine V2_iadd d_R_heavesAs_55 ?_
  refine V2_topi (fun v4 ev4 => ?_)
  refine V2_ireturn d_R_heavesAs_56 rfl ?_
  refine V2.to (st' := [.int v4]) ?_ rfl rfl rfl rfl
  refine V2_iconst (v := 2) d_R_slipsAs_59 rfl ?_
  refine V2_imul d_R_slipsAs_60 ?_
  refine V2_topi (fun v5 ev5 => ?_)
  refine V2_ireturn d_R_slipsAs_61 rfl ?_
  refine V2.to (st' := [.int v5]) ?_ rfl rfl rfl rfl
  refine V2_goto (tgt := 95) d_R_voice_70 rfl ?_
  refine V2_istore (i := 5) (l' := [some (.ref 65), some (.int (nI p)), some (.int (1 : Int32)), some (.int x), some (.int (0 : Int32)), some (.int v5)]) d_R_voice_95 (xst_i (Nat.le_of_ble_eq_true rfl) rfl rfl) ?_
  refine V2_aload_n (i := 0) d_R_voice_97 rfl rfl ?_
  refine V2_get (v := (0 : Int32)) d_R_voice_98 fl_R_251 (by decide) rfl (by decide) rfl rfl ?_
  refine V2_if_eq (tgt := 113) d_R_voice_101 rfl (fun _ => ?_) (fun c => (by first | exact absurd c (by decide) | exact absurd (by decide) c))
  refine V2_iload (i := 5) d_R_voice_113 rfl ?_
  refine V2_ireturn d_R_voice_115 rfl ?_
  subst ev5 ev4 ev3 ev1
  refine xQi (hQ _ (rel_trace (n := 2) (b := (fun i => ([11, 10] : List Int32).getD i 0)) hR (by decide) hM ?_ ?_ ?_ ?_ ?_)) ?_ rfl
  · intro a h1 h2
    repeat (first | rw [xp_row_ne h1] | rw [xp_row_ne h2])
    try rfl
  · rfl
  · rfl
  · rfl
  · exact (fun i hi => by rcases (show i = 0 ∨ i = 1 by omega) with h9 | h9 <;> subst h9 <;> rfl)
  · first | rfl | decide
theorem c_cv_0_2 {L : Nat} {xs : Nat → Int32} {d : Nat} {Q : Option Value → xF → Prop} {F : xF} {p : Nat} {x mm : Int32} (hR : Rel F) (hp : p < PN (F 66)) (ek : F 66 (12 + 2 * p) = 0) (em : F 66 (12 + 2 * p + 1) = mm) (hQ : ∀ F1, Mid F F1 (traceG F 3 (fun i => ([12, 11, 10] : List Int32).getD i 0)) → Q (some (.int (((x + nI p) * 2) - mm))) F1) : V2 L xs (d + 40) m_P_voice 0 (xEntry [.ref 0, .int (nI p), .int (2 : Int32), .int x] 5) [] F Q := by
  obtain ⟨eP, hP6⟩ := inv_PN hR.2.1.2.2.1
  refine V2.to (l' := [some (.ref 0), some (.int (nI p)), some (.int (2 : Int32)), some (.int x), none]) ?_ rfl rfl rfl rfl
  refine V2_aload_n (i := 0) d_P_voice_0 rfl rfl ?_
  refine V2_getr (a := 1) d_P_voice_1 fl_P_10 (by decide) rfl (by decide) rfl ?_
  refine V2_getr (a := 3) d_P_voice_4 fl_P_70 (by decide) rfl (by decide) rfl ?_
  refine V2_iload_n (i := 1) d_P_voice_7 rfl rfl ?_
  refine V2_callV [.int (nI p)] d_P_voice_8 rfl rfl lk_P_84 mo_Push_has (by decide) rfl rfl rfl (Nat.le_of_ble_eq_true rfl) (Nat.le_of_ble_eq_true rfl) ?_
  refine c_Push_has (P := PN (F 66)) (hR.1.1.2.1.1.trans eP) hP6 ?_
  refine V2_topi (fun v1 ev1 => ?_)
  refine V2_if_eq (tgt := 21) d_P_voice_11 rfl (fun c2 => (by first | exact absurd c2 (show ¬ v1 = 0 from by subst ev1; exact xb_ne.mpr ⟨nI_pos' (by omega), by rw [hR.1.1.2.1.1, eP]; exact nI_lt hp (by omega)⟩) | exact absurd (show ¬ v1 = 0 from by subst ev1; exact xb_ne.mpr ⟨nI_pos' (by omega), by rw [hR.1.1.2.1.1, eP]; exact nI_lt hp (by omega)⟩) c2)) (fun c2 => ?_)
  refine V2_iload_n (i := 2) d_P_voice_14 rfl rfl ?_
  refine V2_callS [.int (2 : Int32)] d_P_voice_15 rfl rfl lk_P_290 mo_Voi_isVoice (Nat.le_of_ble_eq_true rfl) (Nat.le_of_ble_eq_true rfl) ?_
  refine V2.to (l' := [some (.int (2 : Int32))]) ?_ rfl rfl rfl rfl
  refine V2_iload_n (i := 0) d_Voi_isVoice_0 rfl rfl ?_
  refine V2_if_lt (tgt := 13) d_Voi_isVoice_1 rfl (fun c => (by first | exact absurd c (by decide) | exact absurd (by decide) c)) (fun _ => ?_)
  refine V2_iload_n (i := 0) d_Voi_isVoice_4 rfl rfl ?_
  refine V2_iconst (v := 4) d_Voi_isVoice_5 rfl ?_
  refine V2_icmp_ge (tgt := 13) d_Voi_isVoice_6 rfl (fun c => (by first | exact absurd c (by decide) | exact absurd (by decide) c)) (fun _ => ?_)
  refine V2_iconst (v := 1) d_Voi_isVoice_9 rfl ?_
  refine V2_goto (tgt := 14) d_Voi_isVoice_10 rfl ?_
  refine V2_zreturn d_Voi_isVoice_14 rfl (by decide) ?_
  refine V2.to (st' := [.int (1 : Int32)]) ?_ rfl rfl rfl rfl
  refine V2_if_ne (tgt := 27) d_P_voice_18 rfl (fun _ => ?_) (fun c => (by first | exact absurd c (by decide) | exact absurd (by decide) c))
  refine V2_aload_n (i := 0) d_P_voice_27 rfl rfl ?_
  refine V2_getr (a := 1) d_P_voice_28 fl_P_10 (by decide) rfl (by decide) rfl ?_
  refine V2_getr (a := 3) d_P_voice_31 fl_P_70 (by decide) rfl (by decide) rfl ?_
  refine V2_iload_n (i := 1) d_P_voice_34 rfl rfl ?_
  refine V2_callV [.int (nI p)] d_P_voice_35 rfl rfl lk_P_87 mo_Push_kindOf (by decide) rfl rfl rfl (Nat.le_of_ble_eq_true rfl) (Nat.le_of_ble_eq_true rfl) ?_
  refine c_Push_kindOf (P := PN (F 66)) (hR.1.1.2.1.1.trans eP) (hR.1.1.2.1.2.1.trans eP) hP6 hp ?_
  refine V2_lit (v := 0) (((rel_relP hR).2.2.2 p hp).1.trans ek) ?_
  refine V2_istore (i := 4) (l' := [some (.ref 0), some (.int (nI p)), some (.int (2 : Int32)), some (.int x), some (.int (0 : Int32))]) d_P_voice_38 (xst_i (Nat.le_of_ble_eq_true rfl) rfl rfl) ?_
  refine V2_aload_n (i := 0) d_P_voice_40 rfl rfl ?_
  refine V2_getr (a := 52) d_P_voice_41 fl_P_43 (by decide) rfl (by decide) rfl ?_
  refine V2_iload (i := 4) d_P_voice_44 rfl ?_
  refine V2_iload_n (i := 1) d_P_voice_46 rfl rfl ?_
  refine V2_aload_n (i := 0) d_P_voice_47 rfl rfl ?_
  refine V2_getr (a := 1) d_P_voice_48 fl_P_10 (by decide) rfl (by decide) rfl ?_
  refine V2_getr (a := 3) d_P_voice_51 fl_P_70 (by decide) rfl (by decide) rfl ?_
  refine V2_iload_n (i := 1) d_P_voice_54 rfl rfl ?_
  refine V2_callV [.int (nI p)] d_P_voice_55 rfl rfl lk_P_90 mo_Push_levelOf (by decide) rfl rfl rfl (Nat.le_of_ble_eq_true rfl) (Nat.le_of_ble_eq_true rfl) ?_
  refine c_Push_levelOf (P := PN (F 66)) (hR.1.1.2.1.1.trans eP) (hR.1.1.2.1.2.1.trans eP) hP6 hp ?_
  refine V2_lit (v := mm) (((rel_relP hR).2.2.2 p hp).2.trans em) ?_
  refine V2_iload_n (i := 2) d_P_voice_58 rfl rfl ?_
  refine V2_iload_n (i := 3) d_P_voice_59 rfl rfl ?_
  refine V2_callV [.int (0 : Int32), .int (nI p), .int mm, .int (2 : Int32), .int x] d_P_voice_60 rfl rfl lk_P_293 mo_Voi_speaks (by decide) rfl rfl rfl (Nat.le_of_ble_eq_true rfl) (Nat.le_of_ble_eq_true rfl) ?_
  refine V2.to (l' := [some (.ref 52), some (.int (0 : Int32)), some (.int (nI p)), some (.int mm), some (.int (2 : Int32)), some (.int x)]) ?_ rfl rfl rfl rfl
  refine V2_aload_n (i := 0) d_Voi_speaks_0 rfl rfl ?_
  refine V2_iload_n (i := 1) d_Voi_speaks_1 rfl rfl ?_
  refine V2_put d_Voi_speaks_2 fl_Voi_18 (by decide) rfl (by decide) rfl ?_
  refine V2_aload_n (i := 0) d_Voi_speaks_5 rfl rfl ?_
  refine V2_iload_n (i := 2) d_Voi_speaks_6 rfl rfl ?_
  refine V2_put d_Voi_speaks_7 fl_Voi_22 (by decide) rfl (by decide) rfl ?_
  refine V2_aload_n (i := 0) d_Voi_speaks_10 rfl rfl ?_
  refine V2_iload_n (i := 3) d_Voi_speaks_11 rfl rfl ?_
  refine V2_put d_Voi_speaks_12 fl_Voi_25 (by decide) rfl (by decide) rfl ?_
  refine V2_aload_n (i := 0) d_Voi_speaks_15 rfl rfl ?_
  refine V2_iconst (v := 0) d_Voi_speaks_16 rfl ?_
  refine V2_putz d_Voi_speaks_17 fl_Voi_31 (by decide) rfl (by decide) rfl (by decide) ?_
  refine V2_aload_n (i := 0) d_Voi_speaks_20 rfl rfl ?_
  refine V2_getr (a := 53) d_Voi_speaks_21 fl_Voi_14 (by decide) rfl (by decide) rfl ?_
  refine V2_callV [] d_Voi_speaks_24 rfl rfl lk_Voi_35 mo_Nums_empty (by decide) rfl rfl rfl (Nat.le_of_ble_eq_true rfl) (Nat.le_of_ble_eq_true rfl) ?_
  refine V2.to (l' := [some (.ref 53)]) ?_ rfl rfl rfl rfl
  refine V2_aload_n (i := 0) d_Nums_empty_0 rfl rfl ?_
  refine V2_iconst (v := 0) d_Nums_empty_1 rfl ?_
  refine V2_put d_Nums_empty_2 fl_Nums_7 (by decide) rfl (by decide) rfl ?_
  refine V2_return d_Nums_empty_5 rfl ?_
  refine V2.to (st' := []) ?_ rfl rfl rfl rfl
  refine V2_aload_n (i := 0) d_Voi_speaks_27 rfl rfl ?_
  refine V2_aload_n (i := 0) d_Voi_speaks_28 rfl rfl ?_
  refine V2_aload_n (i := 0) d_Voi_speaks_29 rfl rfl ?_
  refine V2_get (v := (0 : Int32)) d_Voi_speaks_30 fl_Voi_18 (by decide) rfl (by decide) rfl rfl ?_
  refine V2_iload (i := 4) d_Voi_speaks_33 rfl ?_
  refine V2_iload (i := 5) d_Voi_speaks_35 rfl ?_
  refine V2_iconst (v := 0) d_Voi_speaks_37 rfl ?_
  refine V2_callV [.int (0 : Int32), .int (2 : Int32), .int x, .int (0 : Int32)] d_Voi_speaks_38 rfl rfl lk_Voi_38 mo_Voi_says (by decide) rfl rfl rfl (Nat.le_of_ble_eq_true rfl) (Nat.le_of_ble_eq_true rfl) ?_
  refine V2.to (l' := [some (.ref 52), some (.int (0 : Int32)), some (.int (2 : Int32)), some (.int x), some (.int (0 : Int32)), none]) ?_ rfl rfl rfl rfl
  refine V2_iload_n (i := 1) d_Voi_says_0 rfl rfl ?_
  refine V2_iload_n (i := 2) d_Voi_says_1 rfl rfl ?_
  refine V2_callS [.int (0 : Int32), .int (2 : Int32)] d_Voi_says_2 rfl rfl lk_Voi_42 mo_Voi_bodyFrom (Nat.le_of_ble_eq_true rfl) (Nat.le_of_ble_eq_true rfl) ?_
  refine V2.to (l' := [some (.int (0 : Int32)), some (.int (2 : Int32)), none, none, none]) ?_ rfl rfl rfl rfl
  refine V2_iload_n (i := 0) d_Voi_bodyFrom_0 rfl rfl ?_
  refine V2_istore_n (i := 2) (l' := [some (.int (0 : Int32)), some (.int (2 : Int32)), some (.int (0 : Int32)), none, none]) d_Voi_bodyFrom_1 rfl (xst_i (Nat.le_of_ble_eq_true rfl) rfl rfl) ?_
  refine V2_iconst (v := 0) d_Voi_bodyFrom_2 rfl ?_
  refine V2_istore_n (i := 3) (l' := [some (.int (0 : Int32)), some (.int (2 : Int32)), some (.int (0 : Int32)), some (.int (0 : Int32)), none]) d_Voi_bodyFrom_3 rfl (xst_i (Nat.le_of_ble_eq_true rfl) rfl rfl) ?_
  refine V2_iload_n (i := 3) d_Voi_bodyFrom_4 rfl rfl ?_
  refine V2_getsB d_Voi_bodyFrom_5 gs_Voi_53 ?_
  refine V2_bodieslen d_Voi_bodyFrom_8 ?_
  refine V2_icmp_ge (tgt := 45) d_Voi_bodyFrom_9 rfl (fun c => (by first | exact absurd c (by decide) | exact absurd (by decide) c)) (fun _ => ?_)
  refine V2_iload_n (i := 2) d_Voi_bodyFrom_12 rfl rfl ?_
  refine V2_if_lt (tgt := 45) d_Voi_bodyFrom_13 rfl (fun c => (by first | exact absurd c (by decide) | exact absurd (by decide) c)) (fun _ => ?_)
  refine V2_iload_n (i := 2) d_Voi_bodyFrom_16 rfl rfl ?_
  refine V2_iconst (v := 4) d_Voi_bodyFrom_17 rfl ?_
  refine V2_imul d_Voi_bodyFrom_18 ?_
  refine V2_lit (v := 0) (by decide) ?_
  refine V2_iload_n (i := 1) d_Voi_bodyFrom_19 rfl rfl ?_
  refine V2_iadd d_Voi_bodyFrom_20 ?_
  refine V2_lit (v := 2) (by decide) ?_
  refine V2_callS [.int (2 : Int32)] d_Voi_bodyFrom_21 rfl rfl lk_Voi_57 mo_Voi_bodyAt (Nat.le_of_ble_eq_true rfl) (Nat.le_of_ble_eq_true rfl) ?_
  refine V2.to (l' := [some (.int (2 : Int32))]) ?_ rfl rfl rfl rfl
  refine V2_iload_n (i := 0) d_Voi_bodyAt_0 rfl rfl ?_
  refine V2_if_lt (tgt := 20) d_Voi_bodyAt_1 rfl (fun c => (by first | exact absurd c (by decide) | exact absurd (by decide) c)) (fun _ => ?_)
  refine V2_iload_n (i := 0) d_Voi_bodyAt_4 rfl rfl ?_
  refine V2_getsB d_Voi_bodyAt_5 gs_Voi_53 ?_
  refine V2_bodieslen d_Voi_bodyAt_8 ?_
  refine V2_icmp_ge (tgt := 20) d_Voi_bodyAt_9 rfl (fun c => (by first | exact absurd c (by decide) | exact absurd (by decide) c)) (fun _ => ?_)
  refine V2_getsB d_Voi_bodyAt_12 gs_Voi_53 ?_
  refine V2_iload_n (i := 0) d_Voi_bodyAt_15 rfl rfl ?_
  refine V2_bodies (v := 12) d_Voi_bodyAt_16 (xixA (n := 2) rfl (by decide) (by decide)) (by decide) ?_
  refine V2_goto (tgt := 21) d_Voi_bodyAt_17 rfl ?_
  refine V2_ireturn d_Voi_bodyAt_21 rfl ?_
  refine V2.to (st' := [.int (12 : Int32)]) ?_ rfl rfl rfl rfl
  refine V2_istore (i := 4) (l' := [some (.int (0 : Int32)), some (.int (2 : Int32)), some (.int (0 : Int32)), some (.int (0 : Int32)), some (.int (12 : Int32))]) d_Voi_bodyFrom_24 (xst_i (Nat.le_of_ble_eq_true rfl) rfl rfl) ?_
  refine V2_iload (i := 4) d_Voi_bodyFrom_26 rfl ?_
  refine V2_if_eq (tgt := 34) d_Voi_bodyFrom_28 rfl (fun c => (by first | exact absurd c (by decide) | exact absurd (by decide) c)) (fun _ => ?_)
  refine V2_iload (i := 4) d_Voi_bodyFrom_31 rfl ?_
  refine V2_ireturn d_Voi_bodyFrom_33 rfl ?_
  refine V2.to (st' := [.int (12 : Int32)]) ?_ rfl rfl rfl rfl
  refine V2_istore (i := 5) (l' := [some (.ref 52), some (.int (0 : Int32)), some (.int (2 : Int32)), some (.int x), some (.int (0 : Int32)), some (.int (12 : Int32))]) d_Voi_says_5 (xst_i (Nat.le_of_ble_eq_true rfl) rfl rfl) ?_
  refine V2_aload_n (i := 0) d_Voi_says_7 rfl rfl ?_
  refine V2_get (v := (0 : Int32)) d_Voi_says_8 fl_Voi_31 (by decide) rfl (by decide) rfl rfl ?_
  refine V2_if_ne (tgt := 26) d_Voi_says_11 rfl (fun c => (by first | exact absurd c (by decide) | exact absurd (by decide) c)) (fun _ => ?_)
  refine V2_iload (i := 5) d_Voi_says_14 rfl ?_
  refine V2_if_eq (tgt := 26) d_Voi_says_16 rfl (fun c => (by first | exact absurd c (by decide) | exact absurd (by decide) c)) (fun _ => ?_)
  refine V2_iload (i := 4) d_Voi_says_19 rfl ?_
  refine V2_bipush (v := 30) d_Voi_says_21 rfl ?_
  refine V2_icmp_lt (tgt := 28) d_Voi_says_23 rfl (fun _ => ?_) (fun c => (by first | exact absurd c (by decide) | exact absurd (by decide) c))
  refine V2_aload_n (i := 0) d_Voi_says_28 rfl rfl ?_
  refine V2_getr (a := 53) d_Voi_says_29 fl_Voi_14 (by decide) rfl (by decide) rfl ?_
  refine V2_iload (i := 5) d_Voi_says_32 rfl ?_
  refine V2_callV [.int (12 : Int32)] d_Voi_says_34 rfl rfl lk_Voi_46 mo_Nums_add (by decide) rfl rfl rfl (Nat.le_of_ble_eq_true rfl) (Nat.le_of_ble_eq_true rfl) ?_
  refine V2.to (l' := [some (.ref 53), some (.int (12 : Int32))]) ?_ rfl rfl rfl rfl
  refine V2_aload_n (i := 0) d_Nums_add_0 rfl rfl ?_
  refine V2_get (v := (0 : Int32)) d_Nums_add_1 fl_Nums_7 (by decide) rfl (by decide) rfl rfl ?_
  refine V2_if_lt (tgt := 39) d_Nums_add_4 rfl (fun c => (by first | exact absurd c (by decide) | exact absurd (by decide) c)) (fun _ => ?_)
  refine V2_aload_n (i := 0) d_Nums_add_7 rfl rfl ?_
  refine V2_get (v := (0 : Int32)) d_Nums_add_8 fl_Nums_7 (by decide) rfl (by decide) rfl rfl ?_
  refine V2_aload_n (i := 0) d_Nums_add_11 rfl rfl ?_
  refine V2_getr (a := 54) d_Nums_add_12 fl_Nums_19 (by decide) rfl (by decide) rfl ?_
  refine V2_alen (t := 0) (v := 30) d_Nums_add_15 (by decide) rfl (by decide) rfl ?_
  refine V2_icmp_ge (tgt := 39) d_Nums_add_16 rfl (fun c => (by first | exact absurd c (by decide) | exact absurd (by decide) c)) (fun _ => ?_)
  refine V2_aload_n (i := 0) d_Nums_add_19 rfl rfl ?_
  refine V2_getr (a := 54) d_Nums_add_20 fl_Nums_19 (by decide) rfl (by decide) rfl ?_
  refine V2_aload_n (i := 0) d_Nums_add_23 rfl rfl ?_
  refine V2_get (v := (0 : Int32)) d_Nums_add_24 fl_Nums_7 (by decide) rfl (by decide) rfl rfl ?_
  refine V2_iload_n (i := 1) d_Nums_add_27 rfl rfl ?_
  refine V2_iastore (j := 0) d_Nums_add_28 (by decide) rfl (xixA (n := 0) rfl (by decide) (by decide)) rfl ?_
  refine V2_aload_n (i := 0) d_Nums_add_29 rfl rfl ?_
  refine V2_dup d_Nums_add_30 rfl ?_
  refine V2_get (v := (0 : Int32)) d_Nums_add_31 fl_Nums_7 (by decide) rfl (by decide) rfl rfl ?_
  refine V2_iconst (v := 1) d_Nums_add_34 rfl ?_
  refine V2_iadd d_Nums_add_35 ?_
  refine V2_lit (v := 1) (by decide) ?_
  refine V2_put d_Nums_add_36 fl_Nums_7 (by decide) rfl (by decide) rfl ?_
  refine V2_return d_Nums_add_39 rfl ?_
  refine V2.to (st' := []) ?_ rfl rfl rfl rfl
  refine V2_aload_n (i := 0) d_Voi_says_37 rfl rfl ?_
  refine V2_iload (i := 5) d_Voi_says_38 rfl ?_
  refine V2_iload_n (i := 3) d_Voi_says_40 rfl rfl ?_
  refine V2_iload (i := 4) d_Voi_says_41 rfl ?_
  refine V2_iconst (v := 1) d_Voi_says_43 rfl ?_
  refine V2_iadd d_Voi_says_44 ?_
  refine V2_lit (v := 1) (by decide) ?_
  refine V2_callV [.int (12 : Int32), .int x, .int (1 : Int32)] d_Voi_says_45 rfl rfl lk_Voi_49 mo_Voi_worksOut (by decide) rfl rfl rfl (Nat.le_of_ble_eq_true rfl) (Nat.le_of_ble_eq_true rfl) ?_
  refine V2.to (l' := [some (.ref 52), some (.int (12 : Int32)), some (.int x), some (.int (1 : Int32))]) ?_ rfl rfl rfl rfl
  refine V2_iload_n (i := 1) d_Voi_worksOut_0 rfl rfl ?_
  refine V2_lookup (tgt := 137) (off := 136) d_Voi_worksOut_1 (by decide) (by decide +kernel) rfl ?_
  refine V2_aload_n (i := 0) d_Voi_worksOut_137 rfl rfl ?_
  refine V2_aload_n (i := 0) d_Voi_worksOut_138 rfl rfl ?_
  refine V2_get (v := (0 : Int32)) d_Voi_worksOut_139 fl_Voi_18 (by decide) rfl (by decide) rfl rfl ?_
  refine V2_iconst (v := 1) d_Voi_worksOut_142 rfl ?_
  refine V2_iload_n (i := 2) d_Voi_worksOut_143 rfl rfl ?_
  refine V2_iload_n (i := 3) d_Voi_worksOut_144 rfl rfl ?_
  refine V2_callV [.int (0 : Int32), .int (1 : Int32), .int x, .int (1 : Int32)] d_Voi_worksOut_145 rfl rfl lk_Voi_38 mo_Voi_says (by decide) rfl rfl rfl (Nat.le_of_ble_eq_true rfl) (Nat.le_of_ble_eq_true rfl) ?_
  refine V2.to (l' := [some (.ref 52), some (.int (0 : Int32)), some (.int (1 : Int32)), some (.int x), some (.int (1 : Int32)), none]) ?_ rfl rfl rfl rfl
  refine V2_iload_n (i := 1) d_Voi_says_0 rfl rfl ?_
  refine V2_iload_n (i := 2) d_Voi_says_1 rfl rfl ?_
  refine V2_callS [.int (0 : Int32), .int (1 : Int32)] d_Voi_says_2 rfl rfl lk_Voi_42 mo_Voi_bodyFrom (Nat.le_of_ble_eq_true rfl) (Nat.le_of_ble_eq_true rfl) ?_
  refine V2.to (l' := [some (.int (0 : Int32)), some (.int (1 : Int32)), none, none, none]) ?_ rfl rfl rfl rfl
  refine V2_iload_n (i := 0) d_Voi_bodyFrom_0 rfl rfl ?_
  refine V2_istore_n (i := 2) (l' := [some (.int (0 : Int32)), some (.int (1 : Int32)), some (.int (0 : Int32)), none, none]) d_Voi_bodyFrom_1 rfl (xst_i (Nat.le_of_ble_eq_true rfl) rfl rfl) ?_
  refine V2_iconst (v := 0) d_Voi_bodyFrom_2 rfl ?_
  refine V2_istore_n (i := 3) (l' := [some (.int (0 : Int32)), some (.int (1 : Int32)), some (.int (0 : Int32)), some (.int (0 : Int32)), none]) d_Voi_bodyFrom_3 rfl (xst_i (Nat.le_of_ble_eq_true rfl) rfl rfl) ?_
  refine V2_iload_n (i := 3) d_Voi_bodyFrom_4 rfl rfl ?_
  refine V2_getsB d_Voi_bodyFrom_5 gs_Voi_53 ?_
  refine V2_bodieslen d_Voi_bodyFrom_8 ?_
  refine V2_icmp_ge (tgt := 45) d_Voi_bodyFrom_9 rfl (fun c => (by first | exact absurd c (by decide) | exact absurd (by decide) c)) (fun _ => ?_)
  refine V2_iload_n (i := 2) d_Voi_bodyFrom_12 rfl rfl ?_
  refine V2_if_lt (tgt := 45) d_Voi_bodyFrom_13 rfl (fun c => (by first | exact absurd c (by decide) | exact absurd (by decide) c)) (fun _ => ?_)
  refine V2_iload_n (i := 2) d_Voi_bodyFrom_16 rfl rfl ?_
  refine V2_iconst (v := 4) d_Voi_bodyFrom_17 rfl ?_
  refine V2_imul d_Voi_bodyFrom_18 ?_
  refine V2_lit (v := 0) (by decide) ?_
  refine V2_iload_n (i := 1) d_Voi_bodyFrom_19 rfl rfl ?_
  refine V2_iadd d_Voi_bodyFrom_20 ?_
  refine V2_lit (v := 1) (by decide) ?_
  refine V2_callS [.int (1 : Int32)] d_Voi_bodyFrom_21 rfl rfl lk_Voi_57 mo_Voi_bodyAt (Nat.le_of_ble_eq_true rfl) (Nat.le_of_ble_eq_true rfl) ?_
  refine V2.to (l' := [some (.int (1 : Int32))]) ?_ rfl rfl rfl rfl
  refine V2_iload_n (i := 0) d_Voi_bodyAt_0 rfl rfl ?_
  refine V2_if_lt (tgt := 20) d_Voi_bodyAt_1 rfl (fun c => (by first | exact absurd c (by decide) | exact absurd (by decide) c)) (fun _ => ?_)
  refine V2_iload_n (i := 0) d_Voi_bodyAt_4 rfl rfl ?_
  refine V2_getsB d_Voi_bodyAt_5 gs_Voi_53 ?_
  refine V2_bodieslen d_Voi_bodyAt_8 ?_
  refine V2_icmp_ge (tgt := 20) d_Voi_bodyAt_9 rfl (fun c => (by first | exact absurd c (by decide) | exact absurd (by decide) c)) (fun _ => ?_)
  refine V2_getsB d_Voi_bodyAt_12 gs_Voi_53 ?_
  refine V2_iload_n (i := 0) d_Voi_bodyAt_15 rfl rfl ?_
  refine V2_bodies (v := 11) d_Voi_bodyAt_16 (xixA (n := 1) rfl (by decide) (by decide)) (by decide) ?_
  refine V2_goto (tgt := 21) d_Voi_bodyAt_17 rfl ?_
  refine V2_ireturn d_Voi_bodyAt_21 rfl ?_
  refine V2.to (st' := [.int (11 : Int32)]) ?_ rfl rfl rfl rfl
  refine V2_istore (i := 4) (l' := [some (.int (0 : Int32)), some (.int (1 : Int32)), some (.int (0 : Int32)), some (.int (0 : Int32)), some (.int (11 : Int32))]) d_Voi_bodyFrom_24 (xst_i (Nat.le_of_ble_eq_true rfl) rfl rfl) ?_
  refine V2_iload (i := 4) d_Voi_bodyFrom_26 rfl ?_
  refine V2_if_eq (tgt := 34) d_Voi_bodyFrom_28 rfl (fun c => (by first | exact absurd c (by decide) | exact absurd (by decide) c)) (fun _ => ?_)
  refine V2_iload (i := 4) d_Voi_bodyFrom_31 rfl ?_
  refine V2_ireturn d_Voi_bodyFrom_33 rfl ?_
  refine V2.to (st' := [.int (11 : Int32)]) ?_ rfl rfl rfl rfl
  refine V2_istore (i := 5) (l' := [some (.ref 52), some (.int (0 : Int32)), some (.int (1 : Int32)), some (.int x), some (.int (1 : Int32)), some (.int (11 : Int32))]) d_Voi_says_5 (xst_i (Nat.le_of_ble_eq_true rfl) rfl rfl) ?_
  refine V2_aload_n (i := 0) d_Voi_says_7 rfl rfl ?_
  refine V2_get (v := (0 : Int32)) d_Voi_says_8 fl_Voi_31 (by decide) rfl (by decide) rfl rfl ?_
  refine V2_if_ne (tgt := 26) d_Voi_says_11 rfl (fun c => (by first | exact absurd c (by decide) | exact absurd (by decide) c)) (fun _ => ?_)
  refine V2_iload (i := 5) d_Voi_says_14 rfl ?_
  refine V2_if_eq (tgt := 26) d_Voi_says_16 rfl (fun c => (by first | exact absurd c (by decide) | exact absurd (by decide) c)) (fun _ => ?_)
  refine V2_iload (i := 4) d_Voi_says_19 rfl ?_
  refine V2_bipush (v := 30) d_Voi_says_21 rfl ?_
  refine V2_icmp_lt (tgt := 28) d_Voi_says_23 rfl (fun _ => ?_) (fun c => (by first | exact absurd c (by decide) | exact absurd (by decide) c))
  refine V2_aload_n (i := 0) d_Voi_says_28 rfl rfl ?_
  refine V2_getr (a := 53) d_Voi_says_29 fl_Voi_14 (by decide) rfl (by decide) rfl ?_
  refine V2_iload (i := 5) d_Voi_says_32 rfl ?_
  refine V2_callV [.int (11 : Int32)] d_Voi_says_34 rfl rfl lk_Voi_46 mo_Nums_add (by decide) rfl rfl rfl (Nat.le_of_ble_eq_true rfl) (Nat.le_of_ble_eq_true rfl) ?_
  refine V2.to (l' := [some (.ref 53), some (.int (11 : Int32))]) ?_ rfl rfl rfl rfl
  refine V2_aload_n (i := 0) d_Nums_add_0 rfl rfl ?_
  refine V2_get (v := (1 : Int32)) d_Nums_add_1 fl_Nums_7 (by decide) rfl (by decide) rfl rfl ?_
  refine V2_if_lt (tgt := 39) d_Nums_add_4 rfl (fun c => (by first | exact absurd c (by decide) | exact absurd (by decide) c)) (fun _ => ?_)
  refine V2_aload_n (i := 0) d_Nums_add_7 rfl rfl ?_
  refine V2_get (v := (1 : Int32)) d_Nums_add_8 fl_Nums_7 (by decide) rfl (by decide) rfl rfl ?_
  refine V2_aload_n (i := 0) d_Nums_add_11 rfl rfl ?_
  refine V2_getr (a := 54) d_Nums_add_12 fl_Nums_19 (by decide) rfl (by decide) rfl ?_
  refine V2_alen (t := 0) (v := 30) d_Nums_add_15 (by decide) rfl (by decide) rfl ?_
  refine V2_icmp_ge (tgt := 39) d_Nums_add_16 rfl (fun c => (by first | exact absurd c (by decide) | exact absurd (by decide) c)) (fun _ => ?_)
  refine V2_aload_n (i := 0) d_Nums_add_19 rfl rfl ?_
  refine V2_getr (a := 54) d_Nums_add_20 fl_Nums_19 (by decide) rfl (by decide) rfl ?_
  refine V2_aload_n (i := 0) d_Nums_add_23 rfl rfl ?_
  refine V2_get (v := (1 : Int32)) d_Nums_add_24 fl_Nums_7 (by decide) rfl (by decide) rfl rfl ?_
  refine V2_iload_n (i := 1) d_Nums_add_27 rfl rfl ?_
  refine V2_iastore (j := 1) d_Nums_add_28 (by decide) rfl (xixA (n := 1) rfl (by decide) (by decide)) rfl ?_
  refine V2_aload_n (i := 0) d_Nums_add_29 rfl rfl ?_
  refine V2_dup d_Nums_add_30 rfl ?_
  refine V2_get (v := (1 : Int32)) d_Nums_add_31 fl_Nums_7 (by decide) rfl (by decide) rfl rfl ?_
  refine V2_iconst (v := 1) d_Nums_add_34 rfl ?_
  refine V2_iadd d_Nums_add_35 ?_
  refine V2_lit (v := 2) (by decide) ?_
  refine V2_put d_Nums_add_36 fl_Nums_7 (by decide) rfl (by decide) rfl ?_
  refine V2_return d_Nums_add_39 rfl ?_
  refine V2.to (st' := []) ?_ rfl rfl rfl rfl
  refine V2_aload_n (i := 0) d_Voi_says_37 rfl rfl ?_
  refine V2_iload (i := 5) d_Voi_says_38 rfl ?_
  refine V2_iload_n (i := 3) d_Voi_says_40 rfl rfl ?_
  refine V2_iload (i := 4) d_Voi_says_41 rfl ?_
  refine V2_iconst (v := 1) d_Voi_says_43 rfl ?_
  refine V2_iadd d_Voi_says_44 ?_
  refine V2_lit (v := 2) (by decide) ?_
  refine V2_callV [.int (11 : Int32), .int x, .int (2 : Int32)] d_Voi_says_45 rfl rfl lk_Voi_49 mo_Voi_worksOut (by decide) rfl rfl rfl (Nat.le_of_ble_eq_true rfl) (Nat.le_of_ble_eq_true rfl) ?_
  refine V2.to (l' := [some (.ref 52), some (.int (11 : Int32)), some (.int x), some (.int (2 : Int32))]) ?_ rfl rfl rfl rfl
  refine V2_iload_n (i := 1) d_Voi_worksOut_0 rfl rfl ?_
  refine V2_lookup (tgt := 123) (off := 122) d_Voi_worksOut_1 (by decide) (by decide +kernel) rfl ?_
  refine V2_aload_n (i := 0) d_Voi_worksOut_123 rfl rfl ?_
  refine V2_aload_n (i := 0) d_Voi_worksOut_124 rfl rfl ?_
  refine V2_get (v := (0 : Int32)) d_Voi_worksOut_125 fl_Voi_18 (by decide) rfl (by decide) rfl rfl ?_
  refine V2_iconst (v := 0) d_Voi_worksOut_128 rfl ?_
  refine V2_iload_n (i := 2) d_Voi_worksOut_129 rfl rfl ?_
  refine V2_iload_n (i := 3) d_Voi_worksOut_130 rfl rfl ?_
  refine V2_callV [.int (0 : Int32), .int (0 : Int32), .int x, .int (2 : Int32)] d_Voi_worksOut_131 rfl rfl lk_Voi_38 mo_Voi_says (by decide) rfl rfl rfl (Nat.le_of_ble_eq_true rfl) (Nat.le_of_ble_eq_true rfl) ?_
  refine V2.to (l' := [some (.ref 52), some (.int (0 : Int32)), some (.int (0 : Int32)), some (.int x), some (.int (2 : Int32)), none]) ?_ rfl rfl rfl rfl
  refine V2_iload_n (i := 1) d_Voi_says_0 rfl rfl ?_
  refine V2_iload_n (i := 2) d_Voi_says_1 rfl rfl ?_
  refine V2_callS [.int (0 : Int32), .int (0 : Int32)] d_Voi_says_2 rfl rfl lk_Voi_42 mo_Voi_bodyFrom (Nat.le_of_ble_eq_true rfl) (Nat.le_of_ble_eq_true rfl) ?_
  refine V2.to (l' := [some (.int (0 : Int32)), some (.int (0 : Int32)), none, none, none]) ?_ rfl rfl rfl rfl
  refine V2_iload_n (i := 0) d_Voi_bodyFrom_0 rfl rfl ?_
  refine V2_istore_n (i := 2) (l' := [some (.int (0 : Int32)), some (.int (0 : Int32)), some (.int (0 : Int32)), none, none]) d_Voi_bodyFrom_1 rfl (xst_i (Nat.le_of_ble_eq_true rfl) rfl rfl) ?_
  refine V2_iconst (v := 0) d_Voi_bodyFrom_2 rfl ?_
  refine V2_istore_n (i := 3) (l' := [some (.int (0 : Int32)), some (.int (0 : Int32)), some (.int (0 : Int32)), some (.int (0 : Int32)), none]) d_Voi_bodyFrom_3 rfl (xst_i (Nat.le_of_ble_eq_true rfl) rfl rfl) ?_
  refine V2_iload_n (i := 3) d_Voi_bodyFrom_4 rfl rfl ?_
  refine V2_getsB d_Voi_bodyFrom_5 gs_Voi_53 ?_
  refine V2_bodieslen d_Voi_bodyFrom_8 ?_
  refine V2_icmp_ge (tgt := 45) d_Voi_bodyFrom_9 rfl (fun c => (by first | exact absurd c (by decide) | exact absurd (by decide) c)) (fun _ => ?_)
  refine V2_iload_n (i := 2) d_Voi_bodyFrom_12 rfl rfl ?_
  refine V2_if_lt (tgt := 45) d_Voi_bodyFrom_13 rfl (fun c => (by first | exact absurd c (by decide) | exact absurd (by decide) c)) (fun _ => ?_)
  refine V2_iload_n (i := 2) d_Voi_bodyFrom_16 rfl rfl ?_
  refine V2_iconst (v := 4) d_Voi_bodyFrom_17 rfl ?_
  refine V2_imul d_Voi_bodyFrom_18 ?_
  refine V2_lit (v := 0) (by decide) ?_
  refine V2_iload_n (i := 1) d_Voi_bodyFrom_19 rfl rfl ?_
  refine V2_iadd d_Voi_bodyFrom_20 ?_
  refine V2_lit (v := 0) (by decide) ?_
  refine V2_callS [.int (0 : Int32)] d_Voi_bodyFrom_21 rfl rfl lk_Voi_57 mo_Voi_bodyAt (Nat.le_of_ble_eq_true rfl) (Nat.le_of_ble_eq_true rfl) ?_
  refine V2.to (l' := [some (.int (0 : Int32))]) ?_ rfl rfl rfl rfl
  refine V2_iload_n (i := 0) d_Voi_bodyAt_0 rfl rfl ?_
  refine V2_if_lt (tgt := 20) d_Voi_bodyAt_1 rfl (fun c => (by first | exact absurd c (by decide) | exact absurd (by decide) c)) (fun _ => ?_)
  refine V2_iload_n (i := 0) d_Voi_bodyAt_4 rfl rfl ?_
  refine V2_getsB d_Voi_bodyAt_5 gs_Voi_53 ?_
  refine V2_bodieslen d_Voi_bodyAt_8 ?_
  refine V2_icmp_ge (tgt := 20) d_Voi_bodyAt_9 rfl (fun c => (by first | exact absurd c (by decide) | exact absurd (by decide) c)) (fun _ => ?_)
  refine V2_getsB d_Voi_bodyAt_12 gs_Voi_53 ?_
  refine V2_iload_n (i := 0) d_Voi_bodyAt_15 rfl rfl ?_
  refine V2_bodies (v := 10) d_Voi_bodyAt_16 (xixA (n := 0) rfl (by decide) (by decide)) (by decide) ?_
  refine V2_goto (tgt := 21) d_Voi_bodyAt_17 rfl ?_
  refine V2_ireturn d_Voi_bodyAt_21 rfl ?_
  refine V2.to (st' := [.int (10 : Int32)]) ?_ rfl rfl rfl rfl
  refine V2_istore (i := 4) (l' := [some (.int (0 : Int32)), some (.int (0 : Int32)), some (.int (0 : Int32)), some (.int (0 : Int32)), some (.int (10 : Int32))]) d_Voi_bodyFrom_24 (xst_i (Nat.le_of_ble_eq_true rfl) rfl rfl) ?_
  refine V2_iload (i := 4) d_Voi_bodyFrom_26 rfl ?_
  refine V2_if_eq (tgt := 34) d_Voi_bodyFrom_28 rfl (fun c => (by first | exact absurd c (by decide) | exact absurd (by decide) c)) (fun _ => ?_)
  refine V2_iload (i := 4) d_Voi_bodyFrom_31 rfl ?_
  refine V2_ireturn d_Voi_bodyFrom_33 rfl ?_
  refine V2.to (st' := [.int (10 : Int32)]) ?_ rfl rfl rfl rfl
  refine V2_istore (i := 5) (l' := [some (.ref 52), some (.int (0 : Int32)), some (.int (0 : Int32)), some (.int x), some (.int (2 : Int32)), some (.int (10 : Int32))]) d_Voi_says_5 (xst_i (Nat.le_of_ble_eq_true rfl) rfl rfl) ?_
  refine V2_aload_n (i := 0) d_Voi_says_7 rfl rfl ?_
  refine V2_get (v := (0 : Int32)) d_Voi_says_8 fl_Voi_31 (by decide) rfl (by decide) rfl rfl ?_
  refine V2_if_ne (tgt := 26) d_Voi_says_11 rfl (fun c => (by first | exact absurd c (by decide) | exact absurd (by decide) c)) (fun _ => ?_)
  refine V2_iload (i := 5) d_Voi_says_14 rfl ?_
  refine V2_if_eq (tgt := 26) d_Voi_says_16 rfl (fun c => (by first | exact absurd c (by decide) | exact absurd (by decide) c)) (fun _ => ?_)
  refine V2_iload (i := 4) d_Voi_says_19 rfl ?_
  refine V2_bipush (v := 30) d_Voi_says_21 rfl ?_
  refine V2_icmp_lt (tgt := 28) d_Voi_says_23 rfl (fun _ => ?_) (fun c => (by first | exact absurd c (by decide) | exact absurd (by decide) c))
  refine V2_aload_n (i := 0) d_Voi_says_28 rfl rfl ?_
  refine V2_getr (a := 53) d_Voi_says_29 fl_Voi_14 (by decide) rfl (by decide) rfl ?_
  refine V2_iload (i := 5) d_Voi_says_32 rfl ?_
  refine V2_callV [.int (10 : Int32)] d_Voi_says_34 rfl rfl lk_Voi_46 mo_Nums_add (by decide) rfl rfl rfl (Nat.le_of_ble_eq_true rfl) (Nat.le_of_ble_eq_true rfl) ?_
  refine V2.to (l' := [some (.ref 53), some (.int (10 : Int32))]) ?_ rfl rfl rfl rfl
  refine V2_aload_n (i := 0) d_Nums_add_0 rfl rfl ?_
  refine V2_get (v := (2 : Int32)) d_Nums_add_1 fl_Nums_7 (by decide) rfl (by decide) rfl rfl ?_
  refine V2_if_lt (tgt := 39) d_Nums_add_4 rfl (fun c => (by first | exact absurd c (by decide) | exact absurd (by decide) c)) (fun _ => ?_)
  refine V2_aload_n (i := 0) d_Nums_add_7 rfl rfl ?_
  refine V2_get (v := (2 : Int32)) d_Nums_add_8 fl_Nums_7 (by decide) rfl (by decide) rfl rfl ?_
  refine V2_aload_n (i := 0) d_Nums_add_11 rfl rfl ?_
  refine V2_getr (a := 54) d_Nums_add_12 fl_Nums_19 (by decide) rfl (by decide) rfl ?_
  refine V2_alen (t := 0) (v := 30) d_Nums_add_15 (by decide) rfl (by decide) rfl ?_
  refine V2_icmp_ge (tgt := 39) d_Nums_add_16 rfl (fun c => (by first | exact absurd c (by decide) | exact absurd (by decide) c)) (fun _ => ?_)
  refine V2_aload_n (i := 0) d_Nums_add_19 rfl rfl ?_
  refine V2_getr (a := 54) d_Nums_add_20 fl_Nums_19 (by decide) rfl (by decide) rfl ?_
  refine V2_aload_n (i := 0) d_Nums_add_23 rfl rfl ?_
  refine V2_get (v := (2 : Int32)) d_Nums_add_24 fl_Nums_7 (by decide) rfl (by decide) rfl rfl ?_
  refine V2_iload_n (i := 1) d_Nums_add_27 rfl rfl ?_
  refine V2_iastore (j := 2) d_Nums_add_28 (by decide) rfl (xixA (n := 2) rfl (by decide) (by decide)) rfl ?_
  refine V2_aload_n (i := 0) d_Nums_add_29 rfl rfl ?_
  refine V2_dup d_Nums_add_30 rfl ?_
  refine V2_get (v := (2 : Int32)) d_Nums_add_31 fl_Nums_7 (by decide) rfl (by decide) rfl rfl ?_
  refine V2_iconst (v := 1) d_Nums_add_34 rfl ?_
  refine V2_iadd d_Nums_add_35 ?_
  refine V2_lit (v := 3) (by decide) ?_
  refine V2_put d_Nums_add_36 fl_Nums_7 (by decide) rfl (by decide) rfl ?_
  refine V2_return d_Nums_add_39 rfl ?_
  refine V2.to (st' := []) ?_ rfl rfl rfl rfl
  refine V2_aload_n (i := 0) d_Voi_says_37 rfl rfl ?_
  refine V2_iload (i := 5) d_Voi_says_38 rfl ?_
  refine V2_iload_n (i := 3) d_Voi_says_40 rfl rfl ?_
  refine V2_iload (i := 4) d_Voi_says_41 rfl ?_
  refine V2_iconst (v := 1) d_Voi_says_43 rfl ?_
  refine V2_iadd d_Voi_says_44 ?_
  refine V2_lit (v := 3) (by decide) ?_
  refine V2_callV [.int (10 : Int32), .int x, .int (3 : Int32)] d_Voi_says_45 rfl rfl lk_Voi_49 mo_Voi_worksOut (by decide) rfl rfl rfl (Nat.le_of_ble_eq_true rfl) (Nat.le_of_ble_eq_true rfl) ?_
  refine V2.to (l' := [some (.ref 52), some (.int (10 : Int32)), some (.int x), some (.int (3 : Int32))]) ?_ rfl rfl rfl rfl
  refine V2_iload_n (i := 1) d_Voi_worksOut_0 rfl rfl ?_
  refine V2_lookup (tgt := 116) (off := 115) d_Voi_worksOut_1 (by decide) (by decide +kernel) rfl ?_
  refine V2_iload_n (i := 2) d_Voi_worksOut_116 rfl rfl ?_
  refine V2_aload_n (i := 0) d_Voi_worksOut_117 rfl rfl ?_
  refine V2_get (v := nI p) d_Voi_worksOut_118 fl_Voi_22 (by decide) rfl (by decide) rfl rfl ?_
  refine V2_topi (fun v3 ev3 => ?_)
  refine V2_iadd d_Voi_worksOut_121 ?_
  refine V2_topi (fun v4 ev4 => ?_)
  refine V2_ireturn d_Voi_worksOut_122 rfl ?_
  refine V2.to (st' := [.int v4]) ?_ rfl rfl rfl rfl
  refine V2_ireturn d_Voi_says_48 rfl ?_
  refine V2.to (st' := [.int v4]) ?_ rfl rfl rfl rfl
  refine V2_iconst (v := 2) d_Voi_worksOut_134 rfl ?_
  refine V2_imul d_Voi_worksOut_135 ?_
  refine V2_topi (fun v5 ev5 => ?_)
  refine V2_ireturn d_Voi_worksOut_136 rfl ?_
  refine V2.to (st' := [.int v5]) ?_ rfl rfl rfl rfl
  refine V2_ireturn d_Voi_says_48 rfl ?_
  refine V2.to (st' := [.int v5]) ?_ rfl rfl rfl rfl
  refine V2_aload_n (i := 0) d_Voi_worksOut_148 rfl rfl ?_
  refine V2_get (v := mm) d_Voi_worksOut_149 fl_Voi_25 (by decide) rfl (by decide) rfl rfl ?_
  refine V2_isub d_Voi_worksOut_152 ?_
  refine V2_topi (fun v6 ev6 => ?_)
  refine V2_ireturn d_Voi_worksOut_153 rfl ?_
  refine V2.to (st' := [.int v6]) ?_ rfl rfl rfl rfl
  refine V2_ireturn d_Voi_says_48 rfl ?_
  refine V2.to (st' := [.int v6, .ref 52]) ?_ rfl rfl rfl rfl
  refine V2_put d_Voi_speaks_41 fl_Voi_28 (by decide) rfl (by decide) rfl ?_
  refine V2_aload_n (i := 0) d_Voi_speaks_44 rfl rfl ?_
  refine V2_get (v := (0 : Int32)) d_Voi_speaks_45 fl_Voi_31 (by decide) rfl (by decide) rfl rfl ?_
  refine V2_if_ne (tgt := 55) d_Voi_speaks_48 rfl (fun c => (by first | exact absurd c (by decide) | exact absurd (by decide) c)) (fun _ => ?_)
  refine V2_iconst (v := 1) d_Voi_speaks_51 rfl ?_
  refine V2_goto (tgt := 56) d_Voi_speaks_52 rfl ?_
  refine V2_zreturn d_Voi_speaks_56 rfl (by decide) ?_
  refine V2.to (st' := [.int (1 : Int32)]) ?_ rfl rfl rfl rfl
  refine V2_if_ne (tgt := 73) d_P_voice_63 rfl (fun _ => ?_) (fun c => (by first | exact absurd c (by decide) | exact absurd (by decide) c))
  refine V2_aload_n (i := 0) d_P_voice_73 rfl rfl ?_
  refine V2_getr (a := 52) d_P_voice_74 fl_P_43 (by decide) rfl (by decide) rfl ?_
  refine V2_callV [] d_P_voice_77 rfl rfl lk_P_297 mo_Voi_answer (by decide) rfl rfl rfl (Nat.le_of_ble_eq_true rfl) (Nat.le_of_ble_eq_true rfl) ?_
  refine V2.to (l' := [some (.ref 52)]) ?_ rfl rfl rfl rfl
  refine V2_aload_n (i := 0) d_Voi_answer_0 rfl rfl ?_
  refine V2_get (v := v6) d_Voi_answer_1 fl_Voi_28 (by decide) rfl (by decide) rfl rfl ?_
  refine V2_ireturn d_Voi_answer_4 rfl ?_
  refine V2.to (st' := [.int v6]) ?_ rfl rfl rfl rfl
  refine V2_ireturn d_P_voice_80 rfl ?_
  subst ev6 ev5 ev4 ev3 ev1
  exact xQi (hQ _ (mid_trace (n := 3) (b := (fun i => ([12, 11, 10] : List Int32).getD i 0)) hR (by decide) (fun a h1 h2 h3 => by   repeat (first | rw [xp_row_ne h1] | rw [xp_row_ne h2] | rw [xp_row_ne h3]) ; try rfl) rfl (fun i hi => by rcases (show i = 0 ∨ i = 1 ∨ i = 2 by omega) with h9 | h9 | h9 <;> subst h9 <;> rfl))) (by first | rfl | decide) rfl
theorem c_mv_0_2 {L : Nat} {xs : Nat → Int32} {d : Nat} {Q : Option Value → xF → Prop} {F : xF} {p : Nat} {x mm : Int32} {F0 : xF} (hR : Rel F0) (hp : p < PN (F0 66)) (ek : F0 66 (12 + 2 * p) = 0) (em : F0 66 (12 + 2 * p + 1) = mm) (hM : Mid F0 F (traceG F0 3 (fun i => ([12, 11, 10] : List Int32).getD i 0))) (hQ : ∀ F2, Rel F2 → Q (some (.int (((x + nI p) * 2) - mm))) F2) : V2 L xs (d + 40) m_R_voice 0 (xEntry [.ref 65, .int (nI p), .int (2 : Int32), .int x] 6) [] F Q := by
  have e66 : F 66 = F0 66 := hM.1 66 (by decide)
  obtain ⟨eP, hP6⟩ := inv_PN hR.2.1.2.2.1
  have s1 : (F 66 11 - 1).toInt = (PN (F0 66) : Int) - 1 := sub_any (n := PN (F0 66)) ((congrFun e66 11).trans eP) (by omega) (by decide)
  refine V2.to (l' := [some (.ref 65), some (.int (nI p)), some (.int (2 : Int32)), some (.int x), none, none]) ?_ rfl rfl rfl rfl
  refine V2_aload_n (i := 0) d_R_voice_0 rfl rfl ?_
  refine V2_iload_n (i := 1) d_R_voice_1 rfl rfl ?_
  refine V2_callV [.int (nI p)] d_R_voice_2 rfl rfl lk_R_168 mo_R_isPusher (by decide) rfl rfl rfl (Nat.le_of_ble_eq_true rfl) (Nat.le_of_ble_eq_true rfl) ?_
  refine c_R_isPusher ?_
  refine V2_topi (fun v1 ev1 => ?_)
  refine V2_if_eq (tgt := 17) d_R_voice_5 rfl (fun c2 => (by first | exact absurd c2 (show ¬ v1 = 0 from by subst ev1; exact xb_ne.mpr (by rw [toI_le, toI_le, s1, nI_toInt (by omega)]; have q0 : (0 : Int32).toInt = 0 := (by decide); omega)) | exact absurd (show ¬ v1 = 0 from by subst ev1; exact xb_ne.mpr (by rw [toI_le, toI_le, s1, nI_toInt (by omega)]; have q0 : (0 : Int32).toInt = 0 := (by decide); omega)) c2)) (fun c2 => ?_)
  refine V2_iload_n (i := 2) d_R_voice_8 rfl rfl ?_
  refine V2_iconst (v := 0) d_R_voice_9 rfl ?_
  refine V2_iconst (v := 3) d_R_voice_10 rfl ?_
  refine V2_callS [.int (2 : Int32), .int (0 : Int32), .int (3 : Int32)] d_R_voice_11 rfl rfl lk_R_51 mo_R_in (Nat.le_of_ble_eq_true rfl) (Nat.le_of_ble_eq_true rfl) ?_
  refine V2.to (l' := [some (.int (2 : Int32)), some (.int (0 : Int32)), some (.int (3 : Int32))]) ?_ rfl rfl rfl rfl
  refine V2_iload_n (i := 0) d_R_in_0 rfl rfl ?_
  refine V2_iload_n (i := 1) d_R_in_1 rfl rfl ?_
  refine V2_icmp_lt (tgt := 14) d_R_in_2 rfl (fun c => (by first | exact absurd c (by decide) | exact absurd (by decide) c)) (fun _ => ?_)
  refine V2_iload_n (i := 0) d_R_in_5 rfl rfl ?_
  refine V2_iload_n (i := 2) d_R_in_6 rfl rfl ?_
  refine V2_icmp_gt (tgt := 14) d_R_in_7 rfl (fun c => (by first | exact absurd c (by decide) | exact absurd (by decide) c)) (fun _ => ?_)
  refine V2_iconst (v := 1) d_R_in_10 rfl ?_
  refine V2_goto (tgt := 15) d_R_in_11 rfl ?_
  refine V2_zreturn d_R_in_15 rfl (by decide) ?_
  refine V2.to (st' := [.int (1 : Int32)]) ?_ rfl rfl rfl rfl
  refine V2_if_ne (tgt := 23) d_R_voice_14 rfl (fun _ => ?_) (fun c => (by first | exact absurd c (by decide) | exact absurd (by decide) c))
  refine V2_aload_n (i := 0) d_R_voice_23 rfl rfl ?_
  refine V2_iconst (v := 0) d_R_voice_24 rfl ?_
  refine V2_put d_R_voice_25 fl_R_227 (by decide) rfl (by decide) rfl ?_
  refine V2_aload_n (i := 0) d_R_voice_28 rfl rfl ?_
  refine V2_iload_n (i := 1) d_R_voice_29 rfl rfl ?_
  refine V2_put d_R_voice_30 fl_R_230 (by decide) rfl (by decide) rfl ?_
  refine V2_aload_n (i := 0) d_R_voice_33 rfl rfl ?_
  refine V2_iconst (v := 0) d_R_voice_34 rfl ?_
  refine V2_putz d_R_voice_35 fl_R_251 (by decide) rfl (by decide) rfl (by decide) ?_
  refine V2_aload_n (i := 0) d_R_voice_38 rfl rfl ?_
  refine V2_callV [] d_R_voice_39 rfl rfl lk_R_239 mo_R_kindNow (by decide) rfl rfl rfl (Nat.le_of_ble_eq_true rfl) (Nat.le_of_ble_eq_true rfl) ?_
  refine c_R_kindNow (p := p) (by omega) rfl ?_
  refine V2_lit (v := 0) (show F 66 (12 + 2 * p) = 0 from (congrFun e66 _).trans ek) ?_
  refine V2_istore (i := 4) (l' := [some (.ref 65), some (.int (nI p)), some (.int (2 : Int32)), some (.int x), some (.int (0 : Int32)), none]) d_R_voice_42 (xst_i (Nat.le_of_ble_eq_true rfl) rfl rfl) ?_
  refine V2_iload_n (i := 2) d_R_voice_44 rfl rfl ?_
  refine V2_if_ne (tgt := 58) d_R_voice_45 rfl (fun _ => ?_) (fun c => (by first | exact absurd c (by decide) | exact absurd (by decide) c))
  refine V2_iload_n (i := 2) d_R_voice_58 rfl rfl ?_
  refine V2_iconst (v := 1) d_R_voice_59 rfl ?_
  refine V2_icmp_ne (tgt := 73) d_R_voice_60 rfl (fun _ => ?_) (fun c => (by first | exact absurd c (by decide) | exact absurd (by decide) c))
  refine V2_iload_n (i := 2) d_R_voice_73 rfl rfl ?_
  refine V2_iconst (v := 2) d_R_voice_74 rfl ?_
  refine V2_icmp_ne (tgt := 88) d_R_voice_75 rfl (fun c => (by first | exact absurd c (by decide) | exact absurd (by decide) c)) (fun _ => ?_)
  refine V2_aload_n (i := 0) d_R_voice_78 rfl rfl ?_
  refine V2_iload (i := 4) d_R_voice_79 rfl ?_
  refine V2_iload_n (i := 3) d_R_voice_81 rfl rfl ?_
  refine V2_callV [.int (0 : Int32), .int x] d_R_voice_82 rfl rfl lk_R_248 mo_R_cursesAs (by decide) rfl rfl rfl (Nat.le_of_ble_eq_true rfl) (Nat.le_of_ble_eq_true rfl) ?_
  refine V2.to (l' := [some (.ref 65), some (.int (0 : Int32)), some (.int x)]) ?_ rfl rfl rfl rfl
  refine V2_iload_n (i := 1) d_R_cursesAs_0 rfl rfl ?_
  refine V2_tableIn (tgt := 36) (off := 35) d_R_cursesAs_1 (by decide) (by decide) (by decide) rfl ?_
  refine V2_aload_n (i := 0) d_R_cursesAs_36 rfl rfl ?_
  refine V2_bipush (v := 12) d_R_cursesAs_37 rfl ?_
  refine V2_callV [.int (12 : Int32)] d_R_cursesAs_39 rfl rfl lk_R_233 mo_R_begins (by decide) rfl rfl rfl (Nat.le_of_ble_eq_true rfl) (Nat.le_of_ble_eq_true rfl) ?_
  refine V2.to (l' := [some (.ref 65), some (.int (12 : Int32))]) ?_ rfl rfl rfl rfl
  refine V2_aload_n (i := 0) d_R_begins_0 rfl rfl ?_
  refine V2_get (v := (0 : Int32)) d_R_begins_1 fl_R_227 (by decide) rfl (by decide) rfl rfl ?_
  refine V2_bipush (v := 30) d_R_begins_4 rfl ?_
  refine V2_icmp_ge (tgt := 29) d_R_begins_6 rfl (fun c => (by first | exact absurd c (by decide) | exact absurd (by decide) c)) (fun _ => ?_)
  refine V2_aload_n (i := 0) d_R_begins_9 rfl rfl ?_
  refine V2_getr (a := 73) d_R_begins_10 fl_R_35 (by decide) rfl (by decide) rfl ?_
  refine V2_aload_n (i := 0) d_R_begins_13 rfl rfl ?_
  refine V2_get (v := (0 : Int32)) d_R_begins_14 fl_R_227 (by decide) rfl (by decide) rfl rfl ?_
  refine V2_iload_n (i := 1) d_R_begins_17 rfl rfl ?_
  refine V2_iastore (j := 0) d_R_begins_18 (by decide) rfl (xixA (n := 0) rfl (by decide) (by decide)) rfl ?_
  refine V2_aload_n (i := 0) d_R_begins_19 rfl rfl ?_
  refine V2_dup d_R_begins_20 rfl ?_
  refine V2_get (v := (0 : Int32)) d_R_begins_21 fl_R_227 (by decide) rfl (by decide) rfl rfl ?_
  refine V2_iconst (v := 1) d_R_begins_24 rfl ?_
  refine V2_iadd d_R_begins_25 ?_
  refine V2_lit (v := 1) (by decide) ?_
  refine V2_put d_R_begins_26 fl_R_227 (by decide) rfl (by decide) rfl ?_
  refine V2_return d_R_begins_29 rfl ?_
  refine V2.to (st' := []) ?_ rfl rfl rfl rfl
  refine V2_aload_n (i := 0) d_R_cursesAs_42 rfl rfl ?_
  refine V2_aload_n (i := 0) d_R_cursesAs_43 rfl rfl ?_
  refine V2_callV [] d_R_cursesAs_44 rfl rfl lk_R_239 mo_R_kindNow (by decide) rfl rfl rfl (Nat.le_of_ble_eq_true rfl) (Nat.le_of_ble_eq_true rfl) ?_
  refine c_R_kindNow (p := p) (by omega) rfl ?_
  refine V2_lit (v := 0) (show F 66 (12 + 2 * p) = 0 from (congrFun e66 _).trans ek) ?_
  refine V2_iload_n (i := 2) d_R_cursesAs_47 rfl rfl ?_
  refine V2_callV [.int (0 : Int32), .int x] d_R_cursesAs_48 rfl rfl lk_R_242 mo_R_slipsAs (by decide) rfl rfl rfl (Nat.le_of_ble_eq_true rfl) (Nat.le_of_ble_eq_true rfl) ?_
  refine V2.to (l' := [some (.ref 65), some (.int (0 : Int32)), some (.int x)]) ?_ rfl rfl rfl rfl
  refine V2_iload_n (i := 1) d_R_slipsAs_0 rfl rfl ?_
  refine V2_tableIn (tgt := 44) (off := 43) d_R_slipsAs_1 (by decide) (by decide) (by decide) rfl ?_
  refine V2_aload_n (i := 0) d_R_slipsAs_44 rfl rfl ?_
  refine V2_bipush (v := 11) d_R_slipsAs_45 rfl ?_
  refine V2_callV [.int (11 : Int32)] d_R_slipsAs_47 rfl rfl lk_R_233 mo_R_begins (by decide) rfl rfl rfl (Nat.le_of_ble_eq_true rfl) (Nat.le_of_ble_eq_true rfl) ?_
  refine V2.to (l' := [some (.ref 65), some (.int (11 : Int32))]) ?_ rfl rfl rfl rfl
  refine V2_aload_n (i := 0) d_R_begins_0 rfl rfl ?_
  refine V2_get (v := (1 : Int32)) d_R_begins_1 fl_R_227 (by decide) rfl (by decide) rfl rfl ?_
  refine V2_bipush (v := 30) d_R_begins_4 rfl ?_
  refine V2_icmp_ge (tgt := 29) d_R_begins_6 rfl (fun c => (by first | exact absurd c (by decide) | exact absurd (by decide) c)) (fun _ => ?_)
  refine V2_aload_n (i := 0) d_R_begins_9 rfl rfl ?_
  refine V2_getr (a := 73) d_R_begins_10 fl_R_35 (by decide) rfl (by decide) rfl ?_
  refine V2_aload_n (i := 0) d_R_begins_13 rfl rfl ?_
  refine V2_get (v := (1 : Int32)) d_R_begins_14 fl_R_227 (by decide) rfl (by decide) rfl rfl ?_
  refine V2_iload_n (i := 1) d_R_begins_17 rfl rfl ?_
  refine V2_iastore (j := 1) d_R_begins_18 (by decide) rfl (xixA (n := 1) rfl (by decide) (by decide)) rfl ?_
  refine V2_aload_n (i := 0) d_R_begins_19 rfl rfl ?_
  refine V2_dup d_R_begins_20 rfl ?_
  refine V2_get (v := (1 : Int32)) d_R_begins_21 fl_R_227 (by decide) rfl (by decide) rfl rfl ?_
  refine V2_iconst (v := 1) d_R_begins_24 rfl ?_
  refine V2_iadd d_R_begins_25 ?_
  refine V2_lit (v := 2) (by decide) ?_
  refine V2_put d_R_begins_26 fl_R_227 (by decide) rfl (by decide) rfl ?_
  refine V2_return d_R_begins_29 rfl ?_
  refine V2.to (st' := []) ?_ rfl rfl rfl rfl
  refine V2_aload_n (i := 0) d_R_slipsAs_50 rfl rfl ?_
  refine V2_aload_n (i := 0) d_R_slipsAs_51 rfl rfl ?_
  refine V2_callV [] d_R_slipsAs_52 rfl rfl lk_R_239 mo_R_kindNow (by decide) rfl rfl rfl (Nat.le_of_ble_eq_true rfl) (Nat.le_of_ble_eq_true rfl) ?_
  refine c_R_kindNow (p := p) (by omega) rfl ?_
  refine V2_lit (v := 0) (show F 66 (12 + 2 * p) = 0 from (congrFun e66 _).trans ek) ?_
  refine V2_iload_n (i := 2) d_R_slipsAs_55 rfl rfl ?_
  refine V2_callV [.int (0 : Int32), .int x] d_R_slipsAs_56 rfl rfl lk_R_236 mo_R_heavesAs (by decide) rfl rfl rfl (Nat.le_of_ble_eq_true rfl) (Nat.le_of_ble_eq_true rfl) ?_
  refine V2.to (l' := [some (.ref 65), some (.int (0 : Int32)), some (.int x)]) ?_ rfl rfl rfl rfl
  refine V2_iload_n (i := 1) d_R_heavesAs_0 rfl rfl ?_
  refine V2_tableIn (tgt := 44) (off := 43) d_R_heavesAs_1 (by decide) (by decide) (by decide) rfl ?_
  refine V2_aload_n (i := 0) d_R_heavesAs_44 rfl rfl ?_
  refine V2_bipush (v := 10) d_R_heavesAs_45 rfl ?_
  refine V2_callV [.int (10 : Int32)] d_R_heavesAs_47 rfl rfl lk_R_233 mo_R_begins (by decide) rfl rfl rfl (Nat.le_of_ble_eq_true rfl) (Nat.le_of_ble_eq_true rfl) ?_
  refine V2.to (l' := [some (.ref 65), some (.int (10 : Int32))]) ?_ rfl rfl rfl rfl
  refine V2_aload_n (i := 0) d_R_begins_0 rfl rfl ?_
  refine V2_get (v := (2 : Int32)) d_R_begins_1 fl_R_227 (by decide) rfl (by decide) rfl rfl ?_
  refine V2_bipush (v := 30) d_R_begins_4 rfl ?_
  refine V2_icmp_ge (tgt := 29) d_R_begins_6 rfl (fun c => (by first | exact absurd c (by decide) | exact absurd (by decide) c)) (fun _ => ?_)
  refine V2_aload_n (i := 0) d_R_begins_9 rfl rfl ?_
  refine V2_getr (a := 73) d_R_begins_10 fl_R_35 (by decide) rfl (by decide) rfl ?_
  refine V2_aload_n (i := 0) d_R_begins_13 rfl rfl ?_
  refine V2_get (v := (2 : Int32)) d_R_begins_14 fl_R_227 (by decide) rfl (by decide) rfl rfl ?_
  refine V2_iload_n (i := 1) d_R_begins_17 rfl rfl ?_
  refine V2_iastore (j := 2) d_R_begins_18 (by decide) rfl (xixA (n := 2) rfl (by decide) (by decide)) rfl ?_
  refine V2_aload_n (i := 0) d_R_begins_19 rfl rfl ?_
  refine V2_dup d_R_begins_20 rfl ?_
  refine V2_get (v := (2 : Int32)) d_R_begins_21 fl_R_227 (by decide) rfl (by decide) rfl rfl ?_
  refine V2_iconst (v := 1) d_R_begins_24 rfl ?_
  refine V2_iadd d_R_begins_25 ?_
  refine V2_lit (v := 3) (by decide) ?_
  refine V2_put d_R_begins_26 fl_R_227 (by decide) rfl (by decide) rfl ?_
  refine V2_return d_R_begins_29 rfl ?_
  refine V2.to (st' := []) ?_ rfl rfl rfl rfl
  refine V2_iload_n (i := 2) d_R_heavesAs_50 rfl rfl ?_
  refine V2_aload_n (i := 0) d_R_heavesAs_51 rfl rfl ?_
  refine V2_get (v := nI p) d_R_heavesAs_52 fl_R_230 (by decide) rfl (by decide) rfl rfl ?_
  refine V2_topi (fun v3 ev3 => ?_)
  refine V2_iadd d_R_heavesAs_55 ?_
  refine V2_topi (fun v4 ev4 => ?_)
  refine V2_ireturn d_R_heavesAs_56 rfl ?_
  refine V2.to (st' := [.int v4]) ?_ rfl rfl rfl rfl
  refine V2_iconst (v := 2) d_R_slipsAs_59 rfl ?_
  refine V2_imul d_R_slipsAs_60 ?_
  refine V2_topi (fun v5 ev5 => ?_)
  refine V2_ireturn d_R_slipsAs_61 rfl ?_
  refine V2.to (st' := [.int v5]) ?_ rfl rfl rfl rfl
  refine V2_aload_n (i := 0) d_R_cursesAs_51 rfl rfl ?_
  refine V2_callV [] d_R_cursesAs_52 rfl rfl lk_R_245 mo_R_mNow (by decide) rfl rfl rfl (Nat.le_of_ble_eq_true rfl) (Nat.le_of_ble_eq_true rfl) ?_
  refine V2.to (l' := [some (.ref 65)]) ?_ rfl rfl rfl rfl
  refine V2_aload_n (i := 0) d_R_mNow_0 rfl rfl ?_
  refine V2_aload_n (i := 0) d_R_mNow_1 rfl rfl ?_
  refine V2_get (v := nI p) d_R_mNow_2 fl_R_230 (by decide) rfl (by decide) rfl rfl ?_
  refine V2_topi (fun v6 ev6 => ?_)
  refine V2_iconst (v := 1) d_R_mNow_5 rfl ?_
  refine V2_callV [.int v6, .int (1 : Int32)] d_R_mNow_6 rfl rfl lk_R_114 mo_R_its (by decide) rfl rfl rfl (Nat.le_of_ble_eq_true rfl) (Nat.le_of_ble_eq_true rfl) ?_
  rw [ev6]
  refine c_R_its1 (p := p) (by omega) ?_
  refine V2_lit (v := mm) (show F 66 (12 + 2 * p + 1) = mm from (congrFun e66 _).trans em) ?_
  refine V2_ireturn d_R_mNow_9 rfl ?_
  refine V2.to (st' := [.int mm, .int v5]) ?_ rfl rfl rfl rfl
  refine V2_isub d_R_cursesAs_55 ?_
  refine V2_topi (fun v7 ev7 => ?_)
  refine V2_ireturn d_R_cursesAs_56 rfl ?_
  refine V2.to (st' := [.int v7]) ?_ rfl rfl rfl rfl
  refine V2_goto (tgt := 95) d_R_voice_85 rfl ?_
  refine V2_istore (i := 5) (l' := [some (.ref 65), some (.int (nI p)), some (.int (2 : Int32)), some (.int x), some (.int (0 : Int32)), some (.int v7)]) d_R_voice_95 (xst_i (Nat.le_of_ble_eq_true rfl) rfl rfl) ?_
  refine V2_aload_n (i := 0) d_R_voice_97 rfl rfl ?_
  refine V2_get (v := (0 : Int32)) d_R_voice_98 fl_R_251 (by decide) rfl (by decide) rfl rfl ?_
  refine V2_if_eq (tgt := 113) d_R_voice_101 rfl (fun _ => ?_) (fun c => (by first | exact absurd c (by decide) | exact absurd (by decide) c))
  refine V2_iload (i := 5) d_R_voice_113 rfl ?_
  refine V2_ireturn d_R_voice_115 rfl ?_
  subst ev7 ev6 ev5 ev4 ev3 ev1
  refine xQi (hQ _ (rel_trace (n := 3) (b := (fun i => ([12, 11, 10] : List Int32).getD i 0)) hR (by decide) hM ?_ ?_ ?_ ?_ ?_)) ?_ rfl
  · intro a h1 h2
    repeat (first | rw [xp_row_ne h1] | rw [xp_row_ne h2])
    try rfl
  · rfl
  · rfl
  · rfl
  · exact (fun i hi => by rcases (show i = 0 ∨ i = 1 ∨ i = 2 by omega) with h9 | h9 | h9 <;> subst h9 <;> rfl)
  · first | rfl | decide
theorem c_cv_0_3 {L : Nat} {xs : Nat → Int32} {d : Nat} {Q : Option Value → xF → Prop} {F : xF} {p : Nat} {x mm : Int32} (hR : Rel F) (hp : p < PN (F 66)) (ek : F 66 (12 + 2 * p) = 0) (em : F 66 (12 + 2 * p + 1) = mm) (hz : ¬ mm - nI p = 0) (hQ : ∀ F1, Mid F F1 (traceG F 1 (fun i => ([13] : List Int32).getD i 0)) → Q (some (.int (x / (mm - nI p)))) F1) : V2 L xs (d + 40) m_P_voice 0 (xEntry [.ref 0, .int (nI p), .int (3 : Int32), .int x] 5) [] F Q := by
  obtain ⟨eP, hP6⟩ := inv_PN hR.2.1.2.2.1
  refine V2.to (l' := [some (.ref 0), some (.int (nI p)), some (.int (3 : Int32)), some (.int x), none]) ?_ rfl rfl rfl rfl
  refine V2_aload_n (i := 0) d_P_voice_0 rfl rfl ?_
  refine V2_getr (a := 1) d_P_voice_1 fl_P_10 (by decide) rfl (by decide) rfl ?_
  refine V2_getr (a := 3) d_P_voice_4 fl_P_70 (by decide) rfl (by decide) rfl ?_
  refine V2_iload_n (i := 1) d_P_voice_7 rfl rfl ?_
  refine V2_callV [.int (nI p)] d_P_voice_8 rfl rfl lk_P_84 mo_Push_has (by decide) rfl rfl rfl (Nat.le_of_ble_eq_true rfl) (Nat.le_of_ble_eq_true rfl) ?_
  refine c_Push_has (P := PN (F 66)) (hR.1.1.2.1.1.trans eP) hP6 ?_
  refine V2_topi (fun v1 ev1 => ?_)
  refine V2_if_eq (tgt := 21) d_P_voice_11 rfl (fun c2 => (by first | exact absurd c2 (show ¬ v1 = 0 from by subst ev1; exact xb_ne.mpr ⟨nI_pos' (by omega), by rw [hR.1.1.2.1.1, eP]; exact nI_lt hp (by omega)⟩) | exact absurd (show ¬ v1 = 0 from by subst ev1; exact xb_ne.mpr ⟨nI_pos' (by omega), by rw [hR.1.1.2.1.1, eP]; exact nI_lt hp (by omega)⟩) c2)) (fun c2 => ?_)
  refine V2_iload_n (i := 2) d_P_voice_14 rfl rfl ?_
  refine V2_callS [.int (3 : Int32)] d_P_voice_15 rfl rfl lk_P_290 mo_Voi_isVoice (Nat.le_of_ble_eq_true rfl) (Nat.le_of_ble_eq_true rfl) ?_
  refine V2.to (l' := [some (.int (3 : Int32))]) ?_ rfl rfl rfl rfl
  refine V2_iload_n (i := 0) d_Voi_isVoice_0 rfl rfl ?_
  refine V2_if_lt (tgt := 13) d_Voi_isVoice_1 rfl (fun c => (by first | exact absurd c (by decide) | exact absurd (by decide) c)) (fun _ => ?_)
  refine V2_iload_n (i := 0) d_Voi_isVoice_4 rfl rfl ?_
  refine V2_iconst (v := 4) d_Voi_isVoice_5 rfl ?_
  refine V2_icmp_ge (tgt := 13) d_Voi_isVoice_6 rfl (fun c => (by first | exact absurd c (by decide) | exact absurd (by decide) c)) (fun _ => ?_)
  refine V2_iconst (v := 1) d_Voi_isVoice_9 rfl ?_
  refine V2_goto (tgt := 14) d_Voi_isVoice_10 rfl ?_
  refine V2_zreturn d_Voi_isVoice_14 rfl (by decide) ?_
  refine V2.to (st' := [.int (1 : Int32)]) ?_ rfl rfl rfl rfl
  refine V2_if_ne (tgt := 27) d_P_voice_18 rfl (fun _ => ?_) (fun c => (by first | exact absurd c (by decide) | exact absurd (by decide) c))
  refine V2_aload_n (i := 0) d_P_voice_27 rfl rfl ?_
  refine V2_getr (a := 1) d_P_voice_28 fl_P_10 (by decide) rfl (by decide) rfl ?_
  refine V2_getr (a := 3) d_P_voice_31 fl_P_70 (by decide) rfl (by decide) rfl ?_
  refine V2_iload_n (i := 1) d_P_voice_34 rfl rfl ?_
  refine V2_callV [.int (nI p)] d_P_voice_35 rfl rfl lk_P_87 mo_Push_kindOf (by decide) rfl rfl rfl (Nat.le_of_ble_eq_true rfl) (Nat.le_of_ble_eq_true rfl) ?_
  refine c_Push_kindOf (P := PN (F 66)) (hR.1.1.2.1.1.trans eP) (hR.1.1.2.1.2.1.trans eP) hP6 hp ?_
  refine V2_lit (v := 0) (((rel_relP hR).2.2.2 p hp).1.trans ek) ?_
  refine V2_istore (i := 4) (l' := [some (.ref 0), some (.int (nI p)), some (.int (3 : Int32)), some (.int x), some (.int (0 : Int32))]) d_P_voice_38 (xst_i (Nat.le_of_ble_eq_true rfl) rfl rfl) ?_
  refine V2_aload_n (i := 0) d_P_voice_40 rfl rfl ?_
  refine V2_getr (a := 52) d_P_voice_41 fl_P_43 (by decide) rfl (by decide) rfl ?_
  refine V2_iload (i := 4) d_P_voice_44 rfl ?_
  refine V2_iload_n (i := 1) d_P_voice_46 rfl rfl ?_
  refine V2_aload_n (i := 0) d_P_voice_47 rfl rfl ?_
  refine V2_getr (a := 1) d_P_voice_48 fl_P_10 (by decide) rfl (by decide) rfl ?_
  refine V2_getr (a := 3) d_P_voice_51 fl_P_70 (by decide) rfl (by decide) rfl ?_
  refine V2_iload_n (i := 1) d_P_voice_54 rfl rfl ?_
  refine V2_callV [.int (nI p)] d_P_voice_55 rfl rfl lk_P_90 mo_Push_levelOf (by decide) rfl rfl rfl (Nat.le_of_ble_eq_true rfl) (Nat.le_of_ble_eq_true rfl) ?_
  refine c_Push_levelOf (P := PN (F 66)) (hR.1.1.2.1.1.trans eP) (hR.1.1.2.1.2.1.trans eP) hP6 hp ?_
  refine V2_lit (v := mm) (((rel_relP hR).2.2.2 p hp).2.trans em) ?_
  refine V2_iload_n (i := 2) d_P_voice_58 rfl rfl ?_
  refine V2_iload_n (i := 3) d_P_voice_59 rfl rfl ?_
  refine V2_callV [.int (0 : Int32), .int (nI p), .int mm, .int (3 : Int32), .int x] d_P_voice_60 rfl rfl lk_P_293 mo_Voi_speaks (by decide) rfl rfl rfl (Nat.le_of_ble_eq_true rfl) (Nat.le_of_ble_eq_true rfl) ?_
  refine V2.to (l' := [some (.ref 52), some (.int (0 : Int32)), some (.int (nI p)), some (.int mm), some (.int (3 : Int32)), some (.int x)]) ?_ rfl rfl rfl rfl
  refine V2_aload_n (i := 0) d_Voi_speaks_0 rfl rfl ?_
  refine V2_iload_n (i := 1) d_Voi_speaks_1 rfl rfl ?_
  refine V2_put d_Voi_speaks_2 fl_Voi_18 (by decide) rfl (by decide) rfl ?_
  refine V2_aload_n (i := 0) d_Voi_speaks_5 rfl rfl ?_
  refine V2_iload_n (i := 2) d_Voi_speaks_6 rfl rfl ?_
  refine V2_put d_Voi_speaks_7 fl_Voi_22 (by decide) rfl (by decide) rfl ?_
  refine V2_aload_n (i := 0) d_Voi_speaks_10 rfl rfl ?_
  refine V2_iload_n (i := 3) d_Voi_speaks_11 rfl rfl ?_
  refine V2_put d_Voi_speaks_12 fl_Voi_25 (by decide) rfl (by decide) rfl ?_
  refine V2_aload_n (i := 0) d_Voi_speaks_15 rfl rfl ?_
  refine V2_iconst (v := 0) d_Voi_speaks_16 rfl ?_
  refine V2_putz d_Voi_speaks_17 fl_Voi_31 (by decide) rfl (by decide) rfl (by decide) ?_
  refine V2_aload_n (i := 0) d_Voi_speaks_20 rfl rfl ?_
  refine V2_getr (a := 53) d_Voi_speaks_21 fl_Voi_14 (by decide) rfl (by decide) rfl ?_
  refine V2_callV [] d_Voi_speaks_24 rfl rfl lk_Voi_35 mo_Nums_empty (by decide) rfl rfl rfl (Nat.le_of_ble_eq_true rfl) (Nat.le_of_ble_eq_true rfl) ?_
  refine V2.to (l' := [some (.ref 53)]) ?_ rfl rfl rfl rfl
  refine V2_aload_n (i := 0) d_Nums_empty_0 rfl rfl ?_
  refine V2_iconst (v := 0) d_Nums_empty_1 rfl ?_
  refine V2_put d_Nums_empty_2 fl_Nums_7 (by decide) rfl (by decide) rfl ?_
  refine V2_return d_Nums_empty_5 rfl ?_
  refine V2.to (st' := []) ?_ rfl rfl rfl rfl
  refine V2_aload_n (i := 0) d_Voi_speaks_27 rfl rfl ?_
  refine V2_aload_n (i := 0) d_Voi_speaks_28 rfl rfl ?_
  refine V2_aload_n (i := 0) d_Voi_speaks_29 rfl rfl ?_
  refine V2_get (v := (0 : Int32)) d_Voi_speaks_30 fl_Voi_18 (by decide) rfl (by decide) rfl rfl ?_
  refine V2_iload (i := 4) d_Voi_speaks_33 rfl ?_
  refine V2_iload (i := 5) d_Voi_speaks_35 rfl ?_
  refine V2_iconst (v := 0) d_Voi_speaks_37 rfl ?_
  refine V2_callV [.int (0 : Int32), .int (3 : Int32), .int x, .int (0 : Int32)] d_Voi_speaks_38 rfl rfl lk_Voi_38 mo_Voi_says (by decide) rfl rfl rfl (Nat.le_of_ble_eq_true rfl) (Nat.le_of_ble_eq_true rfl) ?_
  refine V2.to (l' := [some (.ref 52), some (.int (0 : Int32)), some (.int (3 : Int32)), some (.int x), some (.int (0 : Int32)), none]) ?_ rfl rfl rfl rfl
  refine V2_iload_n (i := 1) d_Voi_says_0 rfl rfl ?_
  refine V2_iload_n (i := 2) d_Voi_says_1 rfl rfl ?_
  refine V2_callS [.int (0 : Int32), .int (3 : Int32)] d_Voi_says_2 rfl rfl lk_Voi_42 mo_Voi_bodyFrom (Nat.le_of_ble_eq_true rfl) (Nat.le_of_ble_eq_true rfl) ?_
  refine V2.to (l' := [some (.int (0 : Int32)), some (.int (3 : Int32)), none, none, none]) ?_ rfl rfl rfl rfl
  refine V2_iload_n (i := 0) d_Voi_bodyFrom_0 rfl rfl ?_
  refine V2_istore_n (i := 2) (l' := [some (.int (0 : Int32)), some (.int (3 : Int32)), some (.int (0 : Int32)), none, none]) d_Voi_bodyFrom_1 rfl (xst_i (Nat.le_of_ble_eq_true rfl) rfl rfl) ?_
  refine V2_iconst (v := 0) d_Voi_bodyFrom_2 rfl ?_
  refine V2_istore_n (i := 3) (l' := [some (.int (0 : Int32)), some (.int (3 : Int32)), some (.int (0 : Int32)), some (.int (0 : Int32)), none]) d_Voi_bodyFrom_3 rfl (xst_i (Nat.le_of_ble_eq_true rfl) rfl rfl) ?_
  refine V2_iload_n (i := 3) d_Voi_bodyFrom_4 rfl rfl ?_
  refine V2_getsB d_Voi_bodyFrom_5 gs_Voi_53 ?_
  refine V2_bodieslen d_Voi_bodyFrom_8 ?_
  refine V2_icmp_ge (tgt := 45) d_Voi_bodyFrom_9 rfl (fun c => (by first | exact absurd c (by decide) | exact absurd (by decide) c)) (fun _ => ?_)
  refine V2_iload_n (i := 2) d_Voi_bodyFrom_12 rfl rfl ?_
  refine V2_if_lt (tgt := 45) d_Voi_bodyFrom_13 rfl (fun c => (by first | exact absurd c (by decide) | exact absurd (by decide) c)) (fun _ => ?_)
  refine V2_iload_n (i := 2) d_Voi_bodyFrom_16 rfl rfl ?_
  refine V2_iconst (v := 4) d_Voi_bodyFrom_17 rfl ?_
  refine V2_imul d_Voi_bodyFrom_18 ?_
  refine V2_lit (v := 0) (by decide) ?_
  refine V2_iload_n (i := 1) d_Voi_bodyFrom_19 rfl rfl ?_
  refine V2_iadd d_Voi_bodyFrom_20 ?_
  refine V2_lit (v := 3) (by decide) ?_
  refine V2_callS [.int (3 : Int32)] d_Voi_bodyFrom_21 rfl rfl lk_Voi_57 mo_Voi_bodyAt (Nat.le_of_ble_eq_true rfl) (Nat.le_of_ble_eq_true rfl) ?_
  refine V2.to (l' := [some (.int (3 : Int32))]) ?_ rfl rfl rfl rfl
  refine V2_iload_n (i := 0) d_Voi_bodyAt_0 rfl rfl ?_
  refine V2_if_lt (tgt := 20) d_Voi_bodyAt_1 rfl (fun c => (by first | exact absurd c (by decide) | exact absurd (by decide) c)) (fun _ => ?_)
  refine V2_iload_n (i := 0) d_Voi_bodyAt_4 rfl rfl ?_
  refine V2_getsB d_Voi_bodyAt_5 gs_Voi_53 ?_
  refine V2_bodieslen d_Voi_bodyAt_8 ?_
  refine V2_icmp_ge (tgt := 20) d_Voi_bodyAt_9 rfl (fun c => (by first | exact absurd c (by decide) | exact absurd (by decide) c)) (fun _ => ?_)
  refine V2_getsB d_Voi_bodyAt_12 gs_Voi_53 ?_
  refine V2_iload_n (i := 0) d_Voi_bodyAt_15 rfl rfl ?_
  refine V2_bodies (v := 13) d_Voi_bodyAt_16 (xixA (n := 3) rfl (by decide) (by decide)) (by decide) ?_
  refine V2_goto (tgt := 21) d_Voi_bodyAt_17 rfl ?_
  refine V2_ireturn d_Voi_bodyAt_21 rfl ?_
  refine V2.to (st' := [.int (13 : Int32)]) ?_ rfl rfl rfl rfl
  refine V2_istore (i := 4) (l' := [some (.int (0 : Int32)), some (.int (3 : Int32)), some (.int (0 : Int32)), some (.int (0 : Int32)), some (.int (13 : Int32))]) d_Voi_bodyFrom_24 (xst_i (Nat.le_of_ble_eq_true rfl) rfl rfl) ?_
  refine V2_iload (i := 4) d_Voi_bodyFrom_26 rfl ?_
  refine V2_if_eq (tgt := 34) d_Voi_bodyFrom_28 rfl (fun c => (by first | exact absurd c (by decide) | exact absurd (by decide) c)) (fun _ => ?_)
  refine V2_iload (i := 4) d_Voi_bodyFrom_31 rfl ?_
  refine V2_ireturn d_Voi_bodyFrom_33 rfl ?_
  refine V2.to (st' := [.int (13 : Int32)]) ?_ rfl rfl rfl rfl
  refine V2_istore (i := 5) (l' := [some (.ref 52), some (.int (0 : Int32)), some (.int (3 : Int32)), some (.int x), some (.int (0 : Int32)), some (.int (13 : Int32))]) d_Voi_says_5 (xst_i (Nat.le_of_ble_eq_true rfl) rfl rfl) ?_
  refine V2_aload_n (i := 0) d_Voi_says_7 rfl rfl ?_
  refine V2_get (v := (0 : Int32)) d_Voi_says_8 fl_Voi_31 (by decide) rfl (by decide) rfl rfl ?_
  refine V2_if_ne (tgt := 26) d_Voi_says_11 rfl (fun c => (by first | exact absurd c (by decide) | exact absurd (by decide) c)) (fun _ => ?_)
  refine V2_iload (i := 5) d_Voi_says_14 rfl ?_
  refine V2_if_eq (tgt := 26) d_Voi_says_16 rfl (fun c => (by first | exact absurd c (by decide) | exact absurd (by decide) c)) (fun _ => ?_)
  refine V2_iload (i := 4) d_Voi_says_19 rfl ?_
  refine V2_bipush (v := 30) d_Voi_says_21 rfl ?_
  refine V2_icmp_lt (tgt := 28) d_Voi_says_23 rfl (fun _ => ?_) (fun c => (by first | exact absurd c (by decide) | exact absurd (by decide) c))
  refine V2_aload_n (i := 0) d_Voi_says_28 rfl rfl ?_
  refine V2_getr (a := 53) d_Voi_says_29 fl_Voi_14 (by decide) rfl (by decide) rfl ?_
  refine V2_iload (i := 5) d_Voi_says_32 rfl ?_
  refine V2_callV [.int (13 : Int32)] d_Voi_says_34 rfl rfl lk_Voi_46 mo_Nums_add (by decide) rfl rfl rfl (Nat.le_of_ble_eq_true rfl) (Nat.le_of_ble_eq_true rfl) ?_
  refine V2.to (l' := [some (.ref 53), some (.int (13 : Int32))]) ?_ rfl rfl rfl rfl
  refine V2_aload_n (i := 0) d_Nums_add_0 rfl rfl ?_
  refine V2_get (v := (0 : Int32)) d_Nums_add_1 fl_Nums_7 (by decide) rfl (by decide) rfl rfl ?_
  refine V2_if_lt (tgt := 39) d_Nums_add_4 rfl (fun c => (by first | exact absurd c (by decide) | exact absurd (by decide) c)) (fun _ => ?_)
  refine V2_aload_n (i := 0) d_Nums_add_7 rfl rfl ?_
  refine V2_get (v := (0 : Int32)) d_Nums_add_8 fl_Nums_7 (by decide) rfl (by decide) rfl rfl ?_
  refine V2_aload_n (i := 0) d_Nums_add_11 rfl rfl ?_
  refine V2_getr (a := 54) d_Nums_add_12 fl_Nums_19 (by decide) rfl (by decide) rfl ?_
  refine V2_alen (t := 0) (v := 30) d_Nums_add_15 (by decide) rfl (by decide) rfl ?_
  refine V2_icmp_ge (tgt := 39) d_Nums_add_16 rfl (fun c => (by first | exact absurd c (by decide) | exact absurd (by decide) c)) (fun _ => ?_)
  refine V2_aload_n (i := 0) d_Nums_add_19 rfl rfl ?_
  refine V2_getr (a := 54) d_Nums_add_20 fl_Nums_19 (by decide) rfl (by decide) rfl ?_
  refine V2_aload_n (i := 0) d_Nums_add_23 rfl rfl ?_
  refine V2_get (v := (0 : Int32)) d_Nums_add_24 fl_Nums_7 (by decide) rfl (by decide) rfl rfl ?_
  refine V2_iload_n (i := 1) d_Nums_add_27 rfl rfl ?_
  refine V2_iastore (j := 0) d_Nums_add_28 (by decide) rfl (xixA (n := 0) rfl (by decide) (by decide)) rfl ?_
  refine V2_aload_n (i := 0) d_Nums_add_29 rfl rfl ?_
  refine V2_dup d_Nums_add_30 rfl ?_
  refine V2_get (v := (0 : Int32)) d_Nums_add_31 fl_Nums_7 (by decide) rfl (by decide) rfl rfl ?_
  refine V2_iconst (v := 1) d_Nums_add_34 rfl ?_
  refine V2_iadd d_Nums_add_35 ?_
  refine V2_lit (v := 1) (by decide) ?_
  refine V2_put d_Nums_add_36 fl_Nums_7 (by decide) rfl (by decide) rfl ?_
  refine V2_return d_Nums_add_39 rfl ?_
  refine V2.to (st' := []) ?_ rfl rfl rfl rfl
  refine V2_aload_n (i := 0) d_Voi_says_37 rfl rfl ?_
  refine V2_iload (i := 5) d_Voi_says_38 rfl ?_
  refine V2_iload_n (i := 3) d_Voi_says_40 rfl rfl ?_
  refine V2_iload (i := 4) d_Voi_says_41 rfl ?_
  refine V2_iconst (v := 1) d_Voi_says_43 rfl ?_
  refine V2_iadd d_Voi_says_44 ?_
  refine V2_lit (v := 1) (by decide) ?_
  refine V2_callV [.int (13 : Int32), .int x, .int (1 : Int32)] d_Voi_says_45 rfl rfl lk_Voi_49 mo_Voi_worksOut (by decide) rfl rfl rfl (Nat.le_of_ble_eq_true rfl) (Nat.le_of_ble_eq_true rfl) ?_
  refine V2.to (l' := [some (.ref 52), some (.int (13 : Int32)), some (.int x), some (.int (1 : Int32))]) ?_ rfl rfl rfl rfl
  refine V2_iload_n (i := 1) d_Voi_worksOut_0 rfl rfl ?_
  refine V2_lookup (tgt := 154) (off := 153) d_Voi_worksOut_1 (by decide) (by decide +kernel) rfl ?_
  refine V2_aload_n (i := 0) d_Voi_worksOut_154 rfl rfl ?_
  refine V2_iload_n (i := 2) d_Voi_worksOut_155 rfl rfl ?_
  refine V2_aload_n (i := 0) d_Voi_worksOut_156 rfl rfl ?_
  refine V2_get (v := mm) d_Voi_worksOut_157 fl_Voi_25 (by decide) rfl (by decide) rfl rfl ?_
  refine V2_aload_n (i := 0) d_Voi_worksOut_160 rfl rfl ?_
  refine V2_get (v := nI p) d_Voi_worksOut_161 fl_Voi_22 (by decide) rfl (by decide) rfl rfl ?_
  refine V2_topi (fun v3 ev3 => ?_)
  refine V2_isub d_Voi_worksOut_164 ?_
  refine V2_topi (fun v4 ev4 => ?_)
  refine V2_callV [.int x, .int v4] d_Voi_worksOut_165 rfl rfl lk_Voi_66 mo_Voi_partsBy (by decide) rfl rfl rfl (Nat.le_of_ble_eq_true rfl) (Nat.le_of_ble_eq_true rfl) ?_
  refine V2.to (l' := [some (.ref 52), some (.int x), some (.int v4)]) ?_ rfl rfl rfl rfl
  refine V2_iload_n (i := 2) d_Voi_partsBy_0 rfl rfl ?_
  refine V2_if_ne (tgt := 11) d_Voi_partsBy_1 rfl (fun c5 => ?_) (fun c5 => (by first | exact absurd (show ¬ v4 = 0 from by subst ev4 ev3 ev1; exact hz) c5 | exact absurd c5 (show ¬ v4 = 0 from by subst ev4 ev3 ev1; exact hz)))
  refine V2_iload_n (i := 1) d_Voi_partsBy_11 rfl rfl ?_
  refine V2_iload_n (i := 2) d_Voi_partsBy_12 rfl rfl ?_
  refine V2_idiv d_Voi_partsBy_13 (by assumption) ?_
  refine V2_topi (fun v6 ev6 => ?_)
  refine V2_ireturn d_Voi_partsBy_14 rfl ?_
  refine V2.to (st' := [.int v6]) ?_ rfl rfl rfl rfl
  refine V2_ireturn d_Voi_worksOut_168 rfl ?_
  refine V2.to (st' := [.int v6]) ?_ rfl rfl rfl rfl
  refine V2_ireturn d_Voi_says_48 rfl ?_
  refine V2.to (st' := [.int v6, .ref 52]) ?_ rfl rfl rfl rfl
  refine V2_put d_Voi_speaks_41 fl_Voi_28 (by decide) rfl (by decide) rfl ?_
  refine V2_aload_n (i := 0) d_Voi_speaks_44 rfl rfl ?_
  refine V2_get (v := (0 : Int32)) d_Voi_speaks_45 fl_Voi_31 (by decide) rfl (by decide) rfl rfl ?_
  refine V2_if_ne (tgt := 55) d_Voi_speaks_48 rfl (fun c => (by first | exact absurd c (by decide) | exact absurd (by decide) c)) (fun _ => ?_)
  refine V2_iconst (v := 1) d_Voi_speaks_51 rfl ?_
  refine V2_goto (tgt := 56) d_Voi_speaks_52 rfl ?_
  refine V2_zreturn d_Voi_speaks_56 rfl (by decide) ?_
  refine V2.to (st' := [.int (1 : Int32)]) ?_ rfl rfl rfl rfl
  refine V2_if_ne (tgt := 73) d_P_voice_63 rfl (fun _ => ?_) (fun c => (by first | exact absurd c (by decide) | exact absurd (by decide) c))
  refine V2_aload_n (i := 0) d_P_voice_73 rfl rfl ?_
  refine V2_getr (a := 52) d_P_voice_74 fl_P_43 (by decide) rfl (by decide) rfl ?_
  refine V2_callV [] d_P_voice_77 rfl rfl lk_P_297 mo_Voi_answer (by decide) rfl rfl rfl (Nat.le_of_ble_eq_true rfl) (Nat.le_of_ble_eq_true rfl) ?_
  refine V2.to (l' := [some (.ref 52)]) ?_ rfl rfl rfl rfl
  refine V2_aload_n (i := 0) d_Voi_answer_0 rfl rfl ?_
  refine V2_get (v := v6) d_Voi_answer_1 fl_Voi_28 (by decide) rfl (by decide) rfl rfl ?_
  refine V2_ireturn d_Voi_answer_4 rfl ?_
  refine V2.to (st' := [.int v6]) ?_ rfl rfl rfl rfl
  refine V2_ireturn d_P_voice_80 rfl ?_
  subst ev6 ev4 ev3 ev1
  exact xQi (hQ _ (mid_trace (n := 1) (b := (fun i => ([13] : List Int32).getD i 0)) hR (by decide) (fun a h1 h2 h3 => by   repeat (first | rw [xp_row_ne h1] | rw [xp_row_ne h2] | rw [xp_row_ne h3]) ; try rfl) rfl (fun i hi => by have h9 : i = 0 := (by omega) ; subst h9 ; rfl))) (by first | rfl | decide) rfl
theorem c_mv_0_3 {L : Nat} {xs : Nat → Int32} {d : Nat} {Q : Option Value → xF → Prop} {F : xF} {p : Nat} {x mm : Int32} {F0 : xF} (hR : Rel F0) (hp : p < PN (F0 66)) (ek : F0 66 (12 + 2 * p) = 0) (em : F0 66 (12 + 2 * p + 1) = mm) (hz : ¬ mm - nI p = 0) (hM : Mid F0 F (traceG F0 1 (fun i => ([13] : List Int32).getD i 0))) (hQ : ∀ F2, Rel F2 → Q (some (.int (x / (mm - nI p)))) F2) : V2 L xs (d + 40) m_R_voice 0 (xEntry [.ref 65, .int (nI p), .int (3 : Int32), .int x] 6) [] F Q := by
  have e66 : F 66 = F0 66 := hM.1 66 (by decide)
  obtain ⟨eP, hP6⟩ := inv_PN hR.2.1.2.2.1
  have s1 : (F 66 11 - 1).toInt = (PN (F0 66) : Int) - 1 := sub_any (n := PN (F0 66)) ((congrFun e66 11).trans eP) (by omega) (by decide)
  refine V2.to (l' := [some (.ref 65), some (.int (nI p)), some (.int (3 : Int32)), some (.int x), none, none]) ?_ rfl rfl rfl rfl
  refine V2_aload_n (i := 0) d_R_voice_0 rfl rfl ?_
  refine V2_iload_n (i := 1) d_R_voice_1 rfl rfl ?_
  refine V2_callV [.int (nI p)] d_R_voice_2 rfl rfl lk_R_168 mo_R_isPusher (by decide) rfl rfl rfl (Nat.le_of_ble_eq_true rfl) (Nat.le_of_ble_eq_true rfl) ?_
  refine c_R_isPusher ?_
  refine V2_topi (fun v1 ev1 => ?_)
  refine V2_if_eq (tgt := 17) d_R_voice_5 rfl (fun c2 => (by first | exact absurd c2 (show ¬ v1 = 0 from by subst ev1; exact xb_ne.mpr (by rw [toI_le, toI_le, s1, nI_toInt (by omega)]; have q0 : (0 : Int32).toInt = 0 := (by decide); omega)) | exact absurd (show ¬ v1 = 0 from by subst ev1; exact xb_ne.mpr (by rw [toI_le, toI_le, s1, nI_toInt (by omega)]; have q0 : (0 : Int32).toInt = 0 := (by decide); omega)) c2)) (fun c2 => ?_)
  refine V2_iload_n (i := 2) d_R_voice_8 rfl rfl ?_
  refine V2_iconst (v := 0) d_R_voice_9 rfl ?_
  refine V2_iconst (v := 3) d_R_voice_10 rfl ?_
  refine V2_callS [.int (3 : Int32), .int (0 : Int32), .int (3 : Int32)] d_R_voice_11 rfl rfl lk_R_51 mo_R_in (Nat.le_of_ble_eq_true rfl) (Nat.le_of_ble_eq_true rfl) ?_
  refine V2.to (l' := [some (.int (3 : Int32)), some (.int (0 : Int32)), some (.int (3 : Int32))]) ?_ rfl rfl rfl rfl
  refine V2_iload_n (i := 0) d_R_in_0 rfl rfl ?_
  refine V2_iload_n (i := 1) d_R_in_1 rfl rfl ?_
  refine V2_icmp_lt (tgt := 14) d_R_in_2 rfl (fun c => (by first | exact absurd c (by decide) | exact absurd (by decide) c)) (fun _ => ?_)
  refine V2_iload_n (i := 0) d_R_in_5 rfl rfl ?_
  refine V2_iload_n (i := 2) d_R_in_6 rfl rfl ?_
  refine V2_icmp_gt (tgt := 14) d_R_in_7 rfl (fun c => (by first | exact absurd c (by decide) | exact absurd (by decide) c)) (fun _ => ?_)
  refine V2_iconst (v := 1) d_R_in_10 rfl ?_
  refine V2_goto (tgt := 15) d_R_in_11 rfl ?_
  refine V2_zreturn d_R_in_15 rfl (by decide) ?_
  refine V2.to (st' := [.int (1 : Int32)]) ?_ rfl rfl rfl rfl
  refine V2_if_ne (tgt := 23) d_R_voice_14 rfl (fun _ => ?_) (fun c => (by first | exact absurd c (by decide) | exact absurd (by decide) c))
  refine V2_aload_n (i := 0) d_R_voice_23 rfl rfl ?_
  refine V2_iconst (v := 0) d_R_voice_24 rfl ?_
  refine V2_put d_R_voice_25 fl_R_227 (by decide) rfl (by decide) rfl ?_
  refine V2_aload_n (i := 0) d_R_voice_28 rfl rfl ?_
  refine V2_iload_n (i := 1) d_R_voice_29 rfl rfl ?_
  refine V2_put d_R_voice_30 fl_R_230 (by decide) rfl (by decide) rfl ?_
  refine V2_aload_n (i := 0) d_R_voice_33 rfl rfl ?_
  refine V2_iconst (v := 0) d_R_voice_34 rfl ?_
  refine V2_putz d_R_voice_35 fl_R_251 (by decide) rfl (by decide) rfl (by decide) ?_
  refine V2_aload_n (i := 0) d_R_voice_38 rfl rfl ?_
  refine V2_callV [] d_R_voice_39 rfl rfl lk_R_239 mo_R_kindNow (by decide) rfl rfl rfl (Nat.le_of_ble_eq_true rfl) (Nat.le_of_ble_eq_true rfl) ?_
  refine c_R_kindNow (p := p) (by omega) rfl ?_
  refine V2_lit (v := 0) (show F 66 (12 + 2 * p) = 0 from (congrFun e66 _).trans ek) ?_
  refine V2_istore (i := 4) (l' := [some (.ref 65), some (.int (nI p)), some (.int (3 : Int32)), some (.int x), some (.int (0 : Int32)), none]) d_R_voice_42 (xst_i (Nat.le_of_ble_eq_true rfl) rfl rfl) ?_
  refine V2_iload_n (i := 2) d_R_voice_44 rfl rfl ?_
  refine V2_if_ne (tgt := 58) d_R_voice_45 rfl (fun _ => ?_) (fun c => (by first | exact absurd c (by decide) | exact absurd (by decide) c))
  refine V2_iload_n (i := 2) d_R_voice_58 rfl rfl ?_
  refine V2_iconst (v := 1) d_R_voice_59 rfl ?_
  refine V2_icmp_ne (tgt := 73) d_R_voice_60 rfl (fun _ => ?_) (fun c => (by first | exact absurd c (by decide) | exact absurd (by decide) c))
  refine V2_iload_n (i := 2) d_R_voice_73 rfl rfl ?_
  refine V2_iconst (v := 2) d_R_voice_74 rfl ?_
  refine V2_icmp_ne (tgt := 88) d_R_voice_75 rfl (fun _ => ?_) (fun c => (by first | exact absurd c (by decide) | exact absurd (by decide) c))
  refine V2_aload_n (i := 0) d_R_voice_88 rfl rfl ?_
  refine V2_iload (i := 4) d_R_voice_89 rfl ?_
  refine V2_iload_n (i := 3) d_R_voice_91 rfl rfl ?_
  refine V2_callV [.int (0 : Int32), .int x] d_R_voice_92 rfl rfl lk_R_255 mo_R_partsAs (by decide) rfl rfl rfl (Nat.le_of_ble_eq_true rfl) (Nat.le_of_ble_eq_true rfl) ?_
  refine V2.to (l' := [some (.ref 65), some (.int (0 : Int32)), some (.int x), none, none]) ?_ rfl rfl rfl rfl
  refine V2_iload_n (i := 1) d_R_partsAs_0 rfl rfl ?_
  refine V2_lookup (tgt := 28) (off := 27) d_R_partsAs_1 (by decide) (by decide +kernel) rfl ?_
  refine V2_aload_n (i := 0) d_R_partsAs_28 rfl rfl ?_
  refine V2_bipush (v := 13) d_R_partsAs_29 rfl ?_
  refine V2_callV [.int (13 : Int32)] d_R_partsAs_31 rfl rfl lk_R_233 mo_R_begins (by decide) rfl rfl rfl (Nat.le_of_ble_eq_true rfl) (Nat.le_of_ble_eq_true rfl) ?_
  refine V2.to (l' := [some (.ref 65), some (.int (13 : Int32))]) ?_ rfl rfl rfl rfl
  refine V2_aload_n (i := 0) d_R_begins_0 rfl rfl ?_
  refine V2_get (v := (0 : Int32)) d_R_begins_1 fl_R_227 (by decide) rfl (by decide) rfl rfl ?_
  refine V2_bipush (v := 30) d_R_begins_4 rfl ?_
  refine V2_icmp_ge (tgt := 29) d_R_begins_6 rfl (fun c => (by first | exact absurd c (by decide) | exact absurd (by decide) c)) (fun _ => ?_)
  refine V2_aload_n (i := 0) d_R_begins_9 rfl rfl ?_
  refine V2_getr (a := 73) d_R_begins_10 fl_R_35 (by decide) rfl (by decide) rfl ?_
  refine V2_aload_n (i := 0) d_R_begins_13 rfl rfl ?_
  refine V2_get (v := (0 : Int32)) d_R_begins_14 fl_R_227 (by decide) rfl (by decide) rfl rfl ?_
  refine V2_iload_n (i := 1) d_R_begins_17 rfl rfl ?_
  refine V2_iastore (j := 0) d_R_begins_18 (by decide) rfl (xixA (n := 0) rfl (by decide) (by decide)) rfl ?_
  refine V2_aload_n (i := 0) d_R_begins_19 rfl rfl ?_
  refine V2_dup d_R_begins_20 rfl ?_
  refine V2_get (v := (0 : Int32)) d_R_begins_21 fl_R_227 (by decide) rfl (by decide) rfl rfl ?_
  refine V2_iconst (v := 1) d_R_begins_24 rfl ?_
  refine V2_iadd d_R_begins_25 ?_
  refine V2_lit (v := 1) (by decide) ?_
  refine V2_put d_R_begins_26 fl_R_227 (by decide) rfl (by decide) rfl ?_
  refine V2_return d_R_begins_29 rfl ?_
  refine V2.to (st' := []) ?_ rfl rfl rfl rfl
  refine V2_aload_n (i := 0) d_R_partsAs_34 rfl rfl ?_
  refine V2_callV [] d_R_partsAs_35 rfl rfl lk_R_245 mo_R_mNow (by decide) rfl rfl rfl (Nat.le_of_ble_eq_true rfl) (Nat.le_of_ble_eq_true rfl) ?_
  refine V2.to (l' := [some (.ref 65)]) ?_ rfl rfl rfl rfl
  refine V2_aload_n (i := 0) d_R_mNow_0 rfl rfl ?_
  refine V2_aload_n (i := 0) d_R_mNow_1 rfl rfl ?_
  refine V2_get (v := nI p) d_R_mNow_2 fl_R_230 (by decide) rfl (by decide) rfl rfl ?_
  refine V2_topi (fun v3 ev3 => ?_)
  refine V2_iconst (v := 1) d_R_mNow_5 rfl ?_
  refine V2_callV [.int v3, .int (1 : Int32)] d_R_mNow_6 rfl rfl lk_R_114 mo_R_its (by decide) rfl rfl rfl (Nat.le_of_ble_eq_true rfl) (Nat.le_of_ble_eq_true rfl) ?_
  rw [ev3]
  refine c_R_its1 (p := p) (by omega) ?_
  refine V2_lit (v := mm) (show F 66 (12 + 2 * p + 1) = mm from (congrFun e66 _).trans em) ?_
  refine V2_ireturn d_R_mNow_9 rfl ?_
  refine V2.to (st' := [.int mm]) ?_ rfl rfl rfl rfl
  refine V2_aload_n (i := 0) d_R_partsAs_38 rfl rfl ?_
  refine V2_get (v := nI p) d_R_partsAs_39 fl_R_230 (by decide) rfl (by decide) rfl rfl ?_
  refine V2_topi (fun v4 ev4 => ?_)
  refine V2_isub d_R_partsAs_42 ?_
  refine V2_topi (fun v5 ev5 => ?_)
  refine V2_istore_n (i := 3) (l' := [some (.ref 65), some (.int (0 : Int32)), some (.int x), some (.int v5), none]) d_R_partsAs_43 rfl (xst_i (Nat.le_of_ble_eq_true rfl) rfl rfl) ?_
  refine V2_aload_n (i := 0) d_R_partsAs_44 rfl rfl ?_
  refine V2_iload_n (i := 3) d_R_partsAs_45 rfl rfl ?_
  refine V2_if_ne (tgt := 53) d_R_partsAs_46 rfl (fun c6 => ?_) (fun c6 => (by first | exact absurd (show ¬ v5 = 0 from by subst ev5 ev4 ev3 ev1; exact hz) c6 | exact absurd c6 (show ¬ v5 = 0 from by subst ev5 ev4 ev3 ev1; exact hz)))
  refine V2_iconst (v := 0) d_R_partsAs_53 rfl ?_
  refine V2_putz d_R_partsAs_54 fl_R_251 (by decide) rfl (by decide) rfl (by decide) ?_
  refine V2_iload_n (i := 3) d_R_partsAs_57 rfl rfl ?_
  refine V2_if_ne (tgt := 65) d_R_partsAs_58 rfl (fun c7 => ?_) (fun c7 => (by first | exact absurd (show ¬ v5 = 0 from by subst ev5 ev4 ev3 ev1; exact hz) c7 | exact absurd c7 (show ¬ v5 = 0 from by subst ev5 ev4 ev3 ev1; exact hz)))
  refine V2_iload_n (i := 3) d_R_partsAs_65 rfl rfl ?_
  refine V2_iconst (v := -1) d_R_partsAs_66 rfl ?_
  refine V2_icmp_ne (tgt := 75) d_R_partsAs_67 rfl (fun c8 => ?_) (fun c8 => ?_)
  · refine V2_iload_n (i := 2) d_R_partsAs_75 rfl rfl ?_
    refine V2_iload_n (i := 3) d_R_partsAs_76 rfl rfl ?_
    refine V2_idiv d_R_partsAs_77 (by assumption) ?_
    refine V2_topi (fun v9 ev9 => ?_)
    have hq : v9 = x / (mm - nI p) := by
      subst ev9 ev5 ev4 ev3 ev1
      rfl
    rw [hq]
    refine V2_ireturn d_R_partsAs_78 rfl ?_
    refine V2.to (st' := [.int (x / (mm - nI p))]) ?_ rfl rfl rfl rfl
    refine V2_istore (i := 5) (l' := [some (.ref 65), some (.int (nI p)), some (.int (3 : Int32)), some (.int x), some (.int (0 : Int32)), some (.int (x / (mm - nI p)))]) d_R_voice_95 (xst_i (Nat.le_of_ble_eq_true rfl) rfl rfl) ?_
    refine V2_aload_n (i := 0) d_R_voice_97 rfl rfl ?_
    refine V2_get (v := (0 : Int32)) d_R_voice_98 fl_R_251 (by decide) rfl (by decide) rfl rfl ?_
    refine V2_if_eq (tgt := 113) d_R_voice_101 rfl (fun _ => ?_) (fun c => (by first | exact absurd c (by decide) | exact absurd (by decide) c))
    refine V2_iload (i := 5) d_R_voice_113 rfl ?_
    refine V2_ireturn d_R_voice_115 rfl ?_
    subst ev9 ev5 ev4 ev3 ev1
    refine xQi (hQ _ (rel_trace (n := 1) (b := (fun i => ([13] : List Int32).getD i 0)) hR (by decide) hM ?_ ?_ ?_ ?_ ?_)) ?_ rfl
    · intro a h1 h2
      repeat (first | rw [xp_row_ne h1] | rw [xp_row_ne h2])
      try rfl
    · rfl
    · rfl
    · rfl
    · exact (fun i hi => by have h9 : i = 0 := (by omega) ; subst h9 ; rfl)
    · first | rfl | decide
  · refine V2_iload_n (i := 2) d_R_partsAs_70 rfl rfl ?_
    refine V2_ineg d_R_partsAs_71 ?_
    refine V2_topi (fun v10 ev10 => ?_)
    refine V2_goto (tgt := 78) d_R_partsAs_72 rfl ?_
    have hq : v10 = x / (mm - nI p) := by
      have h9 := c8
      subst ev10 ev5 ev4 ev3 ev1
      rw [h9, i32_div_m1]
    rw [hq]
    refine V2_ireturn d_R_partsAs_78 rfl ?_
    refine V2.to (st' := [.int (x / (mm - nI p))]) ?_ rfl rfl rfl rfl
    refine V2_istore (i := 5) (l' := [some (.ref 65), some (.int (nI p)), some (.int (3 : Int32)), some (.int x), some (.int (0 : Int32)), some (.int (x / (mm - nI p)))]) d_R_voice_95 (xst_i (Nat.le_of_ble_eq_true rfl) rfl rfl) ?_
    refine V2_aload_n (i := 0) d_R_voice_97 rfl rfl ?_
    refine V2_get (v := (0 : Int32)) d_R_voice_98 fl_R_251 (by decide) rfl (by decide) rfl rfl ?_
    refine V2_if_eq (tgt := 113) d_R_voice_101 rfl (fun _ => ?_) (fun c => (by first | exact absurd c (by decide) | exact absurd (by decide) c))
    refine V2_iload (i := 5) d_R_voice_113 rfl ?_
    refine V2_ireturn d_R_voice_115 rfl ?_
    subst ev10 ev5 ev4 ev3 ev1
    refine xQi (hQ _ (rel_trace (n := 1) (b := (fun i => ([13] : List Int32).getD i 0)) hR (by decide) hM ?_ ?_ ?_ ?_ ?_)) ?_ rfl
    · intro a h1 h2
      repeat (first | rw [xp_row_ne h1] | rw [xp_row_ne h2])
      try rfl
    · rfl
    · rfl
    · rfl
    · exact (fun i hi => by have h9 : i = 0 := (by omega) ; subst h9 ; rfl)
    · first | rfl | decide
theorem c_cv_0_3z {L : Nat} {xs : Nat → Int32} {d : Nat} {Q : Option Value → xF → Prop} {F : xF} {p : Nat} {x mm : Int32} (hR : Rel F) (hp : p < PN (F 66)) (ek : F 66 (12 + 2 * p) = 0) (em : F 66 (12 + 2 * p + 1) = mm) (hz : mm - nI p = 0) (hQ : ∀ F1, Mid F F1 (errF (traceG F 1 (fun i => ([13] : List Int32).getD i 0)) 6) → Q (some (.int (-1000000000 - 6))) F1) : V2 L xs (d + 40) m_P_voice 0 (xEntry [.ref 0, .int (nI p), .int (3 : Int32), .int x] 5) [] F Q := by
  obtain ⟨eP, hP6⟩ := inv_PN hR.2.1.2.2.1
  refine V2.to (l' := [some (.ref 0), some (.int (nI p)), some (.int (3 : Int32)), some (.int x), none]) ?_ rfl rfl rfl rfl
  refine V2_aload_n (i := 0) d_P_voice_0 rfl rfl ?_
  refine V2_getr (a := 1) d_P_voice_1 fl_P_10 (by decide) rfl (by decide) rfl ?_
  refine V2_getr (a := 3) d_P_voice_4 fl_P_70 (by decide) rfl (by decide) rfl ?_
  refine V2_iload_n (i := 1) d_P_voice_7 rfl rfl ?_
  refine V2_callV [.int (nI p)] d_P_voice_8 rfl rfl lk_P_84 mo_Push_has (by decide) rfl rfl rfl (Nat.le_of_ble_eq_true rfl) (Nat.le_of_ble_eq_true rfl) ?_
  refine c_Push_has (P := PN (F 66)) (hR.1.1.2.1.1.trans eP) hP6 ?_
  refine V2_topi (fun v1 ev1 => ?_)
  refine V2_if_eq (tgt := 21) d_P_voice_11 rfl (fun c2 => (by first | exact absurd c2 (show ¬ v1 = 0 from by subst ev1; exact xb_ne.mpr ⟨nI_pos' (by omega), by rw [hR.1.1.2.1.1, eP]; exact nI_lt hp (by omega)⟩) | exact absurd (show ¬ v1 = 0 from by subst ev1; exact xb_ne.mpr ⟨nI_pos' (by omega), by rw [hR.1.1.2.1.1, eP]; exact nI_lt hp (by omega)⟩) c2)) (fun c2 => ?_)
  refine V2_iload_n (i := 2) d_P_voice_14 rfl rfl ?_
  refine V2_callS [.int (3 : Int32)] d_P_voice_15 rfl rfl lk_P_290 mo_Voi_isVoice (Nat.le_of_ble_eq_true rfl) (Nat.le_of_ble_eq_true rfl) ?_
  refine V2.to (l' := [some (.int (3 : Int32))]) ?_ rfl rfl rfl rfl
  refine V2_iload_n (i := 0) d_Voi_isVoice_0 rfl rfl ?_
  refine V2_if_lt (tgt := 13) d_Voi_isVoice_1 rfl (fun c => (by first | exact absurd c (by decide) | exact absurd (by decide) c)) (fun _ => ?_)
  refine V2_iload_n (i := 0) d_Voi_isVoice_4 rfl rfl ?_
  refine V2_iconst (v := 4) d_Voi_isVoice_5 rfl ?_
  refine V2_icmp_ge (tgt := 13) d_Voi_isVoice_6 rfl (fun c => (by first | exact absurd c (by decide) | exact absurd (by decide) c)) (fun _ => ?_)
  refine V2_iconst (v := 1) d_Voi_isVoice_9 rfl ?_
  refine V2_goto (tgt := 14) d_Voi_isVoice_10 rfl ?_
  refine V2_zreturn d_Voi_isVoice_14 rfl (by decide) ?_
  refine V2.to (st' := [.int (1 : Int32)]) ?_ rfl rfl rfl rfl
  refine V2_if_ne (tgt := 27) d_P_voice_18 rfl (fun _ => ?_) (fun c => (by first | exact absurd c (by decide) | exact absurd (by decide) c))
  refine V2_aload_n (i := 0) d_P_voice_27 rfl rfl ?_
  refine V2_getr (a := 1) d_P_voice_28 fl_P_10 (by decide) rfl (by decide) rfl ?_
  refine V2_getr (a := 3) d_P_voice_31 fl_P_70 (by decide) rfl (by decide) rfl ?_
  refine V2_iload_n (i := 1) d_P_voice_34 rfl rfl ?_
  refine V2_callV [.int (nI p)] d_P_voice_35 rfl rfl lk_P_87 mo_Push_kindOf (by decide) rfl rfl rfl (Nat.le_of_ble_eq_true rfl) (Nat.le_of_ble_eq_true rfl) ?_
  refine c_Push_kindOf (P := PN (F 66)) (hR.1.1.2.1.1.trans eP) (hR.1.1.2.1.2.1.trans eP) hP6 hp ?_
  refine V2_lit (v := 0) (((rel_relP hR).2.2.2 p hp).1.trans ek) ?_
  refine V2_istore (i := 4) (l' := [some (.ref 0), some (.int (nI p)), some (.int (3 : Int32)), some (.int x), some (.int (0 : Int32))]) d_P_voice_38 (xst_i (Nat.le_of_ble_eq_true rfl) rfl rfl) ?_
  refine V2_aload_n (i := 0) d_P_voice_40 rfl rfl ?_
  refine V2_getr (a := 52) d_P_voice_41 fl_P_43 (by decide) rfl (by decide) rfl ?_
  refine V2_iload (i := 4) d_P_voice_44 rfl ?_
  refine V2_iload_n (i := 1) d_P_voice_46 rfl rfl ?_
  refine V2_aload_n (i := 0) d_P_voice_47 rfl rfl ?_
  refine V2_getr (a := 1) d_P_voice_48 fl_P_10 (by decide) rfl (by decide) rfl ?_
  refine V2_getr (a := 3) d_P_voice_51 fl_P_70 (by decide) rfl (by decide) rfl ?_
  refine V2_iload_n (i := 1) d_P_voice_54 rfl rfl ?_
  refine V2_callV [.int (nI p)] d_P_voice_55 rfl rfl lk_P_90 mo_Push_levelOf (by decide) rfl rfl rfl (Nat.le_of_ble_eq_true rfl) (Nat.le_of_ble_eq_true rfl) ?_
  refine c_Push_levelOf (P := PN (F 66)) (hR.1.1.2.1.1.trans eP) (hR.1.1.2.1.2.1.trans eP) hP6 hp ?_
  refine V2_lit (v := mm) (((rel_relP hR).2.2.2 p hp).2.trans em) ?_
  refine V2_iload_n (i := 2) d_P_voice_58 rfl rfl ?_
  refine V2_iload_n (i := 3) d_P_voice_59 rfl rfl ?_
  refine V2_callV [.int (0 : Int32), .int (nI p), .int mm, .int (3 : Int32), .int x] d_P_voice_60 rfl rfl lk_P_293 mo_Voi_speaks (by decide) rfl rfl rfl (Nat.le_of_ble_eq_true rfl) (Nat.le_of_ble_eq_true rfl) ?_
  refine V2.to (l' := [some (.ref 52), some (.int (0 : Int32)), some (.int (nI p)), some (.int mm), some (.int (3 : Int32)), some (.int x)]) ?_ rfl rfl rfl rfl
  refine V2_aload_n (i := 0) d_Voi_speaks_0 rfl rfl ?_
  refine V2_iload_n (i := 1) d_Voi_speaks_1 rfl rfl ?_
  refine V2_put d_Voi_speaks_2 fl_Voi_18 (by decide) rfl (by decide) rfl ?_
  refine V2_aload_n (i := 0) d_Voi_speaks_5 rfl rfl ?_
  refine V2_iload_n (i := 2) d_Voi_speaks_6 rfl rfl ?_
  refine V2_put d_Voi_speaks_7 fl_Voi_22 (by decide) rfl (by decide) rfl ?_
  refine V2_aload_n (i := 0) d_Voi_speaks_10 rfl rfl ?_
  refine V2_iload_n (i := 3) d_Voi_speaks_11 rfl rfl ?_
  refine V2_put d_Voi_speaks_12 fl_Voi_25 (by decide) rfl (by decide) rfl ?_
  refine V2_aload_n (i := 0) d_Voi_speaks_15 rfl rfl ?_
  refine V2_iconst (v := 0) d_Voi_speaks_16 rfl ?_
  refine V2_putz d_Voi_speaks_17 fl_Voi_31 (by decide) rfl (by decide) rfl (by decide) ?_
  refine V2_aload_n (i := 0) d_Voi_speaks_20 rfl rfl ?_
  refine V2_getr (a := 53) d_Voi_speaks_21 fl_Voi_14 (by decide) rfl (by decide) rfl ?_
  refine V2_callV [] d_Voi_speaks_24 rfl rfl lk_Voi_35 mo_Nums_empty (by decide) rfl rfl rfl (Nat.le_of_ble_eq_true rfl) (Nat.le_of_ble_eq_true rfl) ?_
  refine V2.to (l' := [some (.ref 53)]) ?_ rfl rfl rfl rfl
  refine V2_aload_n (i := 0) d_Nums_empty_0 rfl rfl ?_
  refine V2_iconst (v := 0) d_Nums_empty_1 rfl ?_
  refine V2_put d_Nums_empty_2 fl_Nums_7 (by decide) rfl (by decide) rfl ?_
  refine V2_return d_Nums_empty_5 rfl ?_
  refine V2.to (st' := []) ?_ rfl rfl rfl rfl
  refine V2_aload_n (i := 0) d_Voi_speaks_27 rfl rfl ?_
  refine V2_aload_n (i := 0) d_Voi_speaks_28 rfl rfl ?_
  refine V2_aload_n (i := 0) d_Voi_speaks_29 rfl rfl ?_
  refine V2_get (v := (0 : Int32)) d_Voi_speaks_30 fl_Voi_18 (by decide) rfl (by decide) rfl rfl ?_
  refine V2_iload (i := 4) d_Voi_speaks_33 rfl ?_
  refine V2_iload (i := 5) d_Voi_speaks_35 rfl ?_
  refine V2_iconst (v := 0) d_Voi_speaks_37 rfl ?_
  refine V2_callV [.int (0 : Int32), .int (3 : Int32), .int x, .int (0 : Int32)] d_Voi_speaks_38 rfl rfl lk_Voi_38 mo_Voi_says (by decide) rfl rfl rfl (Nat.le_of_ble_eq_true rfl) (Nat.le_of_ble_eq_true rfl) ?_
  refine V2.to (l' := [some (.ref 52), some (.int (0 : Int32)), some (.int (3 : Int32)), some (.int x), some (.int (0 : Int32)), none]) ?_ rfl rfl rfl rfl
  refine V2_iload_n (i := 1) d_Voi_says_0 rfl rfl ?_
  refine V2_iload_n (i := 2) d_Voi_says_1 rfl rfl ?_
  refine V2_callS [.int (0 : Int32), .int (3 : Int32)] d_Voi_says_2 rfl rfl lk_Voi_42 mo_Voi_bodyFrom (Nat.le_of_ble_eq_true rfl) (Nat.le_of_ble_eq_true rfl) ?_
  refine V2.to (l' := [some (.int (0 : Int32)), some (.int (3 : Int32)), none, none, none]) ?_ rfl rfl rfl rfl
  refine V2_iload_n (i := 0) d_Voi_bodyFrom_0 rfl rfl ?_
  refine V2_istore_n (i := 2) (l' := [some (.int (0 : Int32)), some (.int (3 : Int32)), some (.int (0 : Int32)), none, none]) d_Voi_bodyFrom_1 rfl (xst_i (Nat.le_of_ble_eq_true rfl) rfl rfl) ?_
  refine V2_iconst (v := 0) d_Voi_bodyFrom_2 rfl ?_
  refine V2_istore_n (i := 3) (l' := [some (.int (0 : Int32)), some (.int (3 : Int32)), some (.int (0 : Int32)), some (.int (0 : Int32)), none]) d_Voi_bodyFrom_3 rfl (xst_i (Nat.le_of_ble_eq_true rfl) rfl rfl) ?_
  refine V2_iload_n (i := 3) d_Voi_bodyFrom_4 rfl rfl ?_
  refine V2_getsB d_Voi_bodyFrom_5 gs_Voi_53 ?_
  refine V2_bodieslen d_Voi_bodyFrom_8 ?_
  refine V2_icmp_ge (tgt := 45) d_Voi_bodyFrom_9 rfl (fun c => (by first | exact absurd c (by decide) | exact absurd (by decide) c)) (fun _ => ?_)
  refine V2_iload_n (i := 2) d_Voi_bodyFrom_12 rfl rfl ?_
  refine V2_if_lt (tgt := 45) d_Voi_bodyFrom_13 rfl (fun c => (by first | exact absurd c (by decide) | exact absurd (by decide) c)) (fun _ => ?_)
  refine V2_iload_n (i := 2) d_Voi_bodyFrom_16 rfl rfl ?_
  refine V2_iconst (v := 4) d_Voi_bodyFrom_17 rfl ?_
  refine V2_imul d_Voi_bodyFrom_18 ?_
  refine V2_lit (v := 0) (by decide) ?_
  refine V2_iload_n (i := 1) d_Voi_bodyFrom_19 rfl rfl ?_
  refine V2_iadd d_Voi_bodyFrom_20 ?_
  refine V2_lit (v := 3) (by decide) ?_
  refine V2_callS [.int (3 : Int32)] d_Voi_bodyFrom_21 rfl rfl lk_Voi_57 mo_Voi_bodyAt (Nat.le_of_ble_eq_true rfl) (Nat.le_of_ble_eq_true rfl) ?_
  refine V2.to (l' := [some (.int (3 : Int32))]) ?_ rfl rfl rfl rfl
  refine V2_iload_n (i := 0) d_Voi_bodyAt_0 rfl rfl ?_
  refine V2_if_lt (tgt := 20) d_Voi_bodyAt_1 rfl (fun c => (by first | exact absurd c (by decide) | exact absurd (by decide) c)) (fun _ => ?_)
  refine V2_iload_n (i := 0) d_Voi_bodyAt_4 rfl rfl ?_
  refine V2_getsB d_Voi_bodyAt_5 gs_Voi_53 ?_
  refine V2_bodieslen d_Voi_bodyAt_8 ?_
  refine V2_icmp_ge (tgt := 20) d_Voi_bodyAt_9 rfl (fun c => (by first | exact absurd c (by decide) | exact absurd (by decide) c)) (fun _ => ?_)
  refine V2_getsB d_Voi_bodyAt_12 gs_Voi_53 ?_
  refine V2_iload_n (i := 0) d_Voi_bodyAt_15 rfl rfl ?_
  refine V2_bodies (v := 13) d_Voi_bodyAt_16 (xixA (n := 3) rfl (by decide) (by decide)) (by decide) ?_
  refine V2_goto (tgt := 21) d_Voi_bodyAt_17 rfl ?_
  refine V2_ireturn d_Voi_bodyAt_21 rfl ?_
  refine V2.to (st' := [.int (13 : Int32)]) ?_ rfl rfl rfl rfl
  refine V2_istore (i := 4) (l' := [some (.int (0 : Int32)), some (.int (3 : Int32)), some (.int (0 : Int32)), some (.int (0 : Int32)), some (.int (13 : Int32))]) d_Voi_bodyFrom_24 (xst_i (Nat.le_of_ble_eq_true rfl) rfl rfl) ?_
  refine V2_iload (i := 4) d_Voi_bodyFrom_26 rfl ?_
  refine V2_if_eq (tgt := 34) d_Voi_bodyFrom_28 rfl (fun c => (by first | exact absurd c (by decide) | exact absurd (by decide) c)) (fun _ => ?_)
  refine V2_iload (i := 4) d_Voi_bodyFrom_31 rfl ?_
  refine V2_ireturn d_Voi_bodyFrom_33 rfl ?_
  refine V2.to (st' := [.int (13 : Int32)]) ?_ rfl rfl rfl rfl
  refine V2_istore (i := 5) (l' := [some (.ref 52), some (.int (0 : Int32)), some (.int (3 : Int32)), some (.int x), some (.int (0 : Int32)), some (.int (13 : Int32))]) d_Voi_says_5 (xst_i (Nat.le_of_ble_eq_true rfl) rfl rfl) ?_
  refine V2_aload_n (i := 0) d_Voi_says_7 rfl rfl ?_
  refine V2_get (v := (0 : Int32)) d_Voi_says_8 fl_Voi_31 (by decide) rfl (by decide) rfl rfl ?_
  refine V2_if_ne (tgt := 26) d_Voi_says_11 rfl (fun c => (by first | exact absurd c (by decide) | exact absurd (by decide) c)) (fun _ => ?_)
  refine V2_iload (i := 5) d_Voi_says_14 rfl ?_
  refine V2_if_eq (tgt := 26) d_Voi_says_16 rfl (fun c => (by first | exact absurd c (by decide) | exact absurd (by decide) c)) (fun _ => ?_)
  refine V2_iload (i := 4) d_Voi_says_19 rfl ?_
  refine V2_bipush (v := 30) d_Voi_says_21 rfl ?_
  refine V2_icmp_lt (tgt := 28) d_Voi_says_23 rfl (fun _ => ?_) (fun c => (by first | exact absurd c (by decide) | exact absurd (by decide) c))
  refine V2_aload_n (i := 0) d_Voi_says_28 rfl rfl ?_
  refine V2_getr (a := 53) d_Voi_says_29 fl_Voi_14 (by decide) rfl (by decide) rfl ?_
  refine V2_iload (i := 5) d_Voi_says_32 rfl ?_
  refine V2_callV [.int (13 : Int32)] d_Voi_says_34 rfl rfl lk_Voi_46 mo_Nums_add (by decide) rfl rfl rfl (Nat.le_of_ble_eq_true rfl) (Nat.le_of_ble_eq_true rfl) ?_
  refine V2.to (l' := [some (.ref 53), some (.int (13 : Int32))]) ?_ rfl rfl rfl rfl
  refine V2_aload_n (i := 0) d_Nums_add_0 rfl rfl ?_
  refine V2_get (v := (0 : Int32)) d_Nums_add_1 fl_Nums_7 (by decide) rfl (by decide) rfl rfl ?_
  refine V2_if_lt (tgt := 39) d_Nums_add_4 rfl (fun c => (by first | exact absurd c (by decide) | exact absurd (by decide) c)) (fun _ => ?_)
  refine V2_aload_n (i := 0) d_Nums_add_7 rfl rfl ?_
  refine V2_get (v := (0 : Int32)) d_Nums_add_8 fl_Nums_7 (by decide) rfl (by decide) rfl rfl ?_
  refine V2_aload_n (i := 0) d_Nums_add_11 rfl rfl ?_
  refine V2_getr (a := 54) d_Nums_add_12 fl_Nums_19 (by decide) rfl (by decide) rfl ?_
  refine V2_alen (t := 0) (v := 30) d_Nums_add_15 (by decide) rfl (by decide) rfl ?_
  refine V2_icmp_ge (tgt := 39) d_Nums_add_16 rfl (fun c => (by first | exact absurd c (by decide) | exact absurd (by decide) c)) (fun _ => ?_)
  refine V2_aload_n (i := 0) d_Nums_add_19 rfl rfl ?_
  refine V2_getr (a := 54) d_Nums_add_20 fl_Nums_19 (by decide) rfl (by decide) rfl ?_
  refine V2_aload_n (i := 0) d_Nums_add_23 rfl rfl ?_
  refine V2_get (v := (0 : Int32)) d_Nums_add_24 fl_Nums_7 (by decide) rfl (by decide) rfl rfl ?_
  refine V2_iload_n (i := 1) d_Nums_add_27 rfl rfl ?_
  refine V2_iastore (j := 0) d_Nums_add_28 (by decide) rfl (xixA (n := 0) rfl (by decide) (by decide)) rfl ?_
  refine V2_aload_n (i := 0) d_Nums_add_29 rfl rfl ?_
  refine V2_dup d_Nums_add_30 rfl ?_
  refine V2_get (v := (0 : Int32)) d_Nums_add_31 fl_Nums_7 (by decide) rfl (by decide) rfl rfl ?_
  refine V2_iconst (v := 1) d_Nums_add_34 rfl ?_
  refine V2_iadd d_Nums_add_35 ?_
  refine V2_lit (v := 1) (by decide) ?_
  refine V2_put d_Nums_add_36 fl_Nums_7 (by decide) rfl (by decide) rfl ?_
  refine V2_return d_Nums_add_39 rfl ?_
  refine V2.to (st' := []) ?_ rfl rfl rfl rfl
  refine V2_aload_n (i := 0) d_Voi_says_37 rfl rfl ?_
  refine V2_iload (i := 5) d_Voi_says_38 rfl ?_
  refine V2_iload_n (i := 3) d_Voi_says_40 rfl rfl ?_
  refine V2_iload (i := 4) d_Voi_says_41 rfl ?_
  refine V2_iconst (v := 1) d_Voi_says_43 rfl ?_
  refine V2_iadd d_Voi_says_44 ?_
  refine V2_lit (v := 1) (by decide) ?_
  refine V2_callV [.int (13 : Int32), .int x, .int (1 : Int32)] d_Voi_says_45 rfl rfl lk_Voi_49 mo_Voi_worksOut (by decide) rfl rfl rfl (Nat.le_of_ble_eq_true rfl) (Nat.le_of_ble_eq_true rfl) ?_
  refine V2.to (l' := [some (.ref 52), some (.int (13 : Int32)), some (.int x), some (.int (1 : Int32))]) ?_ rfl rfl rfl rfl
  refine V2_iload_n (i := 1) d_Voi_worksOut_0 rfl rfl ?_
  refine V2_lookup (tgt := 154) (off := 153) d_Voi_worksOut_1 (by decide) (by decide +kernel) rfl ?_
  refine V2_aload_n (i := 0) d_Voi_worksOut_154 rfl rfl ?_
  refine V2_iload_n (i := 2) d_Voi_worksOut_155 rfl rfl ?_
  refine V2_aload_n (i := 0) d_Voi_worksOut_156 rfl rfl ?_
  refine V2_get (v := mm) d_Voi_worksOut_157 fl_Voi_25 (by decide) rfl (by decide) rfl rfl ?_
  refine V2_aload_n (i := 0) d_Voi_worksOut_160 rfl rfl ?_
  refine V2_get (v := nI p) d_Voi_worksOut_161 fl_Voi_22 (by decide) rfl (by decide) rfl rfl ?_
  refine V2_topi (fun v3 ev3 => ?_)
  refine V2_isub d_Voi_worksOut_164 ?_
  refine V2_topi (fun v4 ev4 => ?_)
  refine V2_callV [.int x, .int v4] d_Voi_worksOut_165 rfl rfl lk_Voi_66 mo_Voi_partsBy (by decide) rfl rfl rfl (Nat.le_of_ble_eq_true rfl) (Nat.le_of_ble_eq_true rfl) ?_
  refine V2.to (l' := [some (.ref 52), some (.int x), some (.int v4)]) ?_ rfl rfl rfl rfl
  refine V2_iload_n (i := 2) d_Voi_partsBy_0 rfl rfl ?_
  refine V2_if_ne (tgt := 11) d_Voi_partsBy_1 rfl (fun c5 => (by first | exact absurd c5 (show v4 = 0 from by subst ev4 ev3 ev1; exact hz) | exact absurd (show v4 = 0 from by subst ev4 ev3 ev1; exact hz) c5)) (fun c5 => ?_)
  refine V2_aload_n (i := 0) d_Voi_partsBy_4 rfl rfl ?_
  refine V2_iconst (v := 1) d_Voi_partsBy_5 rfl ?_
  refine V2_putz d_Voi_partsBy_6 fl_Voi_31 (by decide) rfl (by decide) rfl (by decide) ?_
  refine V2_iconst (v := 0) d_Voi_partsBy_9 rfl ?_
  refine V2_ireturn d_Voi_partsBy_10 rfl ?_
  refine V2.to (st' := [.int (0 : Int32)]) ?_ rfl rfl rfl rfl
  refine V2_ireturn d_Voi_worksOut_168 rfl ?_
  refine V2.to (st' := [.int (0 : Int32)]) ?_ rfl rfl rfl rfl
  refine V2_ireturn d_Voi_says_48 rfl ?_
  refine V2.to (st' := [.int (0 : Int32), .ref 52]) ?_ rfl rfl rfl rfl
  refine V2_put d_Voi_speaks_41 fl_Voi_28 (by decide) rfl (by decide) rfl ?_
  refine V2_aload_n (i := 0) d_Voi_speaks_44 rfl rfl ?_
  refine V2_get (v := (1 : Int32)) d_Voi_speaks_45 fl_Voi_31 (by decide) rfl (by decide) rfl rfl ?_
  refine V2_if_ne (tgt := 55) d_Voi_speaks_48 rfl (fun _ => ?_) (fun c => (by first | exact absurd c (by decide) | exact absurd (by decide) c))
  refine V2_iconst (v := 0) d_Voi_speaks_55 rfl ?_
  refine V2_zreturn d_Voi_speaks_56 rfl (by decide) ?_
  refine V2.to (st' := [.int (0 : Int32)]) ?_ rfl rfl rfl rfl
  refine V2_if_ne (tgt := 73) d_P_voice_63 rfl (fun c => (by first | exact absurd c (by decide) | exact absurd (by decide) c)) (fun _ => ?_)
  refine V2_aload_n (i := 0) d_P_voice_66 rfl rfl ?_
  refine V2_bipush (v := 6) d_P_voice_67 rfl ?_
  refine V2_callV [.int (6 : Int32)] d_P_voice_69 rfl rfl lk_P_66 mo_P_fails (by decide) rfl rfl rfl (Nat.le_of_ble_eq_true rfl) (Nat.le_of_ble_eq_true rfl) ?_
  refine c_P_fails6 ?_
  refine V2_topi (fun v6 ev6 => ?_)
  refine V2_ireturn d_P_voice_72 rfl ?_
  subst ev6 ev4 ev3 ev1
  exact xQi (hQ _ (mid_errG (mid_trace (n := 1) (b := (fun i => ([13] : List Int32).getD i 0)) hR (by decide) (fun a h1 h2 h3 => by   repeat (first | rw [xp_row_ne h1] | rw [xp_row_ne h2] | rw [xp_row_ne h3]) ; try rfl) rfl (fun i hi => by have h9 : i = 0 := (by omega) ; subst h9 ; rfl)) (by decide))) rfl rfl
theorem c_mv_0_3z {L : Nat} {xs : Nat → Int32} {d : Nat} {Q : Option Value → xF → Prop} {F : xF} {p : Nat} {x mm : Int32} {F0 : xF} (hR : Rel F0) (hp : p < PN (F0 66)) (ek : F0 66 (12 + 2 * p) = 0) (em : F0 66 (12 + 2 * p + 1) = mm) (hz : mm - nI p = 0) (hM : Mid F0 F (errF (traceG F0 1 (fun i => ([13] : List Int32).getD i 0)) 6)) (hQ : ∀ F2, Rel F2 → Q (some (.int (-1000000000 - 6))) F2) : V2 L xs (d + 40) m_R_voice 0 (xEntry [.ref 65, .int (nI p), .int (3 : Int32), .int x] 6) [] F Q := by
  have e66 : F 66 = F0 66 := hM.1 66 (by decide)
  obtain ⟨eP, hP6⟩ := inv_PN hR.2.1.2.2.1
  have s1 : (F 66 11 - 1).toInt = (PN (F0 66) : Int) - 1 := sub_any (n := PN (F0 66)) ((congrFun e66 11).trans eP) (by omega) (by decide)
  refine V2.to (l' := [some (.ref 65), some (.int (nI p)), some (.int (3 : Int32)), some (.int x), none, none]) ?_ rfl rfl rfl rfl
  refine V2_aload_n (i := 0) d_R_voice_0 rfl rfl ?_
  refine V2_iload_n (i := 1) d_R_voice_1 rfl rfl ?_
  refine V2_callV [.int (nI p)] d_R_voice_2 rfl rfl lk_R_168 mo_R_isPusher (by decide) rfl rfl rfl (Nat.le_of_ble_eq_true rfl) (Nat.le_of_ble_eq_true rfl) ?_
  refine c_R_isPusher ?_
  refine V2_topi (fun v1 ev1 => ?_)
  refine V2_if_eq (tgt := 17) d_R_voice_5 rfl (fun c2 => (by first | exact absurd c2 (show ¬ v1 = 0 from by subst ev1; exact xb_ne.mpr (by rw [toI_le, toI_le, s1, nI_toInt (by omega)]; have q0 : (0 : Int32).toInt = 0 := (by decide); omega)) | exact absurd (show ¬ v1 = 0 from by subst ev1; exact xb_ne.mpr (by rw [toI_le, toI_le, s1, nI_toInt (by omega)]; have q0 : (0 : Int32).toInt = 0 := (by decide); omega)) c2)) (fun c2 => ?_)
  refine V2_iload_n (i := 2) d_R_voice_8 rfl rfl ?_
  refine V2_iconst (v := 0) d_R_voice_9 rfl ?_
  refine V2_iconst (v := 3) d_R_voice_10 rfl ?_
  refine V2_callS [.int (3 : Int32), .int (0 : Int32), .int (3 : Int32)] d_R_voice_11 rfl rfl lk_R_51 mo_R_in (Nat.le_of_ble_eq_true rfl) (Nat.le_of_ble_eq_true rfl) ?_
  refine V2.to (l' := [some (.int (3 : Int32)), some (.int (0 : Int32)), some (.int (3 : Int32))]) ?_ rfl rfl rfl rfl
  refine V2_iload_n (i := 0) d_R_in_0 rfl rfl ?_
  refine V2_iload_n (i := 1) d_R_in_1 rfl rfl ?_
  refine V2_icmp_lt (tgt := 14) d_R_in_2 rfl (fun c => (by first | exact absurd c (by decide) | exact absurd (by decide) c)) (fun _ => ?_)
  refine V2_iload_n (i := 0) d_R_in_5 rfl rfl ?_
  refine V2_iload_n (i := 2) d_R_in_6 rfl rfl ?_
  refine V2_icmp_gt (tgt := 14) d_R_in_7 rfl (fun c => (by first | exact absurd c (by decide) | exact absurd (by decide) c)) (fun _ => ?_)
  refine V2_iconst (v := 1) d_R_in_10 rfl ?_
  refine V2_goto (tgt := 15) d_R_in_11 rfl ?_
  refine V2_zreturn d_R_in_15 rfl (by decide) ?_
  refine V2.to (st' := [.int (1 : Int32)]) ?_ rfl rfl rfl rfl
  refine V2_if_ne (tgt := 23) d_R_voice_14 rfl (fun _ => ?_) (fun c => (by first | exact absurd c (by decide) | exact absurd (by decide) c))
  refine V2_aload_n (i := 0) d_R_voice_23 rfl rfl ?_
  refine V2_iconst (v := 0) d_R_voice_24 rfl ?_
  refine V2_put d_R_voice_25 fl_R_227 (by decide) rfl (by decide) rfl ?_
  refine V2_aload_n (i := 0) d_R_voice_28 rfl rfl ?_
  refine V2_iload_n (i := 1) d_R_voice_29 rfl rfl ?_
  refine V2_put d_R_voice_30 fl_R_230 (by decide) rfl (by decide) rfl ?_
  refine V2_aload_n (i := 0) d_R_voice_33 rfl rfl ?_
  refine V2_iconst (v := 0) d_R_voice_34 rfl ?_
  refine V2_putz d_R_voice_35 fl_R_251 (by decide) rfl (by decide) rfl (by decide) ?_
  refine V2_aload_n (i := 0) d_R_voice_38 rfl rfl ?_
  refine V2_callV [] d_R_voice_39 rfl rfl lk_R_239 mo_R_kindNow (by decide) rfl rfl rfl (Nat.le_of_ble_eq_true rfl) (Nat.le_of_ble_eq_true rfl) ?_
  refine c_R_kindNow (p := p) (by omega) rfl ?_
  refine V2_lit (v := 0) (show F 66 (12 + 2 * p) = 0 from (congrFun e66 _).trans ek) ?_
  refine V2_istore (i := 4) (l' := [some (.ref 65), some (.int (nI p)), some (.int (3 : Int32)), some (.int x), some (.int (0 : Int32)), none]) d_R_voice_42 (xst_i (Nat.le_of_ble_eq_true rfl) rfl rfl) ?_
  refine V2_iload_n (i := 2) d_R_voice_44 rfl rfl ?_
  refine V2_if_ne (tgt := 58) d_R_voice_45 rfl (fun _ => ?_) (fun c => (by first | exact absurd c (by decide) | exact absurd (by decide) c))
  refine V2_iload_n (i := 2) d_R_voice_58 rfl rfl ?_
  refine V2_iconst (v := 1) d_R_voice_59 rfl ?_
  refine V2_icmp_ne (tgt := 73) d_R_voice_60 rfl (fun _ => ?_) (fun c => (by first | exact absurd c (by decide) | exact absurd (by decide) c))
  refine V2_iload_n (i := 2) d_R_voice_73 rfl rfl ?_
  refine V2_iconst (v := 2) d_R_voice_74 rfl ?_
  refine V2_icmp_ne (tgt := 88) d_R_voice_75 rfl (fun _ => ?_) (fun c => (by first | exact absurd c (by decide) | exact absurd (by decide) c))
  refine V2_aload_n (i := 0) d_R_voice_88 rfl rfl ?_
  refine V2_iload (i := 4) d_R_voice_89 rfl ?_
  refine V2_iload_n (i := 3) d_R_voice_91 rfl rfl ?_
  refine V2_callV [.int (0 : Int32), .int x] d_R_voice_92 rfl rfl lk_R_255 mo_R_partsAs (by decide) rfl rfl rfl (Nat.le_of_ble_eq_true rfl) (Nat.le_of_ble_eq_true rfl) ?_
  refine V2.to (l' := [some (.ref 65), some (.int (0 : Int32)), some (.int x), none, none]) ?_ rfl rfl rfl rfl
  refine V2_iload_n (i := 1) d_R_partsAs_0 rfl rfl ?_
  refine V2_lookup (tgt := 28) (off := 27) d_R_partsAs_1 (by decide) (by decide +kernel) rfl ?_
  refine V2_aload_n (i := 0) d_R_partsAs_28 rfl rfl ?_
  refine V2_bipush (v := 13) d_R_partsAs_29 rfl ?_
  refine V2_callV [.int (13 : Int32)] d_R_partsAs_31 rfl rfl lk_R_233 mo_R_begins (by decide) rfl rfl rfl (Nat.le_of_ble_eq_true rfl) (Nat.le_of_ble_eq_true rfl) ?_
  refine V2.to (l' := [some (.ref 65), some (.int (13 : Int32))]) ?_ rfl rfl rfl rfl
  refine V2_aload_n (i := 0) d_R_begins_0 rfl rfl ?_
  refine V2_get (v := (0 : Int32)) d_R_begins_1 fl_R_227 (by decide) rfl (by decide) rfl rfl ?_
  refine V2_bipush (v := 30) d_R_begins_4 rfl ?_
  refine V2_icmp_ge (tgt := 29) d_R_begins_6 rfl (fun c => (by first | exact absurd c (by decide) | exact absurd (by decide) c)) (fun _ => ?_)
  refine V2_aload_n (i := 0) d_R_begins_9 rfl rfl ?_
  refine V2_getr (a := 73) d_R_begins_10 fl_R_35 (by decide) rfl (by decide) rfl ?_
  refine V2_aload_n (i := 0) d_R_begins_13 rfl rfl ?_
  refine V2_get (v := (0 : Int32)) d_R_begins_14 fl_R_227 (by decide) rfl (by decide) rfl rfl ?_
  refine V2_iload_n (i := 1) d_R_begins_17 rfl rfl ?_
  refine V2_iastore (j := 0) d_R_begins_18 (by decide) rfl (xixA (n := 0) rfl (by decide) (by decide)) rfl ?_
  refine V2_aload_n (i := 0) d_R_begins_19 rfl rfl ?_
  refine V2_dup d_R_begins_20 rfl ?_
  refine V2_get (v := (0 : Int32)) d_R_begins_21 fl_R_227 (by decide) rfl (by decide) rfl rfl ?_
  refine V2_iconst (v := 1) d_R_begins_24 rfl ?_
  refine V2_iadd d_R_begins_25 ?_
  refine V2_lit (v := 1) (by decide) ?_
  refine V2_put d_R_begins_26 fl_R_227 (by decide) rfl (by decide) rfl ?_
  refine V2_return d_R_begins_29 rfl ?_
  refine V2.to (st' := []) ?_ rfl rfl rfl rfl
  refine V2_aload_n (i := 0) d_R_partsAs_34 rfl rfl ?_
  refine V2_callV [] d_R_partsAs_35 rfl rfl lk_R_245 mo_R_mNow (by decide) rfl rfl rfl (Nat.le_of_ble_eq_true rfl) (Nat.le_of_ble_eq_true rfl) ?_
  refine V2.to (l' := [some (.ref 65)]) ?_ rfl rfl rfl rfl
  refine V2_aload_n (i := 0) d_R_mNow_0 rfl rfl ?_
  refine V2_aload_n (i := 0) d_R_mNow_1 rfl rfl ?_
  refine V2_get (v := nI p) d_R_mNow_2 fl_R_230 (by decide) rfl (by decide) rfl rfl ?_
  refine V2_topi (fun v3 ev3 => ?_)
  refine V2_iconst (v := 1) d_R_mNow_5 rfl ?_
  refine V2_callV [.int v3, .int (1 : Int32)] d_R_mNow_6 rfl rfl lk_R_114 mo_R_its (by decide) rfl rfl rfl (Nat.le_of_ble_eq_true rfl) (Nat.le_of_ble_eq_true rfl) ?_
  rw [ev3]
  refine c_R_its1 (p := p) (by omega) ?_
  refine V2_lit (v := mm) (show F 66 (12 + 2 * p + 1) = mm from (congrFun e66 _).trans em) ?_
  refine V2_ireturn d_R_mNow_9 rfl ?_
  refine V2.to (st' := [.int mm]) ?_ rfl rfl rfl rfl
  refine V2_aload_n (i := 0) d_R_partsAs_38 rfl rfl ?_
  refine V2_get (v := nI p) d_R_partsAs_39 fl_R_230 (by decide) rfl (by decide) rfl rfl ?_
  refine V2_topi (fun v4 ev4 => ?_)
  refine V2_isub d_R_partsAs_42 ?_
  refine V2_topi (fun v5 ev5 => ?_)
  refine V2_istore_n (i := 3) (l' := [some (.ref 65), some (.int (0 : Int32)), some (.int x), some (.int v5), none]) d_R_partsAs_43 rfl (xst_i (Nat.le_of_ble_eq_true rfl) rfl rfl) ?_
  refine V2_aload_n (i := 0) d_R_partsAs_44 rfl rfl ?_
  refine V2_iload_n (i := 3) d_R_partsAs_45 rfl rfl ?_
  refine V2_if_ne (tgt := 53) d_R_partsAs_46 rfl (fun c6 => (by first | exact absurd c6 (show v5 = 0 from by subst ev5 ev4 ev3 ev1; exact hz) | exact absurd (show v5 = 0 from by subst ev5 ev4 ev3 ev1; exact hz) c6)) (fun c6 => ?_)
  refine V2_iconst (v := 1) d_R_partsAs_49 rfl ?_
  refine V2_goto (tgt := 54) d_R_partsAs_50 rfl ?_
  refine V2_putz d_R_partsAs_54 fl_R_251 (by decide) rfl (by decide) rfl (by decide) ?_
  refine V2_iload_n (i := 3) d_R_partsAs_57 rfl rfl ?_
  refine V2_if_ne (tgt := 65) d_R_partsAs_58 rfl (fun c7 => (by first | exact absurd c7 (show v5 = 0 from by subst ev5 ev4 ev3 ev1; exact hz) | exact absurd (show v5 = 0 from by subst ev5 ev4 ev3 ev1; exact hz) c7)) (fun c7 => ?_)
  refine V2_iconst (v := 0) d_R_partsAs_61 rfl ?_
  refine V2_goto (tgt := 78) d_R_partsAs_62 rfl ?_
  refine V2_ireturn d_R_partsAs_78 rfl ?_
  refine V2.to (st' := [.int (0 : Int32)]) ?_ rfl rfl rfl rfl
  refine V2_istore (i := 5) (l' := [some (.ref 65), some (.int (nI p)), some (.int (3 : Int32)), some (.int x), some (.int (0 : Int32)), some (.int (0 : Int32))]) d_R_voice_95 (xst_i (Nat.le_of_ble_eq_true rfl) rfl rfl) ?_
  refine V2_aload_n (i := 0) d_R_voice_97 rfl rfl ?_
  refine V2_get (v := (1 : Int32)) d_R_voice_98 fl_R_251 (by decide) rfl (by decide) rfl rfl ?_
  refine V2_if_eq (tgt := 113) d_R_voice_101 rfl (fun c => (by first | exact absurd c (by decide) | exact absurd (by decide) c)) (fun _ => ?_)
  refine V2_aload_n (i := 0) d_R_voice_104 rfl rfl ?_
  refine V2_bipush (v := 6) d_R_voice_105 rfl ?_
  refine V2_callV [.int (6 : Int32)] d_R_voice_107 rfl rfl lk_R_55 mo_R_error (by decide) rfl rfl rfl (Nat.le_of_ble_eq_true rfl) (Nat.le_of_ble_eq_true rfl) ?_
  refine c_R_error6 ?_
  refine V2_topi (fun v8 ev8 => ?_)
  refine V2_goto (tgt := 115) d_R_voice_110 rfl ?_
  refine V2_ireturn d_R_voice_115 rfl ?_
  subst ev8 ev5 ev4 ev3 ev1
  refine xQi (hQ _ (rel_trace_err (n := 1) (b := (fun i => ([13] : List Int32).getD i 0)) hR (by decide) hM ?_ ?_ ?_ ?_ ?_)) rfl rfl
  · intro a h1 h2
    repeat (first | rw [xp_row_ne h1] | rw [xp_row_ne h2])
    try rfl
  · rfl
  · rfl
  · rfl
  · exact (fun i hi => by have h9 : i = 0 := (by omega) ; subst h9 ; rfl)
theorem c_cv_1_0 {L : Nat} {xs : Nat → Int32} {d : Nat} {Q : Option Value → xF → Prop} {F : xF} {p : Nat} {x mm : Int32} (hR : Rel F) (hp : p < PN (F 66)) (ek : F 66 (12 + 2 * p) = 1) (em : F 66 (12 + 2 * p + 1) = mm) (hQ : ∀ F1, Mid F F1 (traceG F 2 (fun i => ([20, 10] : List Int32).getD i 0)) → Q (some (.int ((x + nI p) - 4))) F1) : V2 L xs (d + 40) m_P_voice 0 (xEntry [.ref 0, .int (nI p), .int (0 : Int32), .int x] 5) [] F Q := by
  obtain ⟨eP, hP6⟩ := inv_PN hR.2.1.2.2.1
  refine V2.to (l' := [some (.ref 0), some (.int (nI p)), some (.int (0 : Int32)), some (.int x), none]) ?_ rfl rfl rfl rfl
  refine V2_aload_n (i := 0) d_P_voice_0 rfl rfl ?_
  refine V2_getr (a := 1) d_P_voice_1 fl_P_10 (by decide) rfl (by decide) rfl ?_
  refine V2_getr (a := 3) d_P_voice_4 fl_P_70 (by decide) rfl (by decide) rfl ?_
  refine V2_iload_n (i := 1) d_P_voice_7 rfl rfl ?_
  refine V2_callV [.int (nI p)] d_P_voice_8 rfl rfl lk_P_84 mo_Push_has (by decide) rfl rfl rfl (Nat.le_of_ble_eq_true rfl) (Nat.le_of_ble_eq_true rfl) ?_
  refine c_Push_has (P := PN (F 66)) (hR.1.1.2.1.1.trans eP) hP6 ?_
  refine V2_topi (fun v1 ev1 => ?_)
  refine V2_if_eq (tgt := 21) d_P_voice_11 rfl (fun c2 => (by first | exact absurd c2 (show ¬ v1 = 0 from by subst ev1; exact xb_ne.mpr ⟨nI_pos' (by omega), by rw [hR.1.1.2.1.1, eP]; exact nI_lt hp (by omega)⟩) | exact absurd (show ¬ v1 = 0 from by subst ev1; exact xb_ne.mpr ⟨nI_pos' (by omega), by rw [hR.1.1.2.1.1, eP]; exact nI_lt hp (by omega)⟩) c2)) (fun c2 => ?_)
  refine V2_iload_n (i := 2) d_P_voice_14 rfl rfl ?_
  refine V2_callS [.int (0 : Int32)] d_P_voice_15 rfl rfl lk_P_290 mo_Voi_isVoice (Nat.le_of_ble_eq_true rfl) (Nat.le_of_ble_eq_true rfl) ?_
  refine V2.to (l' := [some (.int (0 : Int32))]) ?_ rfl rfl rfl rfl
  refine V2_iload_n (i := 0) d_Voi_isVoice_0 rfl rfl ?_
  refine V2_if_lt (tgt := 13) d_Voi_isVoice_1 rfl (fun c => (by first | exact absurd c (by decide) | exact absurd (by decide) c)) (fun _ => ?_)
  refine V2_iload_n (i := 0) d_Voi_isVoice_4 rfl rfl ?_
  refine V2_iconst (v := 4) d_Voi_isVoice_5 rfl ?_
  refine V2_icmp_ge (tgt := 13) d_Voi_isVoice_6 rfl (fun c => (by first | exact absurd c (by decide) | exact absurd (by decide) c)) (fun _ => ?_)
  refine V2_iconst (v := 1) d_Voi_isVoice_9 rfl ?_
  refine V2_goto (tgt := 14) d_Voi_isVoice_10 rfl ?_
  refine V2_zreturn d_Voi_isVoice_14 rfl (by decide) ?_
  refine V2.to (st' := [.int (1 : Int32)]) ?_ rfl rfl rfl rfl
  refine V2_if_ne (tgt := 27) d_P_voice_18 rfl (fun _ => ?_) (fun c => (by first | exact absurd c (by decide) | exact absurd (by decide) c))
  refine V2_aload_n (i := 0) d_P_voice_27 rfl rfl ?_
  refine V2_getr (a := 1) d_P_voice_28 fl_P_10 (by decide) rfl (by decide) rfl ?_
  refine V2_getr (a := 3) d_P_voice_31 fl_P_70 (by decide) rfl (by decide) rfl ?_
  refine V2_iload_n (i := 1) d_P_voice_34 rfl rfl ?_
  refine V2_callV [.int (nI p)] d_P_voice_35 rfl rfl lk_P_87 mo_Push_kindOf (by decide) rfl rfl rfl (Nat.le_of_ble_eq_true rfl) (Nat.le_of_ble_eq_true rfl) ?_
  refine c_Push_kindOf (P := PN (F 66)) (hR.1.1.2.1.1.trans eP) (hR.1.1.2.1.2.1.trans eP) hP6 hp ?_
  refine V2_lit (v := 1) (((rel_relP hR).2.2.2 p hp).1.trans ek) ?_
  refine V2_istore (i := 4) (l' := [some (.ref 0), some (.int (nI p)), some (.int (0 : Int32)), some (.int x), some (.int (1 : Int32))]) d_P_voice_38 (xst_i (Nat.le_of_ble_eq_true rfl) rfl rfl) ?_
  refine V2_aload_n (i := 0) d_P_voice_40 rfl rfl ?_
  refine V2_getr (a := 52) d_P_voice_41 fl_P_43 (by decide) rfl (by decide) rfl ?_
  refine V2_iload (i := 4) d_P_voice_44 rfl ?_
  refine V2_iload_n (i := 1) d_P_voice_46 rfl rfl ?_
  refine V2_aload_n (i := 0) d_P_voice_47 rfl rfl ?_
  refine V2_getr (a := 1) d_P_voice_48 fl_P_10 (by decide) rfl (by decide) rfl ?_
  refine V2_getr (a := 3) d_P_voice_51 fl_P_70 (by decide) rfl (by decide) rfl ?_
  refine V2_iload_n (i := 1) d_P_voice_54 rfl rfl ?_
  refine V2_callV [.int (nI p)] d_P_voice_55 rfl rfl lk_P_90 mo_Push_levelOf (by decide) rfl rfl rfl (Nat.le_of_ble_eq_true rfl) (Nat.le_of_ble_eq_true rfl) ?_
  refine c_Push_levelOf (P := PN (F 66)) (hR.1.1.2.1.1.trans eP) (hR.1.1.2.1.2.1.trans eP) hP6 hp ?_
  refine V2_lit (v := mm) (((rel_relP hR).2.2.2 p hp).2.trans em) ?_
  refine V2_iload_n (i := 2) d_P_voice_58 rfl rfl ?_
  refine V2_iload_n (i := 3) d_P_voice_59 rfl rfl ?_
  refine V2_callV [.int (1 : Int32), .int (nI p), .int mm, .int (0 : Int32), .int x] d_P_voice_60 rfl rfl lk_P_293 mo_Voi_speaks (by decide) rfl rfl rfl (Nat.le_of_ble_eq_true rfl) (Nat.le_of_ble_eq_true rfl) ?_
  refine V2.to (l' := [some (.ref 52), some (.int (1 : Int32)), some (.int (nI p)), some (.int mm), some (.int (0 : Int32)), some (.int x)]) ?_ rfl rfl rfl rfl
  refine V2_aload_n (i := 0) d_Voi_speaks_0 rfl rfl ?_
  refine V2_iload_n (i := 1) d_Voi_speaks_1 rfl rfl ?_
  refine V2_put d_Voi_speaks_2 fl_Voi_18 (by decide) rfl (by decide) rfl ?_
  refine V2_aload_n (i := 0) d_Voi_speaks_5 rfl rfl ?_
  refine V2_iload_n (i := 2) d_Voi_speaks_6 rfl rfl ?_
  refine V2_put d_Voi_speaks_7 fl_Voi_22 (by decide) rfl (by decide) rfl ?_
  refine V2_aload_n (i := 0) d_Voi_speaks_10 rfl rfl ?_
  refine V2_iload_n (i := 3) d_Voi_speaks_11 rfl rfl ?_
  refine V2_put d_Voi_speaks_12 fl_Voi_25 (by decide) rfl (by decide) rfl ?_
  refine V2_aload_n (i := 0) d_Voi_speaks_15 rfl rfl ?_
  refine V2_iconst (v := 0) d_Voi_speaks_16 rfl ?_
  refine V2_putz d_Voi_speaks_17 fl_Voi_31 (by decide) rfl (by decide) rfl (by decide) ?_
  refine V2_aload_n (i := 0) d_Voi_speaks_20 rfl rfl ?_
  refine V2_getr (a := 53) d_Voi_speaks_21 fl_Voi_14 (by decide) rfl (by decide) rfl ?_
  refine V2_callV [] d_Voi_speaks_24 rfl rfl lk_Voi_35 mo_Nums_empty (by decide) rfl rfl rfl (Nat.le_of_ble_eq_true rfl) (Nat.le_of_ble_eq_true rfl) ?_
  refine V2.to (l' := [some (.ref 53)]) ?_ rfl rfl rfl rfl
  refine V2_aload_n (i := 0) d_Nums_empty_0 rfl rfl ?_
  refine V2_iconst (v := 0) d_Nums_empty_1 rfl ?_
  refine V2_put d_Nums_empty_2 fl_Nums_7 (by decide) rfl (by decide) rfl ?_
  refine V2_return d_Nums_empty_5 rfl ?_
  refine V2.to (st' := []) ?_ rfl rfl rfl rfl
  refine V2_aload_n (i := 0) d_Voi_speaks_27 rfl rfl ?_
  refine V2_aload_n (i := 0) d_Voi_speaks_28 rfl rfl ?_
  refine V2_aload_n (i := 0) d_Voi_speaks_29 rfl rfl ?_
  refine V2_get (v := (1 : Int32)) d_Voi_speaks_30 fl_Voi_18 (by decide) rfl (by decide) rfl rfl ?_
  refine V2_iload (i := 4) d_Voi_speaks_33 rfl ?_
  refine V2_iload (i := 5) d_Voi_speaks_35 rfl ?_
  refine V2_iconst (v := 0) d_Voi_speaks_37 rfl ?_
  refine V2_callV [.int (1 : Int32), .int (0 : Int32), .int x, .int (0 : Int32)] d_Voi_speaks_38 rfl rfl lk_Voi_38 mo_Voi_says (by decide) rfl rfl rfl (Nat.le_of_ble_eq_true rfl) (Nat.le_of_ble_eq_true rfl) ?_
  refine V2.to (l' := [some (.ref 52), some (.int (1 : Int32)), some (.int (0 : Int32)), some (.int x), some (.int (0 : Int32)), none]) ?_ rfl rfl rfl rfl
  refine V2_iload_n (i := 1) d_Voi_says_0 rfl rfl ?_
  refine V2_iload_n (i := 2) d_Voi_says_1 rfl rfl ?_
  refine V2_callS [.int (1 : Int32), .int (0 : Int32)] d_Voi_says_2 rfl rfl lk_Voi_42 mo_Voi_bodyFrom (Nat.le_of_ble_eq_true rfl) (Nat.le_of_ble_eq_true rfl) ?_
  refine V2.to (l' := [some (.int (1 : Int32)), some (.int (0 : Int32)), none, none, none]) ?_ rfl rfl rfl rfl
  refine V2_iload_n (i := 0) d_Voi_bodyFrom_0 rfl rfl ?_
  refine V2_istore_n (i := 2) (l' := [some (.int (1 : Int32)), some (.int (0 : Int32)), some (.int (1 : Int32)), none, none]) d_Voi_bodyFrom_1 rfl (xst_i (Nat.le_of_ble_eq_true rfl) rfl rfl) ?_
  refine V2_iconst (v := 0) d_Voi_bodyFrom_2 rfl ?_
  refine V2_istore_n (i := 3) (l' := [some (.int (1 : Int32)), some (.int (0 : Int32)), some (.int (1 : Int32)), some (.int (0 : Int32)), none]) d_Voi_bodyFrom_3 rfl (xst_i (Nat.le_of_ble_eq_true rfl) rfl rfl) ?_
  refine V2_iload_n (i := 3) d_Voi_bodyFrom_4 rfl rfl ?_
  refine V2_getsB d_Voi_bodyFrom_5 gs_Voi_53 ?_
  refine V2_bodieslen d_Voi_bodyFrom_8 ?_
  refine V2_icmp_ge (tgt := 45) d_Voi_bodyFrom_9 rfl (fun c => (by first | exact absurd c (by decide) | exact absurd (by decide) c)) (fun _ => ?_)
  refine V2_iload_n (i := 2) d_Voi_bodyFrom_12 rfl rfl ?_
  refine V2_if_lt (tgt := 45) d_Voi_bodyFrom_13 rfl (fun c => (by first | exact absurd c (by decide) | exact absurd (by decide) c)) (fun _ => ?_)
  refine V2_iload_n (i := 2) d_Voi_bodyFrom_16 rfl rfl ?_
  refine V2_iconst (v := 4) d_Voi_bodyFrom_17 rfl ?_
  refine V2_imul d_Voi_bodyFrom_18 ?_
  refine V2_lit (v := 4) (by decide) ?_
  refine V2_iload_n (i := 1) d_Voi_bodyFrom_19 rfl rfl ?_
  refine V2_iadd d_Voi_bodyFrom_20 ?_
  refine V2_lit (v := 4) (by decide) ?_
  refine V2_callS [.int (4 : Int32)] d_Voi_bodyFrom_21 rfl rfl lk_Voi_57 mo_Voi_bodyAt (Nat.le_of_ble_eq_true rfl) (Nat.le_of_ble_eq_true rfl) ?_
  refine V2.to (l' := [some (.int (4 : Int32))]) ?_ rfl rfl rfl rfl
  refine V2_iload_n (i := 0) d_Voi_bodyAt_0 rfl rfl ?_
  refine V2_if_lt (tgt := 20) d_Voi_bodyAt_1 rfl (fun c => (by first | exact absurd c (by decide) | exact absurd (by decide) c)) (fun _ => ?_)
  refine V2_iload_n (i := 0) d_Voi_bodyAt_4 rfl rfl ?_
  refine V2_getsB d_Voi_bodyAt_5 gs_Voi_53 ?_
  refine V2_bodieslen d_Voi_bodyAt_8 ?_
  refine V2_icmp_ge (tgt := 20) d_Voi_bodyAt_9 rfl (fun c => (by first | exact absurd c (by decide) | exact absurd (by decide) c)) (fun _ => ?_)
  refine V2_getsB d_Voi_bodyAt_12 gs_Voi_53 ?_
  refine V2_iload_n (i := 0) d_Voi_bodyAt_15 rfl rfl ?_
  refine V2_bodies (v := 20) d_Voi_bodyAt_16 (xixA (n := 4) rfl (by decide) (by decide)) (by decide) ?_
  refine V2_goto (tgt := 21) d_Voi_bodyAt_17 rfl ?_
  refine V2_ireturn d_Voi_bodyAt_21 rfl ?_
  refine V2.to (st' := [.int (20 : Int32)]) ?_ rfl rfl rfl rfl
  refine V2_istore (i := 4) (l' := [some (.int (1 : Int32)), some (.int (0 : Int32)), some (.int (1 : Int32)), some (.int (0 : Int32)), some (.int (20 : Int32))]) d_Voi_bodyFrom_24 (xst_i (Nat.le_of_ble_eq_true rfl) rfl rfl) ?_
  refine V2_iload (i := 4) d_Voi_bodyFrom_26 rfl ?_
  refine V2_if_eq (tgt := 34) d_Voi_bodyFrom_28 rfl (fun c => (by first | exact absurd c (by decide) | exact absurd (by decide) c)) (fun _ => ?_)
  refine V2_iload (i := 4) d_Voi_bodyFrom_31 rfl ?_
  refine V2_ireturn d_Voi_bodyFrom_33 rfl ?_
  refine V2.to (st' := [.int (20 : Int32)]) ?_ rfl rfl rfl rfl
  refine V2_istore (i := 5) (l' := [some (.ref 52), some (.int (1 : Int32)), some (.int (0 : Int32)), some (.int x), some (.int (0 : Int32)), some (.int (20 : Int32))]) d_Voi_says_5 (xst_i (Nat.le_of_ble_eq_true rfl) rfl rfl) ?_
  refine V2_aload_n (i := 0) d_Voi_says_7 rfl rfl ?_
  refine V2_get (v := (0 : Int32)) d_Voi_says_8 fl_Voi_31 (by decide) rfl (by decide) rfl rfl ?_
  refine V2_if_ne (tgt := 26) d_Voi_says_11 rfl (fun c => (by first | exact absurd c (by decide) | exact absurd (by decide) c)) (fun _ => ?_)
  refine V2_iload (i := 5) d_Voi_says_14 rfl ?_
  refine V2_if_eq (tgt := 26) d_Voi_says_16 rfl (fun c => (by first | exact absurd c (by decide) | exact absurd (by decide) c)) (fun _ => ?_)
  refine V2_iload (i := 4) d_Voi_says_19 rfl ?_
  refine V2_bipush (v := 30) d_Voi_says_21 rfl ?_
  refine V2_icmp_lt (tgt := 28) d_Voi_says_23 rfl (fun _ => ?_) (fun c => (by first | exact absurd c (by decide) | exact absurd (by decide) c))
  refine V2_aload_n (i := 0) d_Voi_says_28 rfl rfl ?_
  refine V2_getr (a := 53) d_Voi_says_29 fl_Voi_14 (by decide) rfl (by decide) rfl ?_
  refine V2_iload (i := 5) d_Voi_says_32 rfl ?_
  refine V2_callV [.int (20 : Int32)] d_Voi_says_34 rfl rfl lk_Voi_46 mo_Nums_add (by decide) rfl rfl rfl (Nat.le_of_ble_eq_true rfl) (Nat.le_of_ble_eq_true rfl) ?_
  refine V2.to (l' := [some (.ref 53), some (.int (20 : Int32))]) ?_ rfl rfl rfl rfl
  refine V2_aload_n (i := 0) d_Nums_add_0 rfl rfl ?_
  refine V2_get (v := (0 : Int32)) d_Nums_add_1 fl_Nums_7 (by decide) rfl (by decide) rfl rfl ?_
  refine V2_if_lt (tgt := 39) d_Nums_add_4 rfl (fun c => (by first | exact absurd c (by decide) | exact absurd (by decide) c)) (fun _ => ?_)
  refine V2_aload_n (i := 0) d_Nums_add_7 rfl rfl ?_
  refine V2_get (v := (0 : Int32)) d_Nums_add_8 fl_Nums_7 (by decide) rfl (by decide) rfl rfl ?_
  refine V2_aload_n (i := 0) d_Nums_add_11 rfl rfl ?_
  refine V2_getr (a := 54) d_Nums_add_12 fl_Nums_19 (by decide) rfl (by decide) rfl ?_
  refine V2_alen (t := 0) (v := 30) d_Nums_add_15 (by decide) rfl (by decide) rfl ?_
  refine V2_icmp_ge (tgt := 39) d_Nums_add_16 rfl (fun c => (by first | exact absurd c (by decide) | exact absurd (by decide) c)) (fun _ => ?_)
  refine V2_aload_n (i := 0) d_Nums_add_19 rfl rfl ?_
  refine V2_getr (a := 54) d_Nums_add_20 fl_Nums_19 (by decide) rfl (by decide) rfl ?_
  refine V2_aload_n (i := 0) d_Nums_add_23 rfl rfl ?_
  refine V2_get (v := (0 : Int32)) d_Nums_add_24 fl_Nums_7 (by decide) rfl (by decide) rfl rfl ?_
  refine V2_iload_n (i := 1) d_Nums_add_27 rfl rfl ?_
  refine V2_iastore (j := 0) d_Nums_add_28 (by decide) rfl (xixA (n := 0) rfl (by decide) (by decide)) rfl ?_
  refine V2_aload_n (i := 0) d_Nums_add_29 rfl rfl ?_
  refine V2_dup d_Nums_add_30 rfl ?_
  refine V2_get (v := (0 : Int32)) d_Nums_add_31 fl_Nums_7 (by decide) rfl (by decide) rfl rfl ?_
  refine V2_iconst (v := 1) d_Nums_add_34 rfl ?_
  refine V2_iadd d_Nums_add_35 ?_
  refine V2_lit (v := 1) (by decide) ?_
  refine V2_put d_Nums_add_36 fl_Nums_7 (by decide) rfl (by decide) rfl ?_
  refine V2_return d_Nums_add_39 rfl ?_
  refine V2.to (st' := []) ?_ rfl rfl rfl rfl
  refine V2_aload_n (i := 0) d_Voi_says_37 rfl rfl ?_
  refine V2_iload (i := 5) d_Voi_says_38 rfl ?_
  refine V2_iload_n (i := 3) d_Voi_says_40 rfl rfl ?_
  refine V2_iload (i := 4) d_Voi_says_41 rfl ?_
  refine V2_iconst (v := 1) d_Voi_says_43 rfl ?_
  refine V2_iadd d_Voi_says_44 ?_
  refine V2_lit (v := 1) (by decide) ?_
  refine V2_callV [.int (20 : Int32), .int x, .int (1 : Int32)] d_Voi_says_45 rfl rfl lk_Voi_49 mo_Voi_worksOut (by decide) rfl rfl rfl (Nat.le_of_ble_eq_true rfl) (Nat.le_of_ble_eq_true rfl) ?_
  refine V2.to (l' := [some (.ref 52), some (.int (20 : Int32)), some (.int x), some (.int (1 : Int32))]) ?_ rfl rfl rfl rfl
  refine V2_iload_n (i := 1) d_Voi_worksOut_0 rfl rfl ?_
  refine V2_lookup (tgt := 169) (off := 168) d_Voi_worksOut_1 (by decide) (by decide +kernel) rfl ?_
  refine V2_aload_n (i := 0) d_Voi_worksOut_169 rfl rfl ?_
  refine V2_iconst (v := 0) d_Voi_worksOut_170 rfl ?_
  refine V2_iconst (v := 0) d_Voi_worksOut_171 rfl ?_
  refine V2_iload_n (i := 2) d_Voi_worksOut_172 rfl rfl ?_
  refine V2_iload_n (i := 3) d_Voi_worksOut_173 rfl rfl ?_
  refine V2_callV [.int (0 : Int32), .int (0 : Int32), .int x, .int (1 : Int32)] d_Voi_worksOut_174 rfl rfl lk_Voi_38 mo_Voi_says (by decide) rfl rfl rfl (Nat.le_of_ble_eq_true rfl) (Nat.le_of_ble_eq_true rfl) ?_
  refine V2.to (l' := [some (.ref 52), some (.int (0 : Int32)), some (.int (0 : Int32)), some (.int x), some (.int (1 : Int32)), none]) ?_ rfl rfl rfl rfl
  refine V2_iload_n (i := 1) d_Voi_says_0 rfl rfl ?_
  refine V2_iload_n (i := 2) d_Voi_says_1 rfl rfl ?_
  refine V2_callS [.int (0 : Int32), .int (0 : Int32)] d_Voi_says_2 rfl rfl lk_Voi_42 mo_Voi_bodyFrom (Nat.le_of_ble_eq_true rfl) (Nat.le_of_ble_eq_true rfl) ?_
  refine V2.to (l' := [some (.int (0 : Int32)), some (.int (0 : Int32)), none, none, none]) ?_ rfl rfl rfl rfl
  refine V2_iload_n (i := 0) d_Voi_bodyFrom_0 rfl rfl ?_
  refine V2_istore_n (i := 2) (l' := [some (.int (0 : Int32)), some (.int (0 : Int32)), some (.int (0 : Int32)), none, none]) d_Voi_bodyFrom_1 rfl (xst_i (Nat.le_of_ble_eq_true rfl) rfl rfl) ?_
  refine V2_iconst (v := 0) d_Voi_bodyFrom_2 rfl ?_
  refine V2_istore_n (i := 3) (l' := [some (.int (0 : Int32)), some (.int (0 : Int32)), some (.int (0 : Int32)), some (.int (0 : Int32)), none]) d_Voi_bodyFrom_3 rfl (xst_i (Nat.le_of_ble_eq_true rfl) rfl rfl) ?_
  refine V2_iload_n (i := 3) d_Voi_bodyFrom_4 rfl rfl ?_
  refine V2_getsB d_Voi_bodyFrom_5 gs_Voi_53 ?_
  refine V2_bodieslen d_Voi_bodyFrom_8 ?_
  refine V2_icmp_ge (tgt := 45) d_Voi_bodyFrom_9 rfl (fun c => (by first | exact absurd c (by decide) | exact absurd (by decide) c)) (fun _ => ?_)
  refine V2_iload_n (i := 2) d_Voi_bodyFrom_12 rfl rfl ?_
  refine V2_if_lt (tgt := 45) d_Voi_bodyFrom_13 rfl (fun c => (by first | exact absurd c (by decide) | exact absurd (by decide) c)) (fun _ => ?_)
  refine V2_iload_n (i := 2) d_Voi_bodyFrom_16 rfl rfl ?_
  refine V2_iconst (v := 4) d_Voi_bodyFrom_17 rfl ?_
  refine V2_imul d_Voi_bodyFrom_18 ?_
  refine V2_lit (v := 0) (by decide) ?_
  refine V2_iload_n (i := 1) d_Voi_bodyFrom_19 rfl rfl ?_
  refine V2_iadd d_Voi_bodyFrom_20 ?_
  refine V2_lit (v := 0) (by decide) ?_
  refine V2_callS [.int (0 : Int32)] d_Voi_bodyFrom_21 rfl rfl lk_Voi_57 mo_Voi_bodyAt (Nat.le_of_ble_eq_true rfl) (Nat.le_of_ble_eq_true rfl) ?_
  refine V2.to (l' := [some (.int (0 : Int32))]) ?_ rfl rfl rfl rfl
  refine V2_iload_n (i := 0) d_Voi_bodyAt_0 rfl rfl ?_
  refine V2_if_lt (tgt := 20) d_Voi_bodyAt_1 rfl (fun c => (by first | exact absurd c (by decide) | exact absurd (by decide) c)) (fun _ => ?_)
  refine V2_iload_n (i := 0) d_Voi_bodyAt_4 rfl rfl ?_
  refine V2_getsB d_Voi_bodyAt_5 gs_Voi_53 ?_
  refine V2_bodieslen d_Voi_bodyAt_8 ?_
  refine V2_icmp_ge (tgt := 20) d_Voi_bodyAt_9 rfl (fun c => (by first | exact absurd c (by decide) | exact absurd (by decide) c)) (fun _ => ?_)
  refine V2_getsB d_Voi_bodyAt_12 gs_Voi_53 ?_
  refine V2_iload_n (i := 0) d_Voi_bodyAt_15 rfl rfl ?_
  refine V2_bodies (v := 10) d_Voi_bodyAt_16 (xixA (n := 0) rfl (by decide) (by decide)) (by decide) ?_
  refine V2_goto (tgt := 21) d_Voi_bodyAt_17 rfl ?_
  refine V2_ireturn d_Voi_bodyAt_21 rfl ?_
  refine V2.to (st' := [.int (10 : Int32)]) ?_ rfl rfl rfl rfl
  refine V2_istore (i := 4) (l' := [some (.int (0 : Int32)), some (.int (0 : Int32)), some (.int (0 : Int32)), some (.int (0 : Int32)), some (.int (10 : Int32))]) d_Voi_bodyFrom_24 (xst_i (Nat.le_of_ble_eq_true rfl) rfl rfl) ?_
  refine V2_iload (i := 4) d_Voi_bodyFrom_26 rfl ?_
  refine V2_if_eq (tgt := 34) d_Voi_bodyFrom_28 rfl (fun c => (by first | exact absurd c (by decide) | exact absurd (by decide) c)) (fun _ => ?_)
  refine V2_iload (i := 4) d_Voi_bodyFrom_31 rfl ?_
  refine V2_ireturn d_Voi_bodyFrom_33 rfl ?_
  refine V2.to (st' := [.int (10 : Int32)]) ?_ rfl rfl rfl rfl
  refine V2_istore (i := 5) (l' := [some (.ref 52), some (.int (0 : Int32)), some (.int (0 : Int32)), some (.int x), some (.int (1 : Int32)), some (.int (10 : Int32))]) d_Voi_says_5 (xst_i (Nat.le_of_ble_eq_true rfl) rfl rfl) ?_
  refine V2_aload_n (i := 0) d_Voi_says_7 rfl rfl ?_
  refine V2_get (v := (0 : Int32)) d_Voi_says_8 fl_Voi_31 (by decide) rfl (by decide) rfl rfl ?_
  refine V2_if_ne (tgt := 26) d_Voi_says_11 rfl (fun c => (by first | exact absurd c (by decide) | exact absurd (by decide) c)) (fun _ => ?_)
  refine V2_iload (i := 5) d_Voi_says_14 rfl ?_
  refine V2_if_eq (tgt := 26) d_Voi_says_16 rfl (fun c => (by first | exact absurd c (by decide) | exact absurd (by decide) c)) (fun _ => ?_)
  refine V2_iload (i := 4) d_Voi_says_19 rfl ?_
  refine V2_bipush (v := 30) d_Voi_says_21 rfl ?_
  refine V2_icmp_lt (tgt := 28) d_Voi_says_23 rfl (fun _ => ?_) (fun c => (by first | exact absurd c (by decide) | exact absurd (by decide) c))
  refine V2_aload_n (i := 0) d_Voi_says_28 rfl rfl ?_
  refine V2_getr (a := 53) d_Voi_says_29 fl_Voi_14 (by decide) rfl (by decide) rfl ?_
  refine V2_iload (i := 5) d_Voi_says_32 rfl ?_
  refine V2_callV [.int (10 : Int32)] d_Voi_says_34 rfl rfl lk_Voi_46 mo_Nums_add (by decide) rfl rfl rfl (Nat.le_of_ble_eq_true rfl) (Nat.le_of_ble_eq_true rfl) ?_
  refine V2.to (l' := [some (.ref 53), some (.int (10 : Int32))]) ?_ rfl rfl rfl rfl
  refine V2_aload_n (i := 0) d_Nums_add_0 rfl rfl ?_
  refine V2_get (v := (1 : Int32)) d_Nums_add_1 fl_Nums_7 (by decide) rfl (by decide) rfl rfl ?_
  refine V2_if_lt (tgt := 39) d_Nums_add_4 rfl (fun c => (by first | exact absurd c (by decide) | exact absurd (by decide) c)) (fun _ => ?_)
  refine V2_aload_n (i := 0) d_Nums_add_7 rfl rfl ?_
  refine V2_get (v := (1 : Int32)) d_Nums_add_8 fl_Nums_7 (by decide) rfl (by decide) rfl rfl ?_
  refine V2_aload_n (i := 0) d_Nums_add_11 rfl rfl ?_
  refine V2_getr (a := 54) d_Nums_add_12 fl_Nums_19 (by decide) rfl (by decide) rfl ?_
  refine V2_alen (t := 0) (v := 30) d_Nums_add_15 (by decide) rfl (by decide) rfl ?_
  refine V2_icmp_ge (tgt := 39) d_Nums_add_16 rfl (fun c => (by first | exact absurd c (by decide) | exact absurd (by decide) c)) (fun _ => ?_)
  refine V2_aload_n (i := 0) d_Nums_add_19 rfl rfl ?_
  refine V2_getr (a := 54) d_Nums_add_20 fl_Nums_19 (by decide) rfl (by decide) rfl ?_
  refine V2_aload_n (i := 0) d_Nums_add_23 rfl rfl ?_
  refine V2_get (v := (1 : Int32)) d_Nums_add_24 fl_Nums_7 (by decide) rfl (by decide) rfl rfl ?_
  refine V2_iload_n (i := 1) d_Nums_add_27 rfl rfl ?_
  refine V2_iastore (j := 1) d_Nums_add_28 (by decide) rfl (xixA (n := 1) rfl (by decide) (by decide)) rfl ?_
  refine V2_aload_n (i := 0) d_Nums_add_29 rfl rfl ?_
  refine V2_dup d_Nums_add_30 rfl ?_
  refine V2_get (v := (1 : Int32)) d_Nums_add_31 fl_Nums_7 (by decide) rfl (by decide) rfl rfl ?_
  refine V2_iconst (v := 1) d_Nums_add_34 rfl ?_
  refine V2_iadd d_Nums_add_35 ?_
  refine V2_lit (v := 2) (by decide) ?_
  refine V2_put d_Nums_add_36 fl_Nums_7 (by decide) rfl (by decide) rfl ?_
  refine V2_return d_Nums_add_39 rfl ?_
  refine V2.to (st' := []) ?_ rfl rfl rfl rfl
  refine V2_aload_n (i := 0) d_Voi_says_37 rfl rfl ?_
  refine V2_iload (i := 5) d_Voi_says_38 rfl ?_
  refine V2_iload_n (i := 3) d_Voi_says_40 rfl rfl ?_
  refine V2_iload (i := 4) d_Voi_says_41 rfl ?_
  refine V2_iconst (v := 1) d_Voi_says_43 rfl ?_
  refine V2_iadd d_Voi_says_44 ?_
  refine V2_lit (v := 2) (by decide) ?_
  refine V2_callV [.int (10 : Int32), .int x, .int (2 : Int32)] d_Voi_says_45 rfl rfl lk_Voi_49 mo_Voi_worksOut (by decide) rfl rfl rfl (Nat.le_of_ble_eq_true rfl) (Nat.le_of_ble_eq_true rfl) ?_
  refine V2.to (l' := [some (.ref 52), some (.int (10 : Int32)), some (.int x), some (.int (2 : Int32))]) ?_ rfl rfl rfl rfl
  refine V2_iload_n (i := 1) d_Voi_worksOut_0 rfl rfl ?_
  refine V2_lookup (tgt := 116) (off := 115) d_Voi_worksOut_1 (by decide) (by decide +kernel) rfl ?_
  refine V2_iload_n (i := 2) d_Voi_worksOut_116 rfl rfl ?_
  refine V2_aload_n (i := 0) d_Voi_worksOut_117 rfl rfl ?_
  refine V2_get (v := nI p) d_Voi_worksOut_118 fl_Voi_22 (by decide) rfl (by decide) rfl rfl ?_
  refine V2_topi (fun v3 ev3 => ?_)
  refine V2_iadd d_Voi_worksOut_121 ?_
  refine V2_topi (fun v4 ev4 => ?_)
  refine V2_ireturn d_Voi_worksOut_122 rfl ?_
  refine V2.to (st' := [.int v4]) ?_ rfl rfl rfl rfl
  refine V2_ireturn d_Voi_says_48 rfl ?_
  refine V2.to (st' := [.int v4]) ?_ rfl rfl rfl rfl
  refine V2_iconst (v := 4) d_Voi_worksOut_177 rfl ?_
  refine V2_isub d_Voi_worksOut_178 ?_
  refine V2_topi (fun v5 ev5 => ?_)
  refine V2_ireturn d_Voi_worksOut_179 rfl ?_
  refine V2.to (st' := [.int v5]) ?_ rfl rfl rfl rfl
  refine V2_ireturn d_Voi_says_48 rfl ?_
  refine V2.to (st' := [.int v5, .ref 52]) ?_ rfl rfl rfl rfl
  refine V2_put d_Voi_speaks_41 fl_Voi_28 (by decide) rfl (by decide) rfl ?_
  refine V2_aload_n (i := 0) d_Voi_speaks_44 rfl rfl ?_
  refine V2_get (v := (0 : Int32)) d_Voi_speaks_45 fl_Voi_31 (by decide) rfl (by decide) rfl rfl ?_
  refine V2_if_ne (tgt := 55) d_Voi_speaks_48 rfl (fun c => (by first | exact absurd c (by decide) | exact absurd (by decide) c)) (fun _ => ?_)
  refine V2_iconst (v := 1) d_Voi_speaks_51 rfl ?_
  refine V2_goto (tgt := 56) d_Voi_speaks_52 rfl ?_
  refine V2_zreturn d_Voi_speaks_56 rfl (by decide) ?_
  refine V2.to (st' := [.int (1 : Int32)]) ?_ rfl rfl rfl rfl
  refine V2_if_ne (tgt := 73) d_P_voice_63 rfl (fun _ => ?_) (fun c => (by first | exact absurd c (by decide) | exact absurd (by decide) c))
  refine V2_aload_n (i := 0) d_P_voice_73 rfl rfl ?_
  refine V2_getr (a := 52) d_P_voice_74 fl_P_43 (by decide) rfl (by decide) rfl ?_
  refine V2_callV [] d_P_voice_77 rfl rfl lk_P_297 mo_Voi_answer (by decide) rfl rfl rfl (Nat.le_of_ble_eq_true rfl) (Nat.le_of_ble_eq_true rfl) ?_
  refine V2.to (l' := [some (.ref 52)]) ?_ rfl rfl rfl rfl
  refine V2_aload_n (i := 0) d_Voi_answer_0 rfl rfl ?_
  refine V2_get (v := v5) d_Voi_answer_1 fl_Voi_28 (by decide) rfl (by decide) rfl rfl ?_
  refine V2_ireturn d_Voi_answer_4 rfl ?_
  refine V2.to (st' := [.int v5]) ?_ rfl rfl rfl rfl
  refine V2_ireturn d_P_voice_80 rfl ?_
  subst ev5 ev4 ev3 ev1
  exact xQi (hQ _ (mid_trace (n := 2) (b := (fun i => ([20, 10] : List Int32).getD i 0)) hR (by decide) (fun a h1 h2 h3 => by   repeat (first | rw [xp_row_ne h1] | rw [xp_row_ne h2] | rw [xp_row_ne h3]) ; try rfl) rfl (fun i hi => by rcases (show i = 0 ∨ i = 1 by omega) with h9 | h9 <;> subst h9 <;> rfl))) (by first | rfl | decide) rfl
theorem c_mv_1_0 {L : Nat} {xs : Nat → Int32} {d : Nat} {Q : Option Value → xF → Prop} {F : xF} {p : Nat} {x mm : Int32} {F0 : xF} (hR : Rel F0) (hp : p < PN (F0 66)) (ek : F0 66 (12 + 2 * p) = 1) (em : F0 66 (12 + 2 * p + 1) = mm) (hM : Mid F0 F (traceG F0 2 (fun i => ([20, 10] : List Int32).getD i 0))) (hQ : ∀ F2, Rel F2 → Q (some (.int ((x + nI p) - 4))) F2) : V2 L xs (d + 40) m_R_voice 0 (xEntry [.ref 65, .int (nI p), .int (0 : Int32), .int x] 6) [] F Q := by
  have e66 : F 66 = F0 66 := hM.1 66 (by decide)
  obtain ⟨eP, hP6⟩ := inv_PN hR.2.1.2.2.1
  have s1 : (F 66 11 - 1).toInt = (PN (F0 66) : Int) - 1 := sub_any (n := PN (F0 66)) ((congrFun e66 11).trans eP) (by omega) (by decide)
  refine V2.to (l' := [some (.ref 65), some (.int (nI p)), some (.int (0 : Int32)), some (.int x), none, none]) ?_ rfl rfl rfl rfl
  refine V2_aload_n (i := 0) d_R_voice_0 rfl rfl ?_
  refine V2_iload_n (i := 1) d_R_voice_1 rfl rfl ?_
  refine V2_callV [.int (nI p)] d_R_voice_2 rfl rfl lk_R_168 mo_R_isPusher (by decide) rfl rfl rfl (Nat.le_of_ble_eq_true rfl) (Nat.le_of_ble_eq_true rfl) ?_
  refine c_R_isPusher ?_
  refine V2_topi (fun v1 ev1 => ?_)
  refine V2_if_eq (tgt := 17) d_R_voice_5 rfl (fun c2 => (by first | exact absurd c2 (show ¬ v1 = 0 from by subst ev1; exact xb_ne.mpr (by rw [toI_le, toI_le, s1, nI_toInt (by omega)]; have q0 : (0 : Int32).toInt = 0 := (by decide); omega)) | exact absurd (show ¬ v1 = 0 from by subst ev1; exact xb_ne.mpr (by rw [toI_le, toI_le, s1, nI_toInt (by omega)]; have q0 : (0 : Int32).toInt = 0 := (by decide); omega)) c2)) (fun c2 => ?_)
  refine V2_iload_n (i := 2) d_R_voice_8 rfl rfl ?_
  refine V2_iconst (v := 0) d_R_voice_9 rfl ?_
  refine V2_iconst (v := 3) d_R_voice_10 rfl ?_
  refine V2_callS [.int (0 : Int32), .int (0 : Int32), .int (3 : Int32)] d_R_voice_11 rfl rfl lk_R_51 mo_R_in (Nat.le_of_ble_eq_true rfl) (Nat.le_of_ble_eq_true rfl) ?_
  refine V2.to (l' := [some (.int (0 : Int32)), some (.int (0 : Int32)), some (.int (3 : Int32))]) ?_ rfl rfl rfl rfl
  refine V2_iload_n (i := 0) d_R_in_0 rfl rfl ?_
  refine V2_iload_n (i := 1) d_R_in_1 rfl rfl ?_
  refine V2_icmp_lt (tgt := 14) d_R_in_2 rfl (fun c => (by first | exact absurd c (by decide) | exact absurd (by decide) c)) (fun _ => ?_)
  refine V2_iload_n (i := 0) d_R_in_5 rfl rfl ?_
  refine V2_iload_n (i := 2) d_R_in_6 rfl rfl ?_
  refine V2_icmp_gt (tgt := 14) d_R_in_7 rfl (fun c => (by first | exact absurd c (by decide) | exact absurd (by decide) c)) (fun _ => ?_)
  refine V2_iconst (v := 1) d_R_in_10 rfl ?_
  refine V2_goto (tgt := 15) d_R_in_11 rfl ?_
  refine V2_zreturn d_R_in_15 rfl (by decide) ?_
  refine V2.to (st' := [.int (1 : Int32)]) ?_ rfl rfl rfl rfl
  refine V2_if_ne (tgt := 23) d_R_voice_14 rfl (fun _ => ?_) (fun c => (by first | exact absurd c (by decide) | exact absurd (by decide) c))
  refine V2_aload_n (i := 0) d_R_voice_23 rfl rfl ?_
  refine V2_iconst (v := 0) d_R_voice_24 rfl ?_
  refine V2_put d_R_voice_25 fl_R_227 (by decide) rfl (by decide) rfl ?_
  refine V2_aload_n (i := 0) d_R_voice_28 rfl rfl ?_
  refine V2_iload_n (i := 1) d_R_voice_29 rfl rfl ?_
  refine V2_put d_R_voice_30 fl_R_230 (by decide) rfl (by decide) rfl ?_
  refine V2_aload_n (i := 0) d_R_voice_33 rfl rfl ?_
  refine V2_iconst (v := 0) d_R_voice_34 rfl ?_
  refine V2_putz d_R_voice_35 fl_R_251 (by decide) rfl (by decide) rfl (by decide) ?_
  refine V2_aload_n (i := 0) d_R_voice_38 rfl rfl ?_
  refine V2_callV [] d_R_voice_39 rfl rfl lk_R_239 mo_R_kindNow (by decide) rfl rfl rfl (Nat.le_of_ble_eq_true rfl) (Nat.le_of_ble_eq_true rfl) ?_
  refine c_R_kindNow (p := p) (by omega) rfl ?_
  refine V2_lit (v := 1) (show F 66 (12 + 2 * p) = 1 from (congrFun e66 _).trans ek) ?_
  refine V2_istore (i := 4) (l' := [some (.ref 65), some (.int (nI p)), some (.int (0 : Int32)), some (.int x), some (.int (1 : Int32)), none]) d_R_voice_42 (xst_i (Nat.le_of_ble_eq_true rfl) rfl rfl) ?_
  refine V2_iload_n (i := 2) d_R_voice_44 rfl rfl ?_
  refine V2_if_ne (tgt := 58) d_R_voice_45 rfl (fun c => (by first | exact absurd c (by decide) | exact absurd (by decide) c)) (fun _ => ?_)
  refine V2_aload_n (i := 0) d_R_voice_48 rfl rfl ?_
  refine V2_iload (i := 4) d_R_voice_49 rfl ?_
  refine V2_iload_n (i := 3) d_R_voice_51 rfl rfl ?_
  refine V2_callV [.int (1 : Int32), .int x] d_R_voice_52 rfl rfl lk_R_236 mo_R_heavesAs (by decide) rfl rfl rfl (Nat.le_of_ble_eq_true rfl) (Nat.le_of_ble_eq_true rfl) ?_
  refine V2.to (l' := [some (.ref 65), some (.int (1 : Int32)), some (.int x)]) ?_ rfl rfl rfl rfl
  refine V2_iload_n (i := 1) d_R_heavesAs_0 rfl rfl ?_
  refine V2_tableIn (tgt := 57) (off := 56) d_R_heavesAs_1 (by decide) (by decide) (by decide) rfl ?_
  refine V2_aload_n (i := 0) d_R_heavesAs_57 rfl rfl ?_
  refine V2_bipush (v := 20) d_R_heavesAs_58 rfl ?_
  refine V2_callV [.int (20 : Int32)] d_R_heavesAs_60 rfl rfl lk_R_233 mo_R_begins (by decide) rfl rfl rfl (Nat.le_of_ble_eq_true rfl) (Nat.le_of_ble_eq_true rfl) ?_
  refine V2.to (l' := [some (.ref 65), some (.int (20 : Int32))]) ?_ rfl rfl rfl rfl
  refine V2_aload_n (i := 0) d_R_begins_0 rfl rfl ?_
  refine V2_get (v := (0 : Int32)) d_R_begins_1 fl_R_227 (by decide) rfl (by decide) rfl rfl ?_
  refine V2_bipush (v := 30) d_R_begins_4 rfl ?_
  refine V2_icmp_ge (tgt := 29) d_R_begins_6 rfl (fun c => (by first | exact absurd c (by decide) | exact absurd (by decide) c)) (fun _ => ?_)
  refine V2_aload_n (i := 0) d_R_begins_9 rfl rfl ?_
  refine V2_getr (a := 73) d_R_begins_10 fl_R_35 (by decide) rfl (by decide) rfl ?_
  refine V2_aload_n (i := 0) d_R_begins_13 rfl rfl ?_
  refine V2_get (v := (0 : Int32)) d_R_begins_14 fl_R_227 (by decide) rfl (by decide) rfl rfl ?_
  refine V2_iload_n (i := 1) d_R_begins_17 rfl rfl ?_
  refine V2_iastore (j := 0) d_R_begins_18 (by decide) rfl (xixA (n := 0) rfl (by decide) (by decide)) rfl ?_
  refine V2_aload_n (i := 0) d_R_begins_19 rfl rfl ?_
  refine V2_dup d_R_begins_20 rfl ?_
  refine V2_get (v := (0 : Int32)) d_R_begins_21 fl_R_227 (by decide) rfl (by decide) rfl rfl ?_
  refine V2_iconst (v := 1) d_R_begins_24 rfl ?_
  refine V2_iadd d_R_begins_25 ?_
  refine V2_lit (v := 1) (by decide) ?_
  refine V2_put d_R_begins_26 fl_R_227 (by decide) rfl (by decide) rfl ?_
  refine V2_return d_R_begins_29 rfl ?_
  refine V2.to (st' := []) ?_ rfl rfl rfl rfl
  refine V2_aload_n (i := 0) d_R_heavesAs_63 rfl rfl ?_
  refine V2_iconst (v := 1) d_R_heavesAs_64 rfl ?_
  refine V2_callS [.int (1 : Int32)] d_R_heavesAs_65 rfl rfl lk_R_174 mo_R_above (Nat.le_of_ble_eq_true rfl) (Nat.le_of_ble_eq_true rfl) ?_
  refine V2.to (l' := [some (.int (1 : Int32))]) ?_ rfl rfl rfl rfl
  refine V2_iload_n (i := 0) d_R_above_0 rfl rfl ?_
  refine V2_iconst (v := 4) d_R_above_1 rfl ?_
  refine V2_icmp_ne (tgt := 9) d_R_above_2 rfl (fun _ => ?_) (fun c => (by first | exact absurd c (by decide) | exact absurd (by decide) c))
  refine V2_iload_n (i := 0) d_R_above_9 rfl rfl ?_
  refine V2_iconst (v := 5) d_R_above_10 rfl ?_
  refine V2_icmp_ne (tgt := 18) d_R_above_11 rfl (fun _ => ?_) (fun c => (by first | exact absurd c (by decide) | exact absurd (by decide) c))
  refine V2_iconst (v := 0) d_R_above_18 rfl ?_
  refine V2_ireturn d_R_above_19 rfl ?_
  refine V2.to (st' := [.int (0 : Int32), .ref 65]) ?_ rfl rfl rfl rfl
  refine V2_iload_n (i := 2) d_R_heavesAs_68 rfl rfl ?_
  refine V2_callV [.int (0 : Int32), .int x] d_R_heavesAs_69 rfl rfl lk_R_236 mo_R_heavesAs (by decide) rfl rfl rfl (Nat.le_of_ble_eq_true rfl) (Nat.le_of_ble_eq_true rfl) ?_
  refine V2.to (l' := [some (.ref 65), some (.int (0 : Int32)), some (.int x)]) ?_ rfl rfl rfl rfl
  refine V2_iload_n (i := 1) d_R_heavesAs_0 rfl rfl ?_
  refine V2_tableIn (tgt := 44) (off := 43) d_R_heavesAs_1 (by decide) (by decide) (by decide) rfl ?_
  refine V2_aload_n (i := 0) d_R_heavesAs_44 rfl rfl ?_
  refine V2_bipush (v := 10) d_R_heavesAs_45 rfl ?_
  refine V2_callV [.int (10 : Int32)] d_R_heavesAs_47 rfl rfl lk_R_233 mo_R_begins (by decide) rfl rfl rfl (Nat.le_of_ble_eq_true rfl) (Nat.le_of_ble_eq_true rfl) ?_
  refine V2.to (l' := [some (.ref 65), some (.int (10 : Int32))]) ?_ rfl rfl rfl rfl
  refine V2_aload_n (i := 0) d_R_begins_0 rfl rfl ?_
  refine V2_get (v := (1 : Int32)) d_R_begins_1 fl_R_227 (by decide) rfl (by decide) rfl rfl ?_
  refine V2_bipush (v := 30) d_R_begins_4 rfl ?_
  refine V2_icmp_ge (tgt := 29) d_R_begins_6 rfl (fun c => (by first | exact absurd c (by decide) | exact absurd (by decide) c)) (fun _ => ?_)
  refine V2_aload_n (i := 0) d_R_begins_9 rfl rfl ?_
  refine V2_getr (a := 73) d_R_begins_10 fl_R_35 (by decide) rfl (by decide) rfl ?_
  refine V2_aload_n (i := 0) d_R_begins_13 rfl rfl ?_
  refine V2_get (v := (1 : Int32)) d_R_begins_14 fl_R_227 (by decide) rfl (by decide) rfl rfl ?_
  refine V2_iload_n (i := 1) d_R_begins_17 rfl rfl ?_
  refine V2_iastore (j := 1) d_R_begins_18 (by decide) rfl (xixA (n := 1) rfl (by decide) (by decide)) rfl ?_
  refine V2_aload_n (i := 0) d_R_begins_19 rfl rfl ?_
  refine V2_dup d_R_begins_20 rfl ?_
  refine V2_get (v := (1 : Int32)) d_R_begins_21 fl_R_227 (by decide) rfl (by decide) rfl rfl ?_
  refine V2_iconst (v := 1) d_R_begins_24 rfl ?_
  refine V2_iadd d_R_begins_25 ?_
  refine V2_lit (v := 2) (by decide) ?_
  refine V2_put d_R_begins_26 fl_R_227 (by decide) rfl (by decide) rfl ?_
  refine V2_return d_R_begins_29 rfl ?_
  refine V2.to (st' := []) ?_ rfl rfl rfl rfl
  refine V2_iload_n (i := 2) d_R_heavesAs_50 rfl rfl ?_
  refine V2_aload_n (i := 0) d_R_heavesAs_51 rfl rfl ?_
  refine V2_get (v := nI p) d_R_heavesAs_52 fl_R_230 (by decide) rfl (by decide) rfl rfl ?_
  refine V2_topi (fun v3 ev3 => ?_)
  refine V2_iadd d_R_heavesAs_55 ?_
  refine V2_topi (fun v4 ev4 => ?_)
  refine V2_ireturn d_R_heavesAs_56 rfl ?_
  refine V2.to (st' := [.int v4]) ?_ rfl rfl rfl rfl
  refine V2_iconst (v := 4) d_R_heavesAs_72 rfl ?_
  refine V2_isub d_R_heavesAs_73 ?_
  refine V2_topi (fun v5 ev5 => ?_)
  refine V2_ireturn d_R_heavesAs_74 rfl ?_
  refine V2.to (st' := [.int v5]) ?_ rfl rfl rfl rfl
  refine V2_goto (tgt := 95) d_R_voice_55 rfl ?_
  refine V2_istore (i := 5) (l' := [some (.ref 65), some (.int (nI p)), some (.int (0 : Int32)), some (.int x), some (.int (1 : Int32)), some (.int v5)]) d_R_voice_95 (xst_i (Nat.le_of_ble_eq_true rfl) rfl rfl) ?_
  refine V2_aload_n (i := 0) d_R_voice_97 rfl rfl ?_
  refine V2_get (v := (0 : Int32)) d_R_voice_98 fl_R_251 (by decide) rfl (by decide) rfl rfl ?_
  refine V2_if_eq (tgt := 113) d_R_voice_101 rfl (fun _ => ?_) (fun c => (by first | exact absurd c (by decide) | exact absurd (by decide) c))
  refine V2_iload (i := 5) d_R_voice_113 rfl ?_
  refine V2_ireturn d_R_voice_115 rfl ?_
  subst ev5 ev4 ev3 ev1
  refine xQi (hQ _ (rel_trace (n := 2) (b := (fun i => ([20, 10] : List Int32).getD i 0)) hR (by decide) hM ?_ ?_ ?_ ?_ ?_)) ?_ rfl
  · intro a h1 h2
    repeat (first | rw [xp_row_ne h1] | rw [xp_row_ne h2])
    try rfl
  · rfl
  · rfl
  · rfl
  · exact (fun i hi => by rcases (show i = 0 ∨ i = 1 by omega) with h9 | h9 <;> subst h9 <;> rfl)
  · first | rfl | decide
theorem c_cv_1_1 {L : Nat} {xs : Nat → Int32} {d : Nat} {Q : Option Value → xF → Prop} {F : xF} {p : Nat} {x mm : Int32} (hR : Rel F) (hp : p < PN (F 66)) (ek : F 66 (12 + 2 * p) = 1) (em : F 66 (12 + 2 * p + 1) = mm) (hQ : ∀ F1, Mid F F1 (traceG F 3 (fun i => ([11, 20, 10] : List Int32).getD i 0)) → Q (some (.int (((x + nI p) - 4) * 2))) F1) : V2 L xs (d + 40) m_P_voice 0 (xEntry [.ref 0, .int (nI p), .int (1 : Int32), .int x] 5) [] F Q := by
  obtain ⟨eP, hP6⟩ := inv_PN hR.2.1.2.2.1
  refine V2.to (l' := [some (.ref 0), some (.int (nI p)), some (.int (1 : Int32)), some (.int x), none]) ?_ rfl rfl rfl rfl
  refine V2_aload_n (i := 0) d_P_voice_0 rfl rfl ?_
  refine V2_getr (a := 1) d_P_voice_1 fl_P_10 (by decide) rfl (by decide) rfl ?_
  refine V2_getr (a := 3) d_P_voice_4 fl_P_70 (by decide) rfl (by decide) rfl ?_
  refine V2_iload_n (i := 1) d_P_voice_7 rfl rfl ?_
  refine V2_callV [.int (nI p)] d_P_voice_8 rfl rfl lk_P_84 mo_Push_has (by decide) rfl rfl rfl (Nat.le_of_ble_eq_true rfl) (Nat.le_of_ble_eq_true rfl) ?_
  refine c_Push_has (P := PN (F 66)) (hR.1.1.2.1.1.trans eP) hP6 ?_
  refine V2_topi (fun v1 ev1 => ?_)
  refine V2_if_eq (tgt := 21) d_P_voice_11 rfl (fun c2 => (by first | exact absurd c2 (show ¬ v1 = 0 from by subst ev1; exact xb_ne.mpr ⟨nI_pos' (by omega), by rw [hR.1.1.2.1.1, eP]; exact nI_lt hp (by omega)⟩) | exact absurd (show ¬ v1 = 0 from by subst ev1; exact xb_ne.mpr ⟨nI_pos' (by omega), by rw [hR.1.1.2.1.1, eP]; exact nI_lt hp (by omega)⟩) c2)) (fun c2 => ?_)
  refine V2_iload_n (i := 2) d_P_voice_14 rfl rfl ?_
  refine V2_callS [.int (1 : Int32)] d_P_voice_15 rfl rfl lk_P_290 mo_Voi_isVoice (Nat.le_of_ble_eq_true rfl) (Nat.le_of_ble_eq_true rfl) ?_
  refine V2.to (l' := [some (.int (1 : Int32))]) ?_ rfl rfl rfl rfl
  refine V2_iload_n (i := 0) d_Voi_isVoice_0 rfl rfl ?_
  refine V2_if_lt (tgt := 13) d_Voi_isVoice_1 rfl (fun c => (by first | exact absurd c (by decide) | exact absurd (by decide) c)) (fun _ => ?_)
  refine V2_iload_n (i := 0) d_Voi_isVoice_4 rfl rfl ?_
  refine V2_iconst (v := 4) d_Voi_isVoice_5 rfl ?_
  refine V2_icmp_ge (tgt := 13) d_Voi_isVoice_6 rfl (fun c => (by first | exact absurd c (by decide) | exact absurd (by decide) c)) (fun _ => ?_)
  refine V2_iconst (v := 1) d_Voi_isVoice_9 rfl ?_
  refine V2_goto (tgt := 14) d_Voi_isVoice_10 rfl ?_
  refine V2_zreturn d_Voi_isVoice_14 rfl (by decide) ?_
  refine V2.to (st' := [.int (1 : Int32)]) ?_ rfl rfl rfl rfl
  refine V2_if_ne (tgt := 27) d_P_voice_18 rfl (fun _ => ?_) (fun c => (by first | exact absurd c (by decide) | exact absurd (by decide) c))
  refine V2_aload_n (i := 0) d_P_voice_27 rfl rfl ?_
  refine V2_getr (a := 1) d_P_voice_28 fl_P_10 (by decide) rfl (by decide) rfl ?_
  refine V2_getr (a := 3) d_P_voice_31 fl_P_70 (by decide) rfl (by decide) rfl ?_
  refine V2_iload_n (i := 1) d_P_voice_34 rfl rfl ?_
  refine V2_callV [.int (nI p)] d_P_voice_35 rfl rfl lk_P_87 mo_Push_kindOf (by decide) rfl rfl rfl (Nat.le_of_ble_eq_true rfl) (Nat.le_of_ble_eq_true rfl) ?_
  refine c_Push_kindOf (P := PN (F 66)) (hR.1.1.2.1.1.trans eP) (hR.1.1.2.1.2.1.trans eP) hP6 hp ?_
  refine V2_lit (v := 1) (((rel_relP hR).2.2.2 p hp).1.trans ek) ?_
  refine V2_istore (i := 4) (l' := [some (.ref 0), some (.int (nI p)), some (.int (1 : Int32)), some (.int x), some (.int (1 : Int32))]) d_P_voice_38 (xst_i (Nat.le_of_ble_eq_true rfl) rfl rfl) ?_
  refine V2_aload_n (i := 0) d_P_voice_40 rfl rfl ?_
  refine V2_getr (a := 52) d_P_voice_41 fl_P_43 (by decide) rfl (by decide) rfl ?_
  refine V2_iload (i := 4) d_P_voice_44 rfl ?_
  refine V2_iload_n (i := 1) d_P_voice_46 rfl rfl ?_
  refine V2_aload_n (i := 0) d_P_voice_47 rfl rfl ?_
  refine V2_getr (a := 1) d_P_voice_48 fl_P_10 (by decide) rfl (by decide) rfl ?_
  refine V2_getr (a := 3) d_P_voice_51 fl_P_70 (by decide) rfl (by decide) rfl ?_
  refine V2_iload_n (i := 1) d_P_voice_54 rfl rfl ?_
  refine V2_callV [.int (nI p)] d_P_voice_55 rfl rfl lk_P_90 mo_Push_levelOf (by decide) rfl rfl rfl (Nat.le_of_ble_eq_true rfl) (Nat.le_of_ble_eq_true rfl) ?_
  refine c_Push_levelOf (P := PN (F 66)) (hR.1.1.2.1.1.trans eP) (hR.1.1.2.1.2.1.trans eP) hP6 hp ?_
  refine V2_lit (v := mm) (((rel_relP hR).2.2.2 p hp).2.trans em) ?_
  refine V2_iload_n (i := 2) d_P_voice_58 rfl rfl ?_
  refine V2_iload_n (i := 3) d_P_voice_59 rfl rfl ?_
  refine V2_callV [.int (1 : Int32), .int (nI p), .int mm, .int (1 : Int32), .int x] d_P_voice_60 rfl rfl lk_P_293 mo_Voi_speaks (by decide) rfl rfl rfl (Nat.le_of_ble_eq_true rfl) (Nat.le_of_ble_eq_true rfl) ?_
  refine V2.to (l' := [some (.ref 52), some (.int (1 : Int32)), some (.int (nI p)), some (.int mm), some (.int (1 : Int32)), some (.int x)]) ?_ rfl rfl rfl rfl
  refine V2_aload_n (i := 0) d_Voi_speaks_0 rfl rfl ?_
  refine V2_iload_n (i := 1) d_Voi_speaks_1 rfl rfl ?_
  refine V2_put d_Voi_speaks_2 fl_Voi_18 (by decide) rfl (by decide) rfl ?_
  refine V2_aload_n (i := 0) d_Voi_speaks_5 rfl rfl ?_
  refine V2_iload_n (i := 2) d_Voi_speaks_6 rfl rfl ?_
  refine V2_put d_Voi_speaks_7 fl_Voi_22 (by decide) rfl (by decide) rfl ?_
  refine V2_aload_n (i := 0) d_Voi_speaks_10 rfl rfl ?_
  refine V2_iload_n (i := 3) d_Voi_speaks_11 rfl rfl ?_
  refine V2_put d_Voi_speaks_12 fl_Voi_25 (by decide) rfl (by decide) rfl ?_
  refine V2_aload_n (i := 0) d_Voi_speaks_15 rfl rfl ?_
  refine V2_iconst (v := 0) d_Voi_speaks_16 rfl ?_
  refine V2_putz d_Voi_speaks_17 fl_Voi_31 (by decide) rfl (by decide) rfl (by decide) ?_
  refine V2_aload_n (i := 0) d_Voi_speaks_20 rfl rfl ?_
  refine V2_getr (a := 53) d_Voi_speaks_21 fl_Voi_14 (by decide) rfl (by decide) rfl ?_
  refine V2_callV [] d_Voi_speaks_24 rfl rfl lk_Voi_35 mo_Nums_empty (by decide) rfl rfl rfl (Nat.le_of_ble_eq_true rfl) (Nat.le_of_ble_eq_true rfl) ?_
  refine V2.to (l' := [some (.ref 53)]) ?_ rfl rfl rfl rfl
  refine V2_aload_n (i := 0) d_Nums_empty_0 rfl rfl ?_
  refine V2_iconst (v := 0) d_Nums_empty_1 rfl ?_
  refine V2_put d_Nums_empty_2 fl_Nums_7 (by decide) rfl (by decide) rfl ?_
  refine V2_return d_Nums_empty_5 rfl ?_
  refine V2.to (st' := []) ?_ rfl rfl rfl rfl
  refine V2_aload_n (i := 0) d_Voi_speaks_27 rfl rfl ?_
  refine V2_aload_n (i := 0) d_Voi_speaks_28 rfl rfl ?_
  refine V2_aload_n (i := 0) d_Voi_speaks_29 rfl rfl ?_
  refine V2_get (v := (1 : Int32)) d_Voi_speaks_30 fl_Voi_18 (by decide) rfl (by decide) rfl rfl ?_
  refine V2_iload (i := 4) d_Voi_speaks_33 rfl ?_
  refine V2_iload (i := 5) d_Voi_speaks_35 rfl ?_
  refine V2_iconst (v := 0) d_Voi_speaks_37 rfl ?_
  refine V2_callV [.int (1 : Int32), .int (1 : Int32), .int x, .int (0 : Int32)] d_Voi_speaks_38 rfl rfl lk_Voi_38 mo_Voi_says (by decide) rfl rfl rfl (Nat.le_of_ble_eq_true rfl) (Nat.le_of_ble_eq_true rfl) ?_
  refine V2.to (l' := [some (.ref 52), some (.int (1 : Int32)), some (.int (1 : Int32)), some (.int x), some (.int (0 : Int32)), none]) ?_ rfl rfl rfl rfl
  refine V2_iload_n (i := 1) d_Voi_says_0 rfl rfl ?_
  refine V2_iload_n (i := 2) d_Voi_says_1 rfl rfl ?_
  refine V2_callS [.int (1 : Int32), .int (1 : Int32)] d_Voi_says_2 rfl rfl lk_Voi_42 mo_Voi_bodyFrom (Nat.le_of_ble_eq_true rfl) (Nat.le_of_ble_eq_true rfl) ?_
  refine V2.to (l' := [some (.int (1 : Int32)), some (.int (1 : Int32)), none, none, none]) ?_ rfl rfl rfl rfl
  refine V2_iload_n (i := 0) d_Voi_bodyFrom_0 rfl rfl ?_
  refine V2_istore_n (i := 2) (l' := [some (.int (1 : Int32)), some (.int (1 : Int32)), some (.int (1 : Int32)), none, none]) d_Voi_bodyFrom_1 rfl (xst_i (Nat.le_of_ble_eq_true rfl) rfl rfl) ?_
  refine V2_iconst (v := 0) d_Voi_bodyFrom_2 rfl ?_
  refine V2_istore_n (i := 3) (l' := [some (.int (1 : Int32)), some (.int (1 : Int32)), some (.int (1 : Int32)), some (.int (0 : Int32)), none]) d_Voi_bodyFrom_3 rfl (xst_i (Nat.le_of_ble_eq_true rfl) rfl rfl) ?_
  refine V2_iload_n (i := 3) d_Voi_bodyFrom_4 rfl rfl ?_
  refine V2_getsB d_Voi_bodyFrom_5 gs_Voi_53 ?_
  refine V2_bodieslen d_Voi_bodyFrom_8 ?_
  refine V2_icmp_ge (tgt := 45) d_Voi_bodyFrom_9 rfl (fun c => (by first | exact absurd c (by decide) | exact absurd (by decide) c)) (fun _ => ?_)
  refine V2_iload_n (i := 2) d_Voi_bodyFrom_12 rfl rfl ?_
  refine V2_if_lt (tgt := 45) d_Voi_bodyFrom_13 rfl (fun c => (by first | exact absurd c (by decide) | exact absurd (by decide) c)) (fun _ => ?_)
  refine V2_iload_n (i := 2) d_Voi_bodyFrom_16 rfl rfl ?_
  refine V2_iconst (v := 4) d_Voi_bodyFrom_17 rfl ?_
  refine V2_imul d_Voi_bodyFrom_18 ?_
  refine V2_lit (v := 4) (by decide) ?_
  refine V2_iload_n (i := 1) d_Voi_bodyFrom_19 rfl rfl ?_
  refine V2_iadd d_Voi_bodyFrom_20 ?_
  refine V2_lit (v := 5) (by decide) ?_
  refine V2_callS [.int (5 : Int32)] d_Voi_bodyFrom_21 rfl rfl lk_Voi_57 mo_Voi_bodyAt (Nat.le_of_ble_eq_true rfl) (Nat.le_of_ble_eq_true rfl) ?_
  refine V2.to (l' := [some (.int (5 : Int32))]) ?_ rfl rfl rfl rfl
  refine V2_iload_n (i := 0) d_Voi_bodyAt_0 rfl rfl ?_
  refine V2_if_lt (tgt := 20) d_Voi_bodyAt_1 rfl (fun c => (by first | exact absurd c (by decide) | exact absurd (by decide) c)) (fun _ => ?_)
  refine V2_iload_n (i := 0) d_Voi_bodyAt_4 rfl rfl ?_
  refine V2_getsB d_Voi_bodyAt_5 gs_Voi_53 ?_
  refine V2_bodieslen d_Voi_bodyAt_8 ?_
  refine V2_icmp_ge (tgt := 20) d_Voi_bodyAt_9 rfl (fun c => (by first | exact absurd c (by decide) | exact absurd (by decide) c)) (fun _ => ?_)
  refine V2_getsB d_Voi_bodyAt_12 gs_Voi_53 ?_
  refine V2_iload_n (i := 0) d_Voi_bodyAt_15 rfl rfl ?_
  refine V2_bodies (v := 0) d_Voi_bodyAt_16 (xixA (n := 5) rfl (by decide) (by decide)) (by decide) ?_
  refine V2_goto (tgt := 21) d_Voi_bodyAt_17 rfl ?_
  refine V2_ireturn d_Voi_bodyAt_21 rfl ?_
  refine V2.to (st' := [.int (0 : Int32)]) ?_ rfl rfl rfl rfl
  refine V2_istore (i := 4) (l' := [some (.int (1 : Int32)), some (.int (1 : Int32)), some (.int (1 : Int32)), some (.int (0 : Int32)), some (.int (0 : Int32))]) d_Voi_bodyFrom_24 (xst_i (Nat.le_of_ble_eq_true rfl) rfl rfl) ?_
  refine V2_iload (i := 4) d_Voi_bodyFrom_26 rfl ?_
  refine V2_if_eq (tgt := 34) d_Voi_bodyFrom_28 rfl (fun _ => ?_) (fun c => (by first | exact absurd c (by decide) | exact absurd (by decide) c))
  refine V2_iload_n (i := 2) d_Voi_bodyFrom_34 rfl rfl ?_
  refine V2_callS [.int (1 : Int32)] d_Voi_bodyFrom_35 rfl rfl lk_Voi_61 mo_Kinds_above (Nat.le_of_ble_eq_true rfl) (Nat.le_of_ble_eq_true rfl) ?_
  refine V2.to (l' := [some (.int (1 : Int32))]) ?_ rfl rfl rfl rfl
  refine V2_iload_n (i := 0) d_Kinds_above_0 rfl rfl ?_
  refine V2_callS [.int (1 : Int32)] d_Kinds_above_1 rfl rfl lk_Kinds_13 mo_Kinds_isKind (Nat.le_of_ble_eq_true rfl) (Nat.le_of_ble_eq_true rfl) ?_
  refine V2.to (l' := [some (.int (1 : Int32))]) ?_ rfl rfl rfl rfl
  refine V2_iload_n (i := 0) d_Kinds_isKind_0 rfl rfl ?_
  refine V2_if_lt (tgt := 16) d_Kinds_isKind_1 rfl (fun c => (by first | exact absurd c (by decide) | exact absurd (by decide) c)) (fun _ => ?_)
  refine V2_iload_n (i := 0) d_Kinds_isKind_4 rfl rfl ?_
  refine V2_getsA d_Kinds_isKind_5 gs_Kinds_7 ?_
  refine V2_abovelen d_Kinds_isKind_8 ?_
  refine V2_icmp_ge (tgt := 16) d_Kinds_isKind_9 rfl (fun c => (by first | exact absurd c (by decide) | exact absurd (by decide) c)) (fun _ => ?_)
  refine V2_iconst (v := 1) d_Kinds_isKind_12 rfl ?_
  refine V2_goto (tgt := 17) d_Kinds_isKind_13 rfl ?_
  refine V2_zreturn d_Kinds_isKind_17 rfl (by decide) ?_
  refine V2.to (st' := [.int (1 : Int32)]) ?_ rfl rfl rfl rfl
  refine V2_if_eq (tgt := 15) d_Kinds_above_4 rfl (fun c => (by first | exact absurd c (by decide) | exact absurd (by decide) c)) (fun _ => ?_)
  refine V2_getsA d_Kinds_above_7 gs_Kinds_7 ?_
  refine V2_iload_n (i := 0) d_Kinds_above_10 rfl rfl ?_
  refine V2_above (v := 0) d_Kinds_above_11 (xixA (n := 1) rfl (by decide) (by decide)) (by decide) ?_
  refine V2_goto (tgt := 16) d_Kinds_above_12 rfl ?_
  refine V2_ireturn d_Kinds_above_16 rfl ?_
  refine V2.to (st' := [.int (0 : Int32)]) ?_ rfl rfl rfl rfl
  refine V2_istore_n (i := 2) (l' := [some (.int (1 : Int32)), some (.int (1 : Int32)), some (.int (0 : Int32)), some (.int (0 : Int32)), some (.int (0 : Int32))]) d_Voi_bodyFrom_38 rfl (xst_i (Nat.le_of_ble_eq_true rfl) rfl rfl) ?_
  refine V2_iinc (i := 3) (v := 1) (l' := [some (.int (1 : Int32)), some (.int (1 : Int32)), some (.int (0 : Int32)), some (.int (1 : Int32)), some (.int (0 : Int32))]) d_Voi_bodyFrom_39 rfl (by decide) (xst_i (Nat.le_of_ble_eq_true rfl) rfl rfl) ?_
  refine V2_goto (tgt := 4) d_Voi_bodyFrom_42 rfl ?_
  refine V2_iload_n (i := 3) d_Voi_bodyFrom_4 rfl rfl ?_
  refine V2_getsB d_Voi_bodyFrom_5 gs_Voi_53 ?_
  refine V2_bodieslen d_Voi_bodyFrom_8 ?_
  refine V2_icmp_ge (tgt := 45) d_Voi_bodyFrom_9 rfl (fun c => (by first | exact absurd c (by decide) | exact absurd (by decide) c)) (fun _ => ?_)
  refine V2_iload_n (i := 2) d_Voi_bodyFrom_12 rfl rfl ?_
  refine V2_if_lt (tgt := 45) d_Voi_bodyFrom_13 rfl (fun c => (by first | exact absurd c (by decide) | exact absurd (by decide) c)) (fun _ => ?_)
  refine V2_iload_n (i := 2) d_Voi_bodyFrom_16 rfl rfl ?_
  refine V2_iconst (v := 4) d_Voi_bodyFrom_17 rfl ?_
  refine V2_imul d_Voi_bodyFrom_18 ?_
  refine V2_lit (v := 0) (by decide) ?_
  refine V2_iload_n (i := 1) d_Voi_bodyFrom_19 rfl rfl ?_
  refine V2_iadd d_Voi_bodyFrom_20 ?_
  refine V2_lit (v := 1) (by decide) ?_
  refine V2_callS [.int (1 : Int32)] d_Voi_bodyFrom_21 rfl rfl lk_Voi_57 mo_Voi_bodyAt (Nat.le_of_ble_eq_true rfl) (Nat.le_of_ble_eq_true rfl) ?_
  refine V2.to (l' := [some (.int (1 : Int32))]) ?_ rfl rfl rfl rfl
  refine V2_iload_n (i := 0) d_Voi_bodyAt_0 rfl rfl ?_
  refine V2_if_lt (tgt := 20) d_Voi_bodyAt_1 rfl (fun c => (by first | exact absurd c (by decide) | exact absurd (by decide) c)) (fun _ => ?_)
  refine V2_iload_n (i := 0) d_Voi_bodyAt_4 rfl rfl ?_
  refine V2_getsB d_Voi_bodyAt_5 gs_Voi_53 ?_
  refine V2_bodieslen d_Voi_bodyAt_8 ?_
  refine V2_icmp_ge (tgt := 20) d_Voi_bodyAt_9 rfl (fun c => (by first | exact absurd c (by decide) | exact absurd (by decide) c)) (fun _ => ?_)
  refine V2_getsB d_Voi_bodyAt_12 gs_Voi_53 ?_
  refine V2_iload_n (i := 0) d_Voi_bodyAt_15 rfl rfl ?_
  refine V2_bodies (v := 11) d_Voi_bodyAt_16 (xixA (n := 1) rfl (by decide) (by decide)) (by decide) ?_
  refine V2_goto (tgt := 21) d_Voi_bodyAt_17 rfl ?_
  refine V2_ireturn d_Voi_bodyAt_21 rfl ?_
  refine V2.to (st' := [.int (11 : Int32)]) ?_ rfl rfl rfl rfl
  refine V2_istore (i := 4) (l' := [some (.int (1 : Int32)), some (.int (1 : Int32)), some (.int (0 : Int32)), some (.int (1 : Int32)), some (.int (11 : Int32))]) d_Voi_bodyFrom_24 (xst_i (Nat.le_of_ble_eq_true rfl) rfl rfl) ?_
  refine V2_iload (i := 4) d_Voi_bodyFrom_26 rfl ?_
  refine V2_if_eq (tgt := 34) d_Voi_bodyFrom_28 rfl (fun c => (by first | exact absurd c (by decide) | exact absurd (by decide) c)) (fun _ => ?_)
  refine V2_iload (i := 4) d_Voi_bodyFrom_31 rfl ?_
  refine V2_ireturn d_Voi_bodyFrom_33 rfl ?_
  refine V2.to (st' := [.int (11 : Int32)]) ?_ rfl rfl rfl rfl
  refine V2_istore (i := 5) (l' := [some (.ref 52), some (.int (1 : Int32)), some (.int (1 : Int32)), some (.int x), some (.int (0 : Int32)), some (.int (11 : Int32))]) d_Voi_says_5 (xst_i (Nat.le_of_ble_eq_true rfl) rfl rfl) ?_
  refine V2_aload_n (i := 0) d_Voi_says_7 rfl rfl ?_
  refine V2_get (v := (0 : Int32)) d_Voi_says_8 fl_Voi_31 (by decide) rfl (by decide) rfl rfl ?_
  refine V2_if_ne (tgt := 26) d_Voi_says_11 rfl (fun c => (by first | exact absurd c (by decide) | exact absurd (by decide) c)) (fun _ => ?_)
  refine V2_iload (i := 5) d_Voi_says_14 rfl ?_
  refine V2_if_eq (tgt := 26) d_Voi_says_16 rfl (fun c => (by first | exact absurd c (by decide) | exact absurd (by decide) c)) (fun _ => ?_)
  refine V2_iload (i := 4) d_Voi_says_19 rfl ?_
  refine V2_bipush (v := 30) d_Voi_says_21 rfl ?_
  refine V2_icmp_lt (tgt := 28) d_Voi_says_23 rfl (fun _ => ?_) (fun c => (by first | exact absurd c (by decide) | exact absurd (by decide) c))
  refine V2_aload_n (i := 0) d_Voi_says_28 rfl rfl ?_
  refine V2_getr (a := 53) d_Voi_says_29 fl_Voi_14 (by decide) rfl (by decide) rfl ?_
  refine V2_iload (i := 5) d_Voi_says_32 rfl ?_
  refine V2_callV [.int (11 : Int32)] d_Voi_says_34 rfl rfl lk_Voi_46 mo_Nums_add (by decide) rfl rfl rfl (Nat.le_of_ble_eq_true rfl) (Nat.le_of_ble_eq_true rfl) ?_
  refine V2.to (l' := [some (.ref 53), some (.int (11 : Int32))]) ?_ rfl rfl rfl rfl
  refine V2_aload_n (i := 0) d_Nums_add_0 rfl rfl ?_
  refine V2_get (v := (0 : Int32)) d_Nums_add_1 fl_Nums_7 (by decide) rfl (by decide) rfl rfl ?_
  refine V2_if_lt (tgt := 39) d_Nums_add_4 rfl (fun c => (by first | exact absurd c (by decide) | exact absurd (by decide) c)) (fun _ => ?_)
  refine V2_aload_n (i := 0) d_Nums_add_7 rfl rfl ?_
  refine V2_get (v := (0 : Int32)) d_Nums_add_8 fl_Nums_7 (by decide) rfl (by decide) rfl rfl ?_
  refine V2_aload_n (i := 0) d_Nums_add_11 rfl rfl ?_
  refine V2_getr (a := 54) d_Nums_add_12 fl_Nums_19 (by decide) rfl (by decide) rfl ?_
  refine V2_alen (t := 0) (v := 30) d_Nums_add_15 (by decide) rfl (by decide) rfl ?_
  refine V2_icmp_ge (tgt := 39) d_Nums_add_16 rfl (fun c => (by first | exact absurd c (by decide) | exact absurd (by decide) c)) (fun _ => ?_)
  refine V2_aload_n (i := 0) d_Nums_add_19 rfl rfl ?_
  refine V2_getr (a := 54) d_Nums_add_20 fl_Nums_19 (by decide) rfl (by decide) rfl ?_
  refine V2_aload_n (i := 0) d_Nums_add_23 rfl rfl ?_
  refine V2_get (v := (0 : Int32)) d_Nums_add_24 fl_Nums_7 (by decide) rfl (by decide) rfl rfl ?_
  refine V2_iload_n (i := 1) d_Nums_add_27 rfl rfl ?_
  refine V2_iastore (j := 0) d_Nums_add_28 (by decide) rfl (xixA (n := 0) rfl (by decide) (by decide)) rfl ?_
  refine V2_aload_n (i := 0) d_Nums_add_29 rfl rfl ?_
  refine V2_dup d_Nums_add_30 rfl ?_
  refine V2_get (v := (0 : Int32)) d_Nums_add_31 fl_Nums_7 (by decide) rfl (by decide) rfl rfl ?_
  refine V2_iconst (v := 1) d_Nums_add_34 rfl ?_
  refine V2_iadd d_Nums_add_35 ?_
  refine V2_lit (v := 1) (by decide) ?_
  refine V2_put d_Nums_add_36 fl_Nums_7 (by decide) rfl (by decide) rfl ?_
  refine V2_return d_Nums_add_39 rfl ?_
  refine V2.to (st' := []) ?_ rfl rfl rfl rfl
  refine V2_aload_n (i := 0) d_Voi_says_37 rfl rfl ?_
  refine V2_iload (i := 5) d_Voi_says_38 rfl ?_
  refine V2_iload_n (i := 3) d_Voi_says_40 rfl rfl ?_
  refine V2_iload (i := 4) d_Voi_says_41 rfl ?_
  refine V2_iconst (v := 1) d_Voi_says_43 rfl ?_
  refine V2_iadd d_Voi_says_44 ?_
  refine V2_lit (v := 1) (by decide) ?_
  refine V2_callV [.int (11 : Int32), .int x, .int (1 : Int32)] d_Voi_says_45 rfl rfl lk_Voi_49 mo_Voi_worksOut (by decide) rfl rfl rfl (Nat.le_of_ble_eq_true rfl) (Nat.le_of_ble_eq_true rfl) ?_
  refine V2.to (l' := [some (.ref 52), some (.int (11 : Int32)), some (.int x), some (.int (1 : Int32))]) ?_ rfl rfl rfl rfl
  refine V2_iload_n (i := 1) d_Voi_worksOut_0 rfl rfl ?_
  refine V2_lookup (tgt := 123) (off := 122) d_Voi_worksOut_1 (by decide) (by decide +kernel) rfl ?_
  refine V2_aload_n (i := 0) d_Voi_worksOut_123 rfl rfl ?_
  refine V2_aload_n (i := 0) d_Voi_worksOut_124 rfl rfl ?_
  refine V2_get (v := (1 : Int32)) d_Voi_worksOut_125 fl_Voi_18 (by decide) rfl (by decide) rfl rfl ?_
  refine V2_iconst (v := 0) d_Voi_worksOut_128 rfl ?_
  refine V2_iload_n (i := 2) d_Voi_worksOut_129 rfl rfl ?_
  refine V2_iload_n (i := 3) d_Voi_worksOut_130 rfl rfl ?_
  refine V2_callV [.int (1 : Int32), .int (0 : Int32), .int x, .int (1 : Int32)] d_Voi_worksOut_131 rfl rfl lk_Voi_38 mo_Voi_says (by decide) rfl rfl rfl (Nat.le_of_ble_eq_true rfl) (Nat.le_of_ble_eq_true rfl) ?_
  refine V2.to (l' := [some (.ref 52), some (.int (1 : Int32)), some (.int (0 : Int32)), some (.int x), some (.int (1 : Int32)), none]) ?_ rfl rfl rfl rfl
  refine V2_iload_n (i := 1) d_Voi_says_0 rfl rfl ?_
  refine V2_iload_n (i := 2) d_Voi_says_1 rfl rfl ?_
  refine V2_callS [.int (1 : Int32), .int (0 : Int32)] d_Voi_says_2 rfl rfl lk_Voi_42 mo_Voi_bodyFrom (Nat.le_of_ble_eq_true rfl) (Nat.le_of_ble_eq_true rfl) ?_
  refine V2.to (l' := [some (.int (1 : Int32)), some (.int (0 : Int32)), none, none, none]) ?_ rfl rfl rfl rfl
  refine V2_iload_n (i := 0) d_Voi_bodyFrom_0 rfl rfl ?_
  refine V2_istore_n (i := 2) (l' := [some (.int (1 : Int32)), some (.int (0 : Int32)), some (.int (1 : Int32)), none, none]) d_Voi_bodyFrom_1 rfl (xst_i (Nat.le_of_ble_eq_true rfl) rfl rfl) ?_
  refine V2_iconst (v := 0) d_Voi_bodyFrom_2 rfl ?_
  refine V2_istore_n (i := 3) (l' := [some (.int (1 : Int32)), some (.int (0 : Int32)), some (.int (1 : Int32)), some (.int (0 : Int32)), none]) d_Voi_bodyFrom_3 rfl (xst_i (Nat.le_of_ble_eq_true rfl) rfl rfl) ?_
  refine V2_iload_n (i := 3) d_Voi_bodyFrom_4 rfl rfl ?_
  refine V2_getsB d_Voi_bodyFrom_5 gs_Voi_53 ?_
  refine V2_bodieslen d_Voi_bodyFrom_8 ?_
  refine V2_icmp_ge (tgt := 45) d_Voi_bodyFrom_9 rfl (fun c => (by first | exact absurd c (by decide) | exact absurd (by decide) c)) (fun _ => ?_)
  refine V2_iload_n (i := 2) d_Voi_bodyFrom_12 rfl rfl ?_
  refine V2_if_lt (tgt := 45) d_Voi_bodyFrom_13 rfl (fun c => (by first | exact absurd c (by decide) | exact absurd (by decide) c)) (fun _ => ?_)
  refine V2_iload_n (i := 2) d_Voi_bodyFrom_16 rfl rfl ?_
  refine V2_iconst (v := 4) d_Voi_bodyFrom_17 rfl ?_
  refine V2_imul d_Voi_bodyFrom_18 ?_
  refine V2_lit (v := 4) (by decide) ?_
  refine V2_iload_n (i := 1) d_Voi_bodyFrom_19 rfl rfl ?_
  refine V2_iadd d_Voi_bodyFrom_20 ?_
  refine V2_lit (v := 4) (by decide) ?_
  refine V2_callS [.int (4 : Int32)] d_Voi_bodyFrom_21 rfl rfl lk_Voi_57 mo_Voi_bodyAt (Nat.le_of_ble_eq_true rfl) (Nat.le_of_ble_eq_true rfl) ?_
  refine V2.to (l' := [some (.int (4 : Int32))]) ?_ rfl rfl rfl rfl
  refine V2_iload_n (i := 0) d_Voi_bodyAt_0 rfl rfl ?_
  refine V2_if_lt (tgt := 20) d_Voi_bodyAt_1 rfl (fun c => (by first | exact absurd c (by decide) | exact absurd (by decide) c)) (fun _ => ?_)
  refine V2_iload_n (i := 0) d_Voi_bodyAt_4 rfl rfl ?_
  refine V2_getsB d_Voi_bodyAt_5 gs_Voi_53 ?_
  refine V2_bodieslen d_Voi_bodyAt_8 ?_
  refine V2_icmp_ge (tgt := 20) d_Voi_bodyAt_9 rfl (fun c => (by first | exact absurd c (by decide) | exact absurd (by decide) c)) (fun _ => ?_)
  refine V2_getsB d_Voi_bodyAt_12 gs_Voi_53 ?_
  refine V2_iload_n (i := 0) d_Voi_bodyAt_15 rfl rfl ?_
  refine V2_bodies (v := 20) d_Voi_bodyAt_16 (xixA (n := 4) rfl (by decide) (by decide)) (by decide) ?_
  refine V2_goto (tgt := 21) d_Voi_bodyAt_17 rfl ?_
  refine V2_ireturn d_Voi_bodyAt_21 rfl ?_
  refine V2.to (st' := [.int (20 : Int32)]) ?_ rfl rfl rfl rfl
  refine V2_istore (i := 4) (l' := [some (.int (1 : Int32)), some (.int (0 : Int32)), some (.int (1 : Int32)), some (.int (0 : Int32)), some (.int (20 : Int32))]) d_Voi_bodyFrom_24 (xst_i (Nat.le_of_ble_eq_true rfl) rfl rfl) ?_
  refine V2_iload (i := 4) d_Voi_bodyFrom_26 rfl ?_
  refine V2_if_eq (tgt := 34) d_Voi_bodyFrom_28 rfl (fun c => (by first | exact absurd c (by decide) | exact absurd (by decide) c)) (fun _ => ?_)
  refine V2_iload (i := 4) d_Voi_bodyFrom_31 rfl ?_
  refine V2_ireturn d_Voi_bodyFrom_33 rfl ?_
  refine V2.to (st' := [.int (20 : Int32)]) ?_ rfl rfl rfl rfl
  refine V2_istore (i := 5) (l' := [some (.ref 52), some (.int (1 : Int32)), some (.int (0 : Int32)), some (.int x), some (.int (1 : Int32)), some (.int (20 : Int32))]) d_Voi_says_5 (xst_i (Nat.le_of_ble_eq_true rfl) rfl rfl) ?_
  refine V2_aload_n (i := 0) d_Voi_says_7 rfl rfl ?_
  refine V2_get (v := (0 : Int32)) d_Voi_says_8 fl_Voi_31 (by decide) rfl (by decide) rfl rfl ?_
  refine V2_if_ne (tgt := 26) d_Voi_says_11 rfl (fun c => (by first | exact absurd c (by decide) | exact absurd (by decide) c)) (fun _ => ?_)
  refine V2_iload (i := 5) d_Voi_says_14 rfl ?_
  refine V2_if_eq (tgt := 26) d_Voi_says_16 rfl (fun c => (by first | exact absurd c (by decide) | exact absurd (by decide) c)) (fun _ => ?_)
  refine V2_iload (i := 4) d_Voi_says_19 rfl ?_
  refine V2_bipush (v := 30) d_Voi_says_21 rfl ?_
  refine V2_icmp_lt (tgt := 28) d_Voi_says_23 rfl (fun _ => ?_) (fun c => (by first | exact absurd c (by decide) | exact absurd (by decide) c))
  refine V2_aload_n (i := 0) d_Voi_says_28 rfl rfl ?_
  refine V2_getr (a := 53) d_Voi_says_29 fl_Voi_14 (by decide) rfl (by decide) rfl ?_
  refine V2_iload (i := 5) d_Voi_says_32 rfl ?_
  refine V2_callV [.int (20 : Int32)] d_Voi_says_34 rfl rfl lk_Voi_46 mo_Nums_add (by decide) rfl rfl rfl (Nat.le_of_ble_eq_true rfl) (Nat.le_of_ble_eq_true rfl) ?_
  refine V2.to (l' := [some (.ref 53), some (.int (20 : Int32))]) ?_ rfl rfl rfl rfl
  refine V2_aload_n (i := 0) d_Nums_add_0 rfl rfl ?_
  refine V2_get (v := (1 : Int32)) d_Nums_add_1 fl_Nums_7 (by decide) rfl (by decide) rfl rfl ?_
  refine V2_if_lt (tgt := 39) d_Nums_add_4 rfl (fun c => (by first | exact absurd c (by decide) | exact absurd (by decide) c)) (fun _ => ?_)
  refine V2_aload_n (i := 0) d_Nums_add_7 rfl rfl ?_
  refine V2_get (v := (1 : Int32)) d_Nums_add_8 fl_Nums_7 (by decide) rfl (by decide) rfl rfl ?_
  refine V2_aload_n (i := 0) d_Nums_add_11 rfl rfl ?_
  refine V2_getr (a := 54) d_Nums_add_12 fl_Nums_19 (by decide) rfl (by decide) rfl ?_
  refine V2_alen (t := 0) (v := 30) d_Nums_add_15 (by decide) rfl (by decide) rfl ?_
  refine V2_icmp_ge (tgt := 39) d_Nums_add_16 rfl (fun c => (by first | exact absurd c (by decide) | exact absurd (by decide) c)) (fun _ => ?_)
  refine V2_aload_n (i := 0) d_Nums_add_19 rfl rfl ?_
  refine V2_getr (a := 54) d_Nums_add_20 fl_Nums_19 (by decide) rfl (by decide) rfl ?_
  refine V2_aload_n (i := 0) d_Nums_add_23 rfl rfl ?_
  refine V2_get (v := (1 : Int32)) d_Nums_add_24 fl_Nums_7 (by decide) rfl (by decide) rfl rfl ?_
  refine V2_iload_n (i := 1) d_Nums_add_27 rfl rfl ?_
  refine V2_iastore (j := 1) d_Nums_add_28 (by decide) rfl (xixA (n := 1) rfl (by decide) (by decide)) rfl ?_
  refine V2_aload_n (i := 0) d_Nums_add_29 rfl rfl ?_
  refine V2_dup d_Nums_add_30 rfl ?_
  refine V2_get (v := (1 : Int32)) d_Nums_add_31 fl_Nums_7 (by decide) rfl (by decide) rfl rfl ?_
  refine V2_iconst (v := 1) d_Nums_add_34 rfl ?_
  refine V2_iadd d_Nums_add_35 ?_
  refine V2_lit (v := 2) (by decide) ?_
  refine V2_put d_Nums_add_36 fl_Nums_7 (by decide) rfl (by decide) rfl ?_
  refine V2_return d_Nums_add_39 rfl ?_
  refine V2.to (st' := []) ?_ rfl rfl rfl rfl
  refine V2_aload_n (i := 0) d_Voi_says_37 rfl rfl ?_
  refine V2_iload (i := 5) d_Voi_says_38 rfl ?_
  refine V2_iload_n (i := 3) d_Voi_says_40 rfl rfl ?_
  refine V2_iload (i := 4) d_Voi_says_41 rfl ?_
  refine V2_iconst (v := 1) d_Voi_says_43 rfl ?_
  refine V2_iadd d_Voi_says_44 ?_
  refine V2_lit (v := 2) (by decide) ?_
  refine V2_callV [.int (20 : Int32), .int x, .int (2 : Int32)] d_Voi_says_45 rfl rfl lk_Voi_49 mo_Voi_worksOut (by decide) rfl rfl rfl (Nat.le_of_ble_eq_true rfl) (Nat.le_of_ble_eq_true rfl) ?_
  refine V2.to (l' := [some (.ref 52), some (.int (20 : Int32)), some (.int x), some (.int (2 : Int32))]) ?_ rfl rfl rfl rfl
  refine V2_iload_n (i := 1) d_Voi_worksOut_0 rfl rfl ?_
  refine V2_lookup (tgt := 169) (off := 168) d_Voi_worksOut_1 (by decide) (by decide +kernel) rfl ?_
  refine V2_aload_n (i := 0) d_Voi_worksOut_169 rfl rfl ?_
  refine V2_iconst (v := 0) d_Voi_worksOut_170 rfl ?_
  refine V2_iconst (v := 0) d_Voi_worksOut_171 rfl ?_
  refine V2_iload_n (i := 2) d_Voi_worksOut_172 rfl rfl ?_
  refine V2_iload_n (i := 3) d_Voi_worksOut_173 rfl rfl ?_
  refine V2_callV [.int (0 : Int32), .int (0 : Int32), .int x, .int (2 : Int32)] d_Voi_worksOut_174 rfl rfl lk_Voi_38 mo_Voi_says (by decide) rfl rfl rfl (Nat.le_of_ble_eq_true rfl) (Nat.le_of_ble_eq_true rfl) ?_
  refine V2.to (l' := [some (.ref 52), some (.int (0 : Int32)), some (.int (0 : Int32)), some (.int x), some (.int (2 : Int32)), none]) ?_ rfl rfl rfl rfl
  refine V2_iload_n (i := 1) d_Voi_says_0 rfl rfl ?_
  refine V2_iload_n (i := 2) d_Voi_says_1 rfl rfl ?_
  refine V2_callS [.int (0 : Int32), .int (0 : Int32)] d_Voi_says_2 rfl rfl lk_Voi_42 mo_Voi_bodyFrom (Nat.le_of_ble_eq_true rfl) (Nat.le_of_ble_eq_true rfl) ?_
  refine V2.to (l' := [some (.int (0 : Int32)), some (.int (0 : Int32)), none, none, none]) ?_ rfl rfl rfl rfl
  refine V2_iload_n (i := 0) d_Voi_bodyFrom_0 rfl rfl ?_
  refine V2_istore_n (i := 2) (l' := [some (.int (0 : Int32)), some (.int (0 : Int32)), some (.int (0 : Int32)), none, none]) d_Voi_bodyFrom_1 rfl (xst_i (Nat.le_of_ble_eq_true rfl) rfl rfl) ?_
  refine V2_iconst (v := 0) d_Voi_bodyFrom_2 rfl ?_
  refine V2_istore_n (i := 3) (l' := [some (.int (0 : Int32)), some (.int (0 : Int32)), some (.int (0 : Int32)), some (.int (0 : Int32)), none]) d_Voi_bodyFrom_3 rfl (xst_i (Nat.le_of_ble_eq_true rfl) rfl rfl) ?_
  refine V2_iload_n (i := 3) d_Voi_bodyFrom_4 rfl rfl ?_
  refine V2_getsB d_Voi_bodyFrom_5 gs_Voi_53 ?_
  refine V2_bodieslen d_Voi_bodyFrom_8 ?_
  refine V2_icmp_ge (tgt := 45) d_Voi_bodyFrom_9 rfl (fun c => (by first | exact absurd c (by decide) | exact absurd (by decide) c)) (fun _ => ?_)
  refine V2_iload_n (i := 2) d_Voi_bodyFrom_12 rfl rfl ?_
  refine V2_if_lt (tgt := 45) d_Voi_bodyFrom_13 rfl (fun c => (by first | exact absurd c (by decide) | exact absurd (by decide) c)) (fun _ => ?_)
  refine V2_iload_n (i := 2) d_Voi_bodyFrom_16 rfl rfl ?_
  refine V2_iconst (v := 4) d_Voi_bodyFrom_17 rfl ?_
  refine V2_imul d_Voi_bodyFrom_18 ?_
  refine V2_lit (v := 0) (by decide) ?_
  refine V2_iload_n (i := 1) d_Voi_bodyFrom_19 rfl rfl ?_
  refine V2_iadd d_Voi_bodyFrom_20 ?_
  refine V2_lit (v := 0) (by decide) ?_
  refine V2_callS [.int (0 : Int32)] d_Voi_bodyFrom_21 rfl rfl lk_Voi_57 mo_Voi_bodyAt (Nat.le_of_ble_eq_true rfl) (Nat.le_of_ble_eq_true rfl) ?_
  refine V2.to (l' := [some (.int (0 : Int32))]) ?_ rfl rfl rfl rfl
  refine V2_iload_n (i := 0) d_Voi_bodyAt_0 rfl rfl ?_
  refine V2_if_lt (tgt := 20) d_Voi_bodyAt_1 rfl (fun c => (by first | exact absurd c (by decide) | exact absurd (by decide) c)) (fun _ => ?_)
  refine V2_iload_n (i := 0) d_Voi_bodyAt_4 rfl rfl ?_
  refine V2_getsB d_Voi_bodyAt_5 gs_Voi_53 ?_
  refine V2_bodieslen d_Voi_bodyAt_8 ?_
  refine V2_icmp_ge (tgt := 20) d_Voi_bodyAt_9 rfl (fun c => (by first | exact absurd c (by decide) | exact absurd (by decide) c)) (fun _ => ?_)
  refine V2_getsB d_Voi_bodyAt_12 gs_Voi_53 ?_
  refine V2_iload_n (i := 0) d_Voi_bodyAt_15 rfl rfl ?_
  refine V2_bodies (v := 10) d_Voi_bodyAt_16 (xixA (n := 0) rfl (by decide) (by decide)) (by decide) ?_
  refine V2_goto (tgt := 21) d_Voi_bodyAt_17 rfl ?_
  refine V2_ireturn d_Voi_bodyAt_21 rfl ?_
  refine V2.to (st' := [.int (10 : Int32)]) ?_ rfl rfl rfl rfl
  refine V2_istore (i := 4) (l' := [some (.int (0 : Int32)), some (.int (0 : Int32)), some (.int (0 : Int32)), some (.int (0 : Int32)), some (.int (10 : Int32))]) d_Voi_bodyFrom_24 (xst_i (Nat.le_of_ble_eq_true rfl) rfl rfl) ?_
  refine V2_iload (i := 4) d_Voi_bodyFrom_26 rfl ?_
  refine V2_if_eq (tgt := 34) d_Voi_bodyFrom_28 rfl (fun c => (by first | exact absurd c (by decide) | exact absurd (by decide) c)) (fun _ => ?_)
  refine V2_iload (i := 4) d_Voi_bodyFrom_31 rfl ?_
  refine V2_ireturn d_Voi_bodyFrom_33 rfl ?_
  refine V2.to (st' := [.int (10 : Int32)]) ?_ rfl rfl rfl rfl
  refine V2_istore (i := 5) (l' := [some (.ref 52), some (.int (0 : Int32)), some (.int (0 : Int32)), some (.int x), some (.int (2 : Int32)), some (.int (10 : Int32))]) d_Voi_says_5 (xst_i (Nat.le_of_ble_eq_true rfl) rfl rfl) ?_
  refine V2_aload_n (i := 0) d_Voi_says_7 rfl rfl ?_
  refine V2_get (v := (0 : Int32)) d_Voi_says_8 fl_Voi_31 (by decide) rfl (by decide) rfl rfl ?_
  refine V2_if_ne (tgt := 26) d_Voi_says_11 rfl (fun c => (by first | exact absurd c (by decide) | exact absurd (by decide) c)) (fun _ => ?_)
  refine V2_iload (i := 5) d_Voi_says_14 rfl ?_
  refine V2_if_eq (tgt := 26) d_Voi_says_16 rfl (fun c => (by first | exact absurd c (by decide) | exact absurd (by decide) c)) (fun _ => ?_)
  refine V2_iload (i := 4) d_Voi_says_19 rfl ?_
  refine V2_bipush (v := 30) d_Voi_says_21 rfl ?_
  refine V2_icmp_lt (tgt := 28) d_Voi_says_23 rfl (fun _ => ?_) (fun c => (by first | exact absurd c (by decide) | exact absurd (by decide) c))
  refine V2_aload_n (i := 0) d_Voi_says_28 rfl rfl ?_
  refine V2_getr (a := 53) d_Voi_says_29 fl_Voi_14 (by decide) rfl (by decide) rfl ?_
  refine V2_iload (i := 5) d_Voi_says_32 rfl ?_
  refine V2_callV [.int (10 : Int32)] d_Voi_says_34 rfl rfl lk_Voi_46 mo_Nums_add (by decide) rfl rfl rfl (Nat.le_of_ble_eq_true rfl) (Nat.le_of_ble_eq_true rfl) ?_
  refine V2.to (l' := [some (.ref 53), some (.int (10 : Int32))]) ?_ rfl rfl rfl rfl
  refine V2_aload_n (i := 0) d_Nums_add_0 rfl rfl ?_
  refine V2_get (v := (2 : Int32)) d_Nums_add_1 fl_Nums_7 (by decide) rfl (by decide) rfl rfl ?_
  refine V2_if_lt (tgt := 39) d_Nums_add_4 rfl (fun c => (by first | exact absurd c (by decide) | exact absurd (by decide) c)) (fun _ => ?_)
  refine V2_aload_n (i := 0) d_Nums_add_7 rfl rfl ?_
  refine V2_get (v := (2 : Int32)) d_Nums_add_8 fl_Nums_7 (by decide) rfl (by decide) rfl rfl ?_
  refine V2_aload_n (i := 0) d_Nums_add_11 rfl rfl ?_
  refine V2_getr (a := 54) d_Nums_add_12 fl_Nums_19 (by decide) rfl (by decide) rfl ?_
  refine V2_alen (t := 0) (v := 30) d_Nums_add_15 (by decide) rfl (by decide) rfl ?_
  refine V2_icmp_ge (tgt := 39) d_Nums_add_16 rfl (fun c => (by first | exact absurd c (by decide) | exact absurd (by decide) c)) (fun _ => ?_)
  refine V2_aload_n (i := 0) d_Nums_add_19 rfl rfl ?_
  refine V2_getr (a := 54) d_Nums_add_20 fl_Nums_19 (by decide) rfl (by decide) rfl ?_
  refine V2_aload_n (i := 0) d_Nums_add_23 rfl rfl ?_
  refine V2_get (v := (2 : Int32)) d_Nums_add_24 fl_Nums_7 (by decide) rfl (by decide) rfl rfl ?_
  refine V2_iload_n (i := 1) d_Nums_add_27 rfl rfl ?_
  refine V2_iastore (j := 2) d_Nums_add_28 (by decide) rfl (xixA (n := 2) rfl (by decide) (by decide)) rfl ?_
  refine V2_aload_n (i := 0) d_Nums_add_29 rfl rfl ?_
  refine V2_dup d_Nums_add_30 rfl ?_
  refine V2_get (v := (2 : Int32)) d_Nums_add_31 fl_Nums_7 (by decide) rfl (by decide) rfl rfl ?_
  refine V2_iconst (v := 1) d_Nums_add_34 rfl ?_
  refine V2_iadd d_Nums_add_35 ?_
  refine V2_lit (v := 3) (by decide) ?_
  refine V2_put d_Nums_add_36 fl_Nums_7 (by decide) rfl (by decide) rfl ?_
  refine V2_return d_Nums_add_39 rfl ?_
  refine V2.to (st' := []) ?_ rfl rfl rfl rfl
  refine V2_aload_n (i := 0) d_Voi_says_37 rfl rfl ?_
  refine V2_iload (i := 5) d_Voi_says_38 rfl ?_
  refine V2_iload_n (i := 3) d_Voi_says_40 rfl rfl ?_
  refine V2_iload (i := 4) d_Voi_says_41 rfl ?_
  refine V2_iconst (v := 1) d_Voi_says_43 rfl ?_
  refine V2_iadd d_Voi_says_44 ?_
  refine V2_lit (v := 3) (by decide) ?_
  refine V2_callV [.int (10 : Int32), .int x, .int (3 : Int32)] d_Voi_says_45 rfl rfl lk_Voi_49 mo_Voi_worksOut (by decide) rfl rfl rfl (Nat.le_of_ble_eq_true rfl) (Nat.le_of_ble_eq_true rfl) ?_
  refine V2.to (l' := [some (.ref 52), some (.int (10 : Int32)), some (.int x), some (.int (3 : Int32))]) ?_ rfl rfl rfl rfl
  refine V2_iload_n (i := 1) d_Voi_worksOut_0 rfl rfl ?_
  refine V2_lookup (tgt := 116) (off := 115) d_Voi_worksOut_1 (by decide) (by decide +kernel) rfl ?_
  refine V2_iload_n (i := 2) d_Voi_worksOut_116 rfl rfl ?_
  refine V2_aload_n (i := 0) d_Voi_worksOut_117 rfl rfl ?_
  refine V2_get (v := nI p) d_Voi_worksOut_118 fl_Voi_22 (by decide) rfl (by decide) rfl rfl ?_
  refine V2_topi (fun v4 ev4 => ?_)
  refine V2_iadd d_Voi_worksOut_121 ?_
  refine V2_topi (fun v5 ev5 => ?_)
  refine V2_ireturn d_Voi_worksOut_122 rfl ?_
  refine V2.to (st' := [.int v5]) ?_ rfl rfl rfl rfl
  refine V2_ireturn d_Voi_says_48 rfl ?_
  refine V2.to (st' := [.int v5]) ?_ rfl rfl rfl rfl
  refine V2_iconst (v := 4) d_Voi_worksOut_177 rfl ?_
  refine V2_isub d_Voi_worksOut_178 ?_
  refine V2_topi (fun v6 ev6 => ?_)
  refine V2_ireturn d_Voi_worksOut_179 rfl ?_
  refine V2.to (st' := [.int v6]) ?_ rfl rfl rfl rfl
  refine V2_ireturn d_Voi_says_48 rfl ?_
  refine V2.to (st' := [.int v6]) ?_ rfl rfl rfl rfl
  refine V2_iconst (v := 2) d_Voi_worksOut_134 rfl ?_
  refine V2_imul d_Voi_worksOut_135 ?_
  refine V2_topi (fun v7 ev7 => ?_)
  refine V2_ireturn d_Voi_worksOut_136 rfl ?_
  refine V2.to (st' := [.int v7]) ?_ rfl rfl rfl rfl
  refine V2_ireturn d_Voi_says_48 rfl ?_
  refine V2.to (st' := [.int v7, .ref 52]) ?_ rfl rfl rfl rfl
  refine V2_put d_Voi_speaks_41 fl_Voi_28 (by decide) rfl (by decide) rfl ?_
  refine V2_aload_n (i := 0) d_Voi_speaks_44 rfl rfl ?_
  refine V2_get (v := (0 : Int32)) d_Voi_speaks_45 fl_Voi_31 (by decide) rfl (by decide) rfl rfl ?_
  refine V2_if_ne (tgt := 55) d_Voi_speaks_48 rfl (fun c => (by first | exact absurd c (by decide) | exact absurd (by decide) c)) (fun _ => ?_)
  refine V2_iconst (v := 1) d_Voi_speaks_51 rfl ?_
  refine V2_goto (tgt := 56) d_Voi_speaks_52 rfl ?_
  refine V2_zreturn d_Voi_speaks_56 rfl (by decide) ?_
  refine V2.to (st' := [.int (1 : Int32)]) ?_ rfl rfl rfl rfl
  refine V2_if_ne (tgt := 73) d_P_voice_63 rfl (fun _ => ?_) (fun c => (by first | exact absurd c (by decide) | exact absurd (by decide) c))
  refine V2_aload_n (i := 0) d_P_voice_73 rfl rfl ?_
  refine V2_getr (a := 52) d_P_voice_74 fl_P_43 (by decide) rfl (by decide) rfl ?_
  refine V2_callV [] d_P_voice_77 rfl rfl lk_P_297 mo_Voi_answer (by decide) rfl rfl rfl (Nat.le_of_ble_eq_true rfl) (Nat.le_of_ble_eq_true rfl) ?_
  refine V2.to (l' := [some (.ref 52)]) ?_ rfl rfl rfl rfl
  refine V2_aload_n (i := 0) d_Voi_answer_0 rfl rfl ?_
  refine V2_get (v := v7) d_Voi_answer_1 fl_Voi_28 (by decide) rfl (by decide) rfl rfl ?_
  refine V2_ireturn d_Voi_answer_4 rfl ?_
  refine V2.to (st' := [.int v7]) ?_ rfl rfl rfl rfl
  refine V2_ireturn d_P_voice_80 rfl ?_
  subst ev7 ev6 ev5 ev4 ev1
  exact xQi (hQ _ (mid_trace (n := 3) (b := (fun i => ([11, 20, 10] : List Int32).getD i 0)) hR (by decide) (fun a h1 h2 h3 => by   repeat (first | rw [xp_row_ne h1] | rw [xp_row_ne h2] | rw [xp_row_ne h3]) ; try rfl) rfl (fun i hi => by rcases (show i = 0 ∨ i = 1 ∨ i = 2 by omega) with h9 | h9 | h9 <;> subst h9 <;> rfl))) (by first | rfl | decide) rfl
theorem c_mv_1_1 {L : Nat} {xs : Nat → Int32} {d : Nat} {Q : Option Value → xF → Prop} {F : xF} {p : Nat} {x mm : Int32} {F0 : xF} (hR : Rel F0) (hp : p < PN (F0 66)) (ek : F0 66 (12 + 2 * p) = 1) (em : F0 66 (12 + 2 * p + 1) = mm) (hM : Mid F0 F (traceG F0 3 (fun i => ([11, 20, 10] : List Int32).getD i 0))) (hQ : ∀ F2, Rel F2 → Q (some (.int (((x + nI p) - 4) * 2))) F2) : V2 L xs (d + 40) m_R_voice 0 (xEntry [.ref 65, .int (nI p), .int (1 : Int32), .int x] 6) [] F Q := by
  have e66 : F 66 = F0 66 := hM.1 66 (by decide)
  obtain ⟨eP, hP6⟩ := inv_PN hR.2.1.2.2.1
  have s1 : (F 66 11 - 1).toInt = (PN (F0 66) : Int) - 1 := sub_any (n := PN (F0 66)) ((congrFun e66 11).trans eP) (by omega) (by decide)
  refine V2.to (l' := [some (.ref 65), some (.int (nI p)), some (.int (1 : Int32)), some (.int x), none, none]) ?_ rfl rfl rfl rfl
  refine V2_aload_n (i := 0) d_R_voice_0 rfl rfl ?_
  refine V2_iload_n (i := 1) d_R_voice_1 rfl rfl ?_
  refine V2_callV [.int (nI p)] d_R_voice_2 rfl rfl lk_R_168 mo_R_isPusher (by decide) rfl rfl rfl (Nat.le_of_ble_eq_true rfl) (Nat.le_of_ble_eq_true rfl) ?_
  refine c_R_isPusher ?_
  refine V2_topi (fun v1 ev1 => ?_)
  refine V2_if_eq (tgt := 17) d_R_voice_5 rfl (fun c2 => (by first | exact absurd c2 (show ¬ v1 = 0 from by subst ev1; exact xb_ne.mpr (by rw [toI_le, toI_le, s1, nI_toInt (by omega)]; have q0 : (0 : Int32).toInt = 0 := (by decide); omega)) | exact absurd (show ¬ v1 = 0 from by subst ev1; exact xb_ne.mpr (by rw [toI_le, toI_le, s1, nI_toInt (by omega)]; have q0 : (0 : Int32).toInt = 0 := (by decide); omega)) c2)) (fun c2 => ?_)
  refine V2_iload_n (i := 2) d_R_voice_8 rfl rfl ?_
  refine V2_iconst (v := 0) d_R_voice_9 rfl ?_
  refine V2_iconst (v := 3) d_R_voice_10 rfl ?_
  refine V2_callS [.int (1 : Int32), .int (0 : Int32), .int (3 : Int32)] d_R_voice_11 rfl rfl lk_R_51 mo_R_in (Nat.le_of_ble_eq_true rfl) (Nat.le_of_ble_eq_true rfl) ?_
  refine V2.to (l' := [some (.int (1 : Int32)), some (.int (0 : Int32)), some (.int (3 : Int32))]) ?_ rfl rfl rfl rfl
  refine V2_iload_n (i := 0) d_R_in_0 rfl rfl ?_
  refine V2_iload_n (i := 1) d_R_in_1 rfl rfl ?_
  refine V2_icmp_lt (tgt := 14) d_R_in_2 rfl (fun c => (by first | exact absurd c (by decide) | exact absurd (by decide) c)) (fun _ => ?_)
  refine V2_iload_n (i := 0) d_R_in_5 rfl rfl ?_
  refine V2_iload_n (i := 2) d_R_in_6 rfl rfl ?_
  refine V2_icmp_gt (tgt := 14) d_R_in_7 rfl (fun c => (by first | exact absurd c (by decide) | exact absurd (by decide) c)) (fun _ => ?_)
  refine V2_iconst (v := 1) d_R_in_10 rfl ?_
  refine V2_goto (tgt := 15) d_R_in_11 rfl ?_
  refine V2_zreturn d_R_in_15 rfl (by decide) ?_
  refine V2.to (st' := [.int (1 : Int32)]) ?_ rfl rfl rfl rfl
  refine V2_if_ne (tgt := 23) d_R_voice_14 rfl (fun _ => ?_) (fun c => (by first | exact absurd c (by decide) | exact absurd (by decide) c))
  refine V2_aload_n (i := 0) d_R_voice_23 rfl rfl ?_
  refine V2_iconst (v := 0) d_R_voice_24 rfl ?_
  refine V2_put d_R_voice_25 fl_R_227 (by decide) rfl (by decide) rfl ?_
  refine V2_aload_n (i := 0) d_R_voice_28 rfl rfl ?_
  refine V2_iload_n (i := 1) d_R_voice_29 rfl rfl ?_
  refine V2_put d_R_voice_30 fl_R_230 (by decide) rfl (by decide) rfl ?_
  refine V2_aload_n (i := 0) d_R_voice_33 rfl rfl ?_
  refine V2_iconst (v := 0) d_R_voice_34 rfl ?_
  refine V2_putz d_R_voice_35 fl_R_251 (by decide) rfl (by decide) rfl (by decide) ?_
  refine V2_aload_n (i := 0) d_R_voice_38 rfl rfl ?_
  refine V2_callV [] d_R_voice_39 rfl rfl lk_R_239 mo_R_kindNow (by decide) rfl rfl rfl (Nat.le_of_ble_eq_true rfl) (Nat.le_of_ble_eq_true rfl) ?_
  refine c_R_kindNow (p := p) (by omega) rfl ?_
  refine V2_lit (v := 1) (show F 66 (12 + 2 * p) = 1 from (congrFun e66 _).trans ek) ?_
  refine V2_istore (i := 4) (l' := [some (.ref 65), some (.int (nI p)), some (.int (1 : Int32)), some (.int x), some (.int (1 : Int32)), none]) d_R_voice_42 (xst_i (Nat.le_of_ble_eq_true rfl) rfl rfl) ?_
  refine V2_iload_n (i := 2) d_R_voice_44 rfl rfl ?_
  refine V2_if_ne (tgt := 58) d_R_voice_45 rfl (fun _ => ?_) (fun c => (by first | exact absurd c (by decide) | exact absurd (by decide) c))
  refine V2_iload_n (i := 2) d_R_voice_58 rfl rfl ?_
  refine V2_iconst (v := 1) d_R_voice_59 rfl ?_
  refine V2_icmp_ne (tgt := 73) d_R_voice_60 rfl (fun c => (by first | exact absurd c (by decide) | exact absurd (by decide) c)) (fun _ => ?_)
  refine V2_aload_n (i := 0) d_R_voice_63 rfl rfl ?_
  refine V2_iload (i := 4) d_R_voice_64 rfl ?_
  refine V2_iload_n (i := 3) d_R_voice_66 rfl rfl ?_
  refine V2_callV [.int (1 : Int32), .int x] d_R_voice_67 rfl rfl lk_R_242 mo_R_slipsAs (by decide) rfl rfl rfl (Nat.le_of_ble_eq_true rfl) (Nat.le_of_ble_eq_true rfl) ?_
  refine V2.to (l' := [some (.ref 65), some (.int (1 : Int32)), some (.int x)]) ?_ rfl rfl rfl rfl
  refine V2_iload_n (i := 1) d_R_slipsAs_0 rfl rfl ?_
  refine V2_tableIn (tgt := 120) (off := 119) d_R_slipsAs_1 (by decide) (by decide) (by decide) rfl ?_
  refine V2_aload_n (i := 0) d_R_slipsAs_120 rfl rfl ?_
  refine V2_iload_n (i := 1) d_R_slipsAs_121 rfl rfl ?_
  refine V2_callS [.int (1 : Int32)] d_R_slipsAs_122 rfl rfl lk_R_174 mo_R_above (Nat.le_of_ble_eq_true rfl) (Nat.le_of_ble_eq_true rfl) ?_
  refine V2.to (l' := [some (.int (1 : Int32))]) ?_ rfl rfl rfl rfl
  refine V2_iload_n (i := 0) d_R_above_0 rfl rfl ?_
  refine V2_iconst (v := 4) d_R_above_1 rfl ?_
  refine V2_icmp_ne (tgt := 9) d_R_above_2 rfl (fun _ => ?_) (fun c => (by first | exact absurd c (by decide) | exact absurd (by decide) c))
  refine V2_iload_n (i := 0) d_R_above_9 rfl rfl ?_
  refine V2_iconst (v := 5) d_R_above_10 rfl ?_
  refine V2_icmp_ne (tgt := 18) d_R_above_11 rfl (fun _ => ?_) (fun c => (by first | exact absurd c (by decide) | exact absurd (by decide) c))
  refine V2_iconst (v := 0) d_R_above_18 rfl ?_
  refine V2_ireturn d_R_above_19 rfl ?_
  refine V2.to (st' := [.int (0 : Int32), .ref 65]) ?_ rfl rfl rfl rfl
  refine V2_iload_n (i := 2) d_R_slipsAs_125 rfl rfl ?_
  refine V2_callV [.int (0 : Int32), .int x] d_R_slipsAs_126 rfl rfl lk_R_242 mo_R_slipsAs (by decide) rfl rfl rfl (Nat.le_of_ble_eq_true rfl) (Nat.le_of_ble_eq_true rfl) ?_
  refine V2.to (l' := [some (.ref 65), some (.int (0 : Int32)), some (.int x)]) ?_ rfl rfl rfl rfl
  refine V2_iload_n (i := 1) d_R_slipsAs_0 rfl rfl ?_
  refine V2_tableIn (tgt := 44) (off := 43) d_R_slipsAs_1 (by decide) (by decide) (by decide) rfl ?_
  refine V2_aload_n (i := 0) d_R_slipsAs_44 rfl rfl ?_
  refine V2_bipush (v := 11) d_R_slipsAs_45 rfl ?_
  refine V2_callV [.int (11 : Int32)] d_R_slipsAs_47 rfl rfl lk_R_233 mo_R_begins (by decide) rfl rfl rfl (Nat.le_of_ble_eq_true rfl) (Nat.le_of_ble_eq_true rfl) ?_
  refine V2.to (l' := [some (.ref 65), some (.int (11 : Int32))]) ?_ rfl rfl rfl rfl
  refine V2_aload_n (i := 0) d_R_begins_0 rfl rfl ?_
  refine V2_get (v := (0 : Int32)) d_R_begins_1 fl_R_227 (by decide) rfl (by decide) rfl rfl ?_
  refine V2_bipush (v := 30) d_R_begins_4 rfl ?_
  refine V2_icmp_ge (tgt := 29) d_R_begins_6 rfl (fun c => (by first | exact absurd c (by decide) | exact absurd (by decide) c)) (fun _ => ?_)
  refine V2_aload_n (i := 0) d_R_begins_9 rfl rfl ?_
  refine V2_getr (a := 73) d_R_begins_10 fl_R_35 (by decide) rfl (by decide) rfl ?_
  refine V2_aload_n (i := 0) d_R_begins_13 rfl rfl ?_
  refine V2_get (v := (0 : Int32)) d_R_begins_14 fl_R_227 (by decide) rfl (by decide) rfl rfl ?_
  refine V2_iload_n (i := 1) d_R_begins_17 rfl rfl ?_
  refine V2_iastore (j := 0) d_R_begins_18 (by decide) rfl (xixA (n := 0) rfl (by decide) (by decide)) rfl ?_
  refine V2_aload_n (i := 0) d_R_begins_19 rfl rfl ?_
  refine V2_dup d_R_begins_20 rfl ?_
  refine V2_get (v := (0 : Int32)) d_R_begins_21 fl_R_227 (by decide) rfl (by decide) rfl rfl ?_
  refine V2_iconst (v := 1) d_R_begins_24 rfl ?_
  refine V2_iadd d_R_begins_25 ?_
  refine V2_lit (v := 1) (by decide) ?_
  refine V2_put d_R_begins_26 fl_R_227 (by decide) rfl (by decide) rfl ?_
  refine V2_return d_R_begins_29 rfl ?_
  refine V2.to (st' := []) ?_ rfl rfl rfl rfl
  refine V2_aload_n (i := 0) d_R_slipsAs_50 rfl rfl ?_
  refine V2_aload_n (i := 0) d_R_slipsAs_51 rfl rfl ?_
  refine V2_callV [] d_R_slipsAs_52 rfl rfl lk_R_239 mo_R_kindNow (by decide) rfl rfl rfl (Nat.le_of_ble_eq_true rfl) (Nat.le_of_ble_eq_true rfl) ?_
  refine c_R_kindNow (p := p) (by omega) rfl ?_
  refine V2_lit (v := 1) (show F 66 (12 + 2 * p) = 1 from (congrFun e66 _).trans ek) ?_
  refine V2_iload_n (i := 2) d_R_slipsAs_55 rfl rfl ?_
  refine V2_callV [.int (1 : Int32), .int x] d_R_slipsAs_56 rfl rfl lk_R_236 mo_R_heavesAs (by decide) rfl rfl rfl (Nat.le_of_ble_eq_true rfl) (Nat.le_of_ble_eq_true rfl) ?_
  refine V2.to (l' := [some (.ref 65), some (.int (1 : Int32)), some (.int x)]) ?_ rfl rfl rfl rfl
  refine V2_iload_n (i := 1) d_R_heavesAs_0 rfl rfl ?_
  refine V2_tableIn (tgt := 57) (off := 56) d_R_heavesAs_1 (by decide) (by decide) (by decide) rfl ?_
  refine V2_aload_n (i := 0) d_R_heavesAs_57 rfl rfl ?_
  refine V2_bipush (v := 20) d_R_heavesAs_58 rfl ?_
  refine V2_callV [.int (20 : Int32)] d_R_heavesAs_60 rfl rfl lk_R_233 mo_R_begins (by decide) rfl rfl rfl (Nat.le_of_ble_eq_true rfl) (Nat.le_of_ble_eq_true rfl) ?_
  refine V2.to (l' := [some (.ref 65), some (.int (20 : Int32))]) ?_ rfl rfl rfl rfl
  refine V2_aload_n (i := 0) d_R_begins_0 rfl rfl ?_
  refine V2_get (v := (1 : Int32)) d_R_begins_1 fl_R_227 (by decide) rfl (by decide) rfl rfl ?_
  refine V2_bipush (v := 30) d_R_begins_4 rfl ?_
  refine V2_icmp_ge (tgt := 29) d_R_begins_6 rfl (fun c => (by first | exact absurd c (by decide) | exact absurd (by decide) c)) (fun _ => ?_)
  refine V2_aload_n (i := 0) d_R_begins_9 rfl rfl ?_
  refine V2_getr (a := 73) d_R_begins_10 fl_R_35 (by decide) rfl (by decide) rfl ?_
  refine V2_aload_n (i := 0) d_R_begins_13 rfl rfl ?_
  refine V2_get (v := (1 : Int32)) d_R_begins_14 fl_R_227 (by decide) rfl (by decide) rfl rfl ?_
  refine V2_iload_n (i := 1) d_R_begins_17 rfl rfl ?_
  refine V2_iastore (j := 1) d_R_begins_18 (by decide) rfl (xixA (n := 1) rfl (by decide) (by decide)) rfl ?_
  refine V2_aload_n (i := 0) d_R_begins_19 rfl rfl ?_
  refine V2_dup d_R_begins_20 rfl ?_
  refine V2_get (v := (1 : Int32)) d_R_begins_21 fl_R_227 (by decide) rfl (by decide) rfl rfl ?_
  refine V2_iconst (v := 1) d_R_begins_24 rfl ?_
  refine V2_iadd d_R_begins_25 ?_
  refine V2_lit (v := 2) (by decide) ?_
  refine V2_put d_R_begins_26 fl_R_227 (by decide) rfl (by decide) rfl ?_
  refine V2_return d_R_begins_29 rfl ?_
  refine V2.to (st' := []) ?_ rfl rfl rfl rfl
  refine V2_aload_n (i := 0) d_R_heavesAs_63 rfl rfl ?_
  refine V2_iconst (v := 1) d_R_heavesAs_64 rfl ?_
  refine V2_callS [.int (1 : Int32)] d_R_heavesAs_65 rfl rfl lk_R_174 mo_R_above (Nat.le_of_ble_eq_true rfl) (Nat.le_of_ble_eq_true rfl) ?_
  refine V2.to (l' := [some (.int (1 : Int32))]) ?_ rfl rfl rfl rfl
  refine V2_iload_n (i := 0) d_R_above_0 rfl rfl ?_
  refine V2_iconst (v := 4) d_R_above_1 rfl ?_
  refine V2_icmp_ne (tgt := 9) d_R_above_2 rfl (fun _ => ?_) (fun c => (by first | exact absurd c (by decide) | exact absurd (by decide) c))
  refine V2_iload_n (i := 0) d_R_above_9 rfl rfl ?_
  refine V2_iconst (v := 5) d_R_above_10 rfl ?_
  refine V2_icmp_ne (tgt := 18) d_R_above_11 rfl (fun _ => ?_) (fun c => (by first | exact absurd c (by decide) | exact absurd (by decide) c))
  refine V2_iconst (v := 0) d_R_above_18 rfl ?_
  refine V2_ireturn d_R_above_19 rfl ?_
  refine V2.to (st' := [.int (0 : Int32), .ref 65]) ?_ rfl rfl rfl rfl
  refine V2_iload_n (i := 2) d_R_heavesAs_68 rfl rfl ?_
  refine V2_callV [.int (0 : Int32), .int x] d_R_heavesAs_69 rfl rfl lk_R_236 mo_R_heavesAs (by decide) rfl rfl rfl (Nat.le_of_ble_eq_true rfl) (Nat.le_of_ble_eq_true rfl) ?_
  refine V2.to (l' := [some (.ref 65), some (.int (0 : Int32)), some (.int x)]) ?_ rfl rfl rfl rfl
  refine V2_iload_n (i := 1) d_R_heavesAs_0 rfl rfl ?_
  refine V2_tableIn (tgt := 44) (off := 43) d_R_heavesAs_1 (by decide) (by decide) (by decide) rfl ?_
  refine V2_aload_n (i := 0) d_R_heavesAs_44 rfl rfl ?_
  refine V2_bipush (v := 10) d_R_heavesAs_45 rfl ?_
  refine V2_callV [.int (10 : Int32)] d_R_heavesAs_47 rfl rfl lk_R_233 mo_R_begins (by decide) rfl rfl rfl (Nat.le_of_ble_eq_true rfl) (Nat.le_of_ble_eq_true rfl) ?_
  refine V2.to (l' := [some (.ref 65), some (.int (10 : Int32))]) ?_ rfl rfl rfl rfl
  refine V2_aload_n (i := 0) d_R_begins_0 rfl rfl ?_
  refine V2_get (v := (2 : Int32)) d_R_begins_1 fl_R_227 (by decide) rfl (by decide) rfl rfl ?_
  refine V2_bipush (v := 30) d_R_begins_4 rfl ?_
  refine V2_icmp_ge (tgt := 29) d_R_begins_6 rfl (fun c => (by first | exact absurd c (by decide) | exact absurd (by decide) c)) (fun _ => ?_)
  refine V2_aload_n (i := 0) d_R_begins_9 rfl rfl ?_
  refine V2_getr (a := 73) d_R_begins_10 fl_R_35 (by decide) rfl (by decide) rfl ?_
  refine V2_aload_n (i := 0) d_R_begins_13 rfl rfl ?_
  refine V2_get (v := (2 : Int32)) d_R_begins_14 fl_R_227 (by decide) rfl (by decide) rfl rfl ?_
  refine V2_iload_n (i := 1) d_R_begins_17 rfl rfl ?_
  refine V2_iastore (j := 2) d_R_begins_18 (by decide) rfl (xixA (n := 2) rfl (by decide) (by decide)) rfl ?_
  refine V2_aload_n (i := 0) d_R_begins_19 rfl rfl ?_
  refine V2_dup d_R_begins_20 rfl ?_
  refine V2_get (v := (2 : Int32)) d_R_begins_21 fl_R_227 (by decide) rfl (by decide) rfl rfl ?_
  refine V2_iconst (v := 1) d_R_begins_24 rfl ?_
  refine V2_iadd d_R_begins_25 ?_
  refine V2_lit (v := 3) (by decide) ?_
  refine V2_put d_R_begins_26 fl_R_227 (by decide) rfl (by decide) rfl ?_
  refine V2_return d_R_begins_29 rfl ?_
  refine V2.to (st' := []) ?_ rfl rfl rfl rfl
  refine V2_iload_n (i := 2) d_R_heavesAs_50 rfl rfl ?_
  refine V2_aload_n (i := 0) d_R_heavesAs_51 rfl rfl ?_
  refine V2_get (v := nI p) d_R_heavesAs_52 fl_R_230 (by decide) rfl (by decide) rfl rfl ?_
  refine V2_topi (fun v3 ev3 => ?_)
  refine V2_iadd d_R_heavesAs_55 ?_
  refine V2_topi (fun v4 ev4 => ?_)
  refine V2_ireturn d_R_heavesAs_56 rfl ?_
  refine V2.to (st' := [.int v4]) ?_ rfl rfl rfl rfl
  refine V2_iconst (v := 4) d_R_heavesAs_72 rfl ?_
  refine V2_isub d_R_heavesAs_73 ?_
  refine V2_topi (fun v5 ev5 => ?_)
  refine V2_ireturn d_R_heavesAs_74 rfl ?_
  refine V2.to (st' := [.int v5]) ?_ rfl rfl rfl rfl
  refine V2_iconst (v := 2) d_R_slipsAs_59 rfl ?_
  refine V2_imul d_R_slipsAs_60 ?_
  refine V2_topi (fun v6 ev6 => ?_)
  refine V2_ireturn d_R_slipsAs_61 rfl ?_
  refine V2.to (st' := [.int v6]) ?_ rfl rfl rfl rfl
  refine V2_ireturn d_R_slipsAs_129 rfl ?_
  refine V2.to (st' := [.int v6]) ?_ rfl rfl rfl rfl
  refine V2_goto (tgt := 95) d_R_voice_70 rfl ?_
  refine V2_istore (i := 5) (l' := [some (.ref 65), some (.int (nI p)), some (.int (1 : Int32)), some (.int x), some (.int (1 : Int32)), some (.int v6)]) d_R_voice_95 (xst_i (Nat.le_of_ble_eq_true rfl) rfl rfl) ?_
  refine V2_aload_n (i := 0) d_R_voice_97 rfl rfl ?_
  refine V2_get (v := (0 : Int32)) d_R_voice_98 fl_R_251 (by decide) rfl (by decide) rfl rfl ?_
  refine V2_if_eq (tgt := 113) d_R_voice_101 rfl (fun _ => ?_) (fun c => (by first | exact absurd c (by decide) | exact absurd (by decide) c))
  refine V2_iload (i := 5) d_R_voice_113 rfl ?_
  refine V2_ireturn d_R_voice_115 rfl ?_
  subst ev6 ev5 ev4 ev3 ev1
  refine xQi (hQ _ (rel_trace (n := 3) (b := (fun i => ([11, 20, 10] : List Int32).getD i 0)) hR (by decide) hM ?_ ?_ ?_ ?_ ?_)) ?_ rfl
  · intro a h1 h2
    repeat (first | rw [xp_row_ne h1] | rw [xp_row_ne h2])
    try rfl
  · rfl
  · rfl
  · rfl
  · exact (fun i hi => by rcases (show i = 0 ∨ i = 1 ∨ i = 2 by omega) with h9 | h9 | h9 <;> subst h9 <;> rfl)
  · first | rfl | decide
theorem c_cv_1_2 {L : Nat} {xs : Nat → Int32} {d : Nat} {Q : Option Value → xF → Prop} {F : xF} {p : Nat} {x mm : Int32} (hR : Rel F) (hp : p < PN (F 66)) (ek : F 66 (12 + 2 * p) = 1) (em : F 66 (12 + 2 * p + 1) = mm) (hQ : ∀ F1, Mid F F1 (traceG F 4 (fun i => ([12, 11, 20, 10] : List Int32).getD i 0)) → Q (some (.int ((((x + nI p) - 4) * 2) - mm))) F1) : V2 L xs (d + 40) m_P_voice 0 (xEntry [.ref 0, .int (nI p), .int (2 : Int32), .int x] 5) [] F Q := by
  obtain ⟨eP, hP6⟩ := inv_PN hR.2.1.2.2.1
  refine V2.to (l' := [some (.ref 0), some (.int (nI p)), some (.int (2 : Int32)), some (.int x), none]) ?_ rfl rfl rfl rfl
  refine V2_aload_n (i := 0) d_P_voice_0 rfl rfl ?_
  refine V2_getr (a := 1) d_P_voice_1 fl_P_10 (by decide) rfl (by decide) rfl ?_
  refine V2_getr (a := 3) d_P_voice_4 fl_P_70 (by decide) rfl (by decide) rfl ?_
  refine V2_iload_n (i := 1) d_P_voice_7 rfl rfl ?_
  refine V2_callV [.int (nI p)] d_P_voice_8 rfl rfl lk_P_84 mo_Push_has (by decide) rfl rfl rfl (Nat.le_of_ble_eq_true rfl) (Nat.le_of_ble_eq_true rfl) ?_
  refine c_Push_has (P := PN (F 66)) (hR.1.1.2.1.1.trans eP) hP6 ?_
  refine V2_topi (fun v1 ev1 => ?_)
  refine V2_if_eq (tgt := 21) d_P_voice_11 rfl (fun c2 => (by first | exact absurd c2 (show ¬ v1 = 0 from by subst ev1; exact xb_ne.mpr ⟨nI_pos' (by omega), by rw [hR.1.1.2.1.1, eP]; exact nI_lt hp (by omega)⟩) | exact absurd (show ¬ v1 = 0 from by subst ev1; exact xb_ne.mpr ⟨nI_pos' (by omega), by rw [hR.1.1.2.1.1, eP]; exact nI_lt hp (by omega)⟩) c2)) (fun c2 => ?_)
  refine V2_iload_n (i := 2) d_P_voice_14 rfl rfl ?_
  refine V2_callS [.int (2 : Int32)] d_P_voice_15 rfl rfl lk_P_290 mo_Voi_isVoice (Nat.le_of_ble_eq_true rfl) (Nat.le_of_ble_eq_true rfl) ?_
  refine V2.to (l' := [some (.int (2 : Int32))]) ?_ rfl rfl rfl rfl
  refine V2_iload_n (i := 0) d_Voi_isVoice_0 rfl rfl ?_
  refine V2_if_lt (tgt := 13) d_Voi_isVoice_1 rfl (fun c => (by first | exact absurd c (by decide) | exact absurd (by decide) c)) (fun _ => ?_)
  refine V2_iload_n (i := 0) d_Voi_isVoice_4 rfl rfl ?_
  refine V2_iconst (v := 4) d_Voi_isVoice_5 rfl ?_
  refine V2_icmp_ge (tgt := 13) d_Voi_isVoice_6 rfl (fun c => (by first | exact absurd c (by decide) | exact absurd (by decide) c)) (fun _ => ?_)
  refine V2_iconst (v := 1) d_Voi_isVoice_9 rfl ?_
  refine V2_goto (tgt := 14) d_Voi_isVoice_10 rfl ?_
  refine V2_zreturn d_Voi_isVoice_14 rfl (by decide) ?_
  refine V2.to (st' := [.int (1 : Int32)]) ?_ rfl rfl rfl rfl
  refine V2_if_ne (tgt := 27) d_P_voice_18 rfl (fun _ => ?_) (fun c => (by first | exact absurd c (by decide) | exact absurd (by decide) c))
  refine V2_aload_n (i := 0) d_P_voice_27 rfl rfl ?_
  refine V2_getr (a := 1) d_P_voice_28 fl_P_10 (by decide) rfl (by decide) rfl ?_
  refine V2_getr (a := 3) d_P_voice_31 fl_P_70 (by decide) rfl (by decide) rfl ?_
  refine V2_iload_n (i := 1) d_P_voice_34 rfl rfl ?_
  refine V2_callV [.int (nI p)] d_P_voice_35 rfl rfl lk_P_87 mo_Push_kindOf (by decide) rfl rfl rfl (Nat.le_of_ble_eq_true rfl) (Nat.le_of_ble_eq_true rfl) ?_
  refine c_Push_kindOf (P := PN (F 66)) (hR.1.1.2.1.1.trans eP) (hR.1.1.2.1.2.1.trans eP) hP6 hp ?_
  refine V2_lit (v := 1) (((rel_relP hR).2.2.2 p hp).1.trans ek) ?_
  refine V2_istore (i := 4) (l' := [some (.ref 0), some (.int (nI p)), some (.int (2 : Int32)), some (.int x), some (.int (1 : Int32))]) d_P_voice_38 (xst_i (Nat.le_of_ble_eq_true rfl) rfl rfl) ?_
  refine V2_aload_n (i := 0) d_P_voice_40 rfl rfl ?_
  refine V2_getr (a := 52) d_P_voice_41 fl_P_43 (by decide) rfl (by decide) rfl ?_
  refine V2_iload (i := 4) d_P_voice_44 rfl ?_
  refine V2_iload_n (i := 1) d_P_voice_46 rfl rfl ?_
  refine V2_aload_n (i := 0) d_P_voice_47 rfl rfl ?_
  refine V2_getr (a := 1) d_P_voice_48 fl_P_10 (by decide) rfl (by decide) rfl ?_
  refine V2_getr (a := 3) d_P_voice_51 fl_P_70 (by decide) rfl (by decide) rfl ?_
  refine V2_iload_n (i := 1) d_P_voice_54 rfl rfl ?_
  refine V2_callV [.int (nI p)] d_P_voice_55 rfl rfl lk_P_90 mo_Push_levelOf (by decide) rfl rfl rfl (Nat.le_of_ble_eq_true rfl) (Nat.le_of_ble_eq_true rfl) ?_
  refine c_Push_levelOf (P := PN (F 66)) (hR.1.1.2.1.1.trans eP) (hR.1.1.2.1.2.1.trans eP) hP6 hp ?_
  refine V2_lit (v := mm) (((rel_relP hR).2.2.2 p hp).2.trans em) ?_
  refine V2_iload_n (i := 2) d_P_voice_58 rfl rfl ?_
  refine V2_iload_n (i := 3) d_P_voice_59 rfl rfl ?_
  refine V2_callV [.int (1 : Int32), .int (nI p), .int mm, .int (2 : Int32), .int x] d_P_voice_60 rfl rfl lk_P_293 mo_Voi_speaks (by decide) rfl rfl rfl (Nat.le_of_ble_eq_true rfl) (Nat.le_of_ble_eq_true rfl) ?_
  refine V2.to (l' := [some (.ref 52), some (.int (1 : Int32)), some (.int (nI p)), some (.int mm), some (.int (2 : Int32)), some (.int x)]) ?_ rfl rfl rfl rfl
  refine V2_aload_n (i := 0) d_Voi_speaks_0 rfl rfl ?_
  refine V2_iload_n (i := 1) d_Voi_speaks_1 rfl rfl ?_
  refine V2_put d_Voi_speaks_2 fl_Voi_18 (by decide) rfl (by decide) rfl ?_
  refine V2_aload_n (i := 0) d_Voi_speaks_5 rfl rfl ?_
  refine V2_iload_n (i := 2) d_Voi_speaks_6 rfl rfl ?_
  refine V2_put d_Voi_speaks_7 fl_Voi_22 (by decide) rfl (by decide) rfl ?_
  refine V2_aload_n (i := 0) d_Voi_speaks_10 rfl rfl ?_
  refine V2_iload_n (i := 3) d_Voi_speaks_11 rfl rfl ?_
  refine V2_put d_Voi_speaks_12 fl_Voi_25 (by decide) rfl (by decide) rfl ?_
  refine V2_aload_n (i := 0) d_Voi_speaks_15 rfl rfl ?_
  refine V2_iconst (v := 0) d_Voi_speaks_16 rfl ?_
  refine V2_putz d_Voi_speaks_17 fl_Voi_31 (by decide) rfl (by decide) rfl (by decide) ?_
  refine V2_aload_n (i := 0) d_Voi_speaks_20 rfl rfl ?_
  refine V2_getr (a := 53) d_Voi_speaks_21 fl_Voi_14 (by decide) rfl (by decide) rfl ?_
  refine V2_callV [] d_Voi_speaks_24 rfl rfl lk_Voi_35 mo_Nums_empty (by decide) rfl rfl rfl (Nat.le_of_ble_eq_true rfl) (Nat.le_of_ble_eq_true rfl) ?_
  refine V2.to (l' := [some (.ref 53)]) ?_ rfl rfl rfl rfl
  refine V2_aload_n (i := 0) d_Nums_empty_0 rfl rfl ?_
  refine V2_iconst (v := 0) d_Nums_empty_1 rfl ?_
  refine V2_put d_Nums_empty_2 fl_Nums_7 (by decide) rfl (by decide) rfl ?_
  refine V2_return d_Nums_empty_5 rfl ?_
  refine V2.to (st' := []) ?_ rfl rfl rfl rfl
  refine V2_aload_n (i := 0) d_Voi_speaks_27 rfl rfl ?_
  refine V2_aload_n (i := 0) d_Voi_speaks_28 rfl rfl ?_
  refine V2_aload_n (i := 0) d_Voi_speaks_29 rfl rfl ?_
  refine V2_get (v := (1 : Int32)) d_Voi_speaks_30 fl_Voi_18 (by decide) rfl (by decide) rfl rfl ?_
  refine V2_iload (i := 4) d_Voi_speaks_33 rfl ?_
  refine V2_iload (i := 5) d_Voi_speaks_35 rfl ?_
  refine V2_iconst (v := 0) d_Voi_speaks_37 rfl ?_
  refine V2_callV [.int (1 : Int32), .int (2 : Int32), .int x, .int (0 : Int32)] d_Voi_speaks_38 rfl rfl lk_Voi_38 mo_Voi_says (by decide) rfl rfl rfl (Nat.le_of_ble_eq_true rfl) (Nat.le_of_ble_eq_true rfl) ?_
  refine V2.to (l' := [some (.ref 52), some (.int (1 : Int32)), some (.int (2 : Int32)), some (.int x), some (.int (0 : Int32)), none]) ?_ rfl rfl rfl rfl
  refine V2_iload_n (i := 1) d_Voi_says_0 rfl rfl ?_
  refine V2_iload_n (i := 2) d_Voi_says_1 rfl rfl ?_
  refine V2_callS [.int (1 : Int32), .int (2 : Int32)] d_Voi_says_2 rfl rfl lk_Voi_42 mo_Voi_bodyFrom (Nat.le_of_ble_eq_true rfl) (Nat.le_of_ble_eq_true rfl) ?_
  refine V2.to (l' := [some (.int (1 : Int32)), some (.int (2 : Int32)), none, none, none]) ?_ rfl rfl rfl rfl
  refine V2_iload_n (i := 0) d_Voi_bodyFrom_0 rfl rfl ?_
  refine V2_istore_n (i := 2) (l' := [some (.int (1 : Int32)), some (.int (2 : Int32)), some (.int (1 : Int32)), none, none]) d_Voi_bodyFrom_1 rfl (xst_i (Nat.le_of_ble_eq_true rfl) rfl rfl) ?_
  refine V2_iconst (v := 0) d_Voi_bodyFrom_2 rfl ?_
  refine V2_istore_n (i := 3) (l' := [some (.int (1 : Int32)), some (.int (2 : Int32)), some (.int (1 : Int32)), some (.int (0 : Int32)), none]) d_Voi_bodyFrom_3 rfl (xst_i (Nat.le_of_ble_eq_true rfl) rfl rfl) ?_
  refine V2_iload_n (i := 3) d_Voi_bodyFrom_4 rfl rfl ?_
  refine V2_getsB d_Voi_bodyFrom_5 gs_Voi_53 ?_
  refine V2_bodieslen d_Voi_bodyFrom_8 ?_
  refine V2_icmp_ge (tgt := 45) d_Voi_bodyFrom_9 rfl (fun c => (by first | exact absurd c (by decide) | exact absurd (by decide) c)) (fun _ => ?_)
  refine V2_iload_n (i := 2) d_Voi_bodyFrom_12 rfl rfl ?_
  refine V2_if_lt (tgt := 45) d_Voi_bodyFrom_13 rfl (fun c => (by first | exact absurd c (by decide) | exact absurd (by decide) c)) (fun _ => ?_)
  refine V2_iload_n (i := 2) d_Voi_bodyFrom_16 rfl rfl ?_
  refine V2_iconst (v := 4) d_Voi_bodyFrom_17 rfl ?_
  refine V2_imul d_Voi_bodyFrom_18 ?_
  refine V2_lit (v := 4) (by decide) ?_
  refine V2_iload_n (i := 1) d_Voi_bodyFrom_19 rfl rfl ?_
  refine V2_iadd d_Voi_bodyFrom_20 ?_
  refine V2_lit (v := 6) (by decide) ?_
  refine V2_callS [.int (6 : Int32)] d_Voi_bodyFrom_21 rfl rfl lk_Voi_57 mo_Voi_bodyAt (Nat.le_of_ble_eq_true rfl) (Nat.le_of_ble_eq_true rfl) ?_
  refine V2.to (l' := [some (.int (6 : Int32))]) ?_ rfl rfl rfl rfl
  refine V2_iload_n (i := 0) d_Voi_bodyAt_0 rfl rfl ?_
  refine V2_if_lt (tgt := 20) d_Voi_bodyAt_1 rfl (fun c => (by first | exact absurd c (by decide) | exact absurd (by decide) c)) (fun _ => ?_)
  refine V2_iload_n (i := 0) d_Voi_bodyAt_4 rfl rfl ?_
  refine V2_getsB d_Voi_bodyAt_5 gs_Voi_53 ?_
  refine V2_bodieslen d_Voi_bodyAt_8 ?_
  refine V2_icmp_ge (tgt := 20) d_Voi_bodyAt_9 rfl (fun c => (by first | exact absurd c (by decide) | exact absurd (by decide) c)) (fun _ => ?_)
  refine V2_getsB d_Voi_bodyAt_12 gs_Voi_53 ?_
  refine V2_iload_n (i := 0) d_Voi_bodyAt_15 rfl rfl ?_
  refine V2_bodies (v := 0) d_Voi_bodyAt_16 (xixA (n := 6) rfl (by decide) (by decide)) (by decide) ?_
  refine V2_goto (tgt := 21) d_Voi_bodyAt_17 rfl ?_
  refine V2_ireturn d_Voi_bodyAt_21 rfl ?_
  refine V2.to (st' := [.int (0 : Int32)]) ?_ rfl rfl rfl rfl
  refine V2_istore (i := 4) (l' := [some (.int (1 : Int32)), some (.int (2 : Int32)), some (.int (1 : Int32)), some (.int (0 : Int32)), some (.int (0 : Int32))]) d_Voi_bodyFrom_24 (xst_i (Nat.le_of_ble_eq_true rfl) rfl rfl) ?_
  refine V2_iload (i := 4) d_Voi_bodyFrom_26 rfl ?_
  refine V2_if_eq (tgt := 34) d_Voi_bodyFrom_28 rfl (fun _ => ?_) (fun c => (by first | exact absurd c (by decide) | exact absurd (by decide) c))
  refine V2_iload_n (i := 2) d_Voi_bodyFrom_34 rfl rfl ?_
  refine V2_callS [.int (1 : Int32)] d_Voi_bodyFrom_35 rfl rfl lk_Voi_61 mo_Kinds_above (Nat.le_of_ble_eq_true rfl) (Nat.le_of_ble_eq_true rfl) ?_
  refine V2.to (l' := [some (.int (1 : Int32))]) ?_ rfl rfl rfl rfl
  refine V2_iload_n (i := 0) d_Kinds_above_0 rfl rfl ?_
  refine V2_callS [.int (1 : Int32)] d_Kinds_above_1 rfl rfl lk_Kinds_13 mo_Kinds_isKind (Nat.le_of_ble_eq_true rfl) (Nat.le_of_ble_eq_true rfl) ?_
  refine V2.to (l' := [some (.int (1 : Int32))]) ?_ rfl rfl rfl rfl
  refine V2_iload_n (i := 0) d_Kinds_isKind_0 rfl rfl ?_
  refine V2_if_lt (tgt := 16) d_Kinds_isKind_1 rfl (fun c => (by first | exact absurd c (by decide) | exact absurd (by decide) c)) (fun _ => ?_)
  refine V2_iload_n (i := 0) d_Kinds_isKind_4 rfl rfl ?_
  refine V2_getsA d_Kinds_isKind_5 gs_Kinds_7 ?_
  refine V2_abovelen d_Kinds_isKind_8 ?_
  refine V2_icmp_ge (tgt := 16) d_Kinds_isKind_9 rfl (fun c => (by first | exact absurd c (by decide) | exact absurd (by decide) c)) (fun _ => ?_)
  refine V2_iconst (v := 1) d_Kinds_isKind_12 rfl ?_
  refine V2_goto (tgt := 17) d_Kinds_isKind_13 rfl ?_
  refine V2_zreturn d_Kinds_isKind_17 rfl (by decide) ?_
  refine V2.to (st' := [.int (1 : Int32)]) ?_ rfl rfl rfl rfl
  refine V2_if_eq (tgt := 15) d_Kinds_above_4 rfl (fun c => (by first | exact absurd c (by decide) | exact absurd (by decide) c)) (fun _ => ?_)
  refine V2_getsA d_Kinds_above_7 gs_Kinds_7 ?_
  refine V2_iload_n (i := 0) d_Kinds_above_10 rfl rfl ?_
  refine V2_above (v := 0) d_Kinds_above_11 (xixA (n := 1) rfl (by decide) (by decide)) (by decide) ?_
  refine V2_goto (tgt := 16) d_Kinds_above_12 rfl ?_
  refine V2_ireturn d_Kinds_above_16 rfl ?_
  refine V2.to (st' := [.int (0 : Int32)]) ?_ rfl rfl rfl rfl
  refine V2_istore_n (i := 2) (l' := [some (.int (1 : Int32)), some (.int (2 : Int32)), some (.int (0 : Int32)), some (.int (0 : Int32)), some (.int (0 : Int32))]) d_Voi_bodyFrom_38 rfl (xst_i (Nat.le_of_ble_eq_true rfl) rfl rfl) ?_
  refine V2_iinc (i := 3) (v := 1) (l' := [some (.int (1 : Int32)), some (.int (2 : Int32)), some (.int (0 : Int32)), some (.int (1 : Int32)), some (.int (0 : Int32))]) d_Voi_bodyFrom_39 rfl (by decide) (xst_i (Nat.le_of_ble_eq_true rfl) rfl rfl) ?_
  refine V2_goto (tgt := 4) d_Voi_bodyFrom_42 rfl ?_
  refine V2_iload_n (i := 3) d_Voi_bodyFrom_4 rfl rfl ?_
  refine V2_getsB d_Voi_bodyFrom_5 gs_Voi_53 ?_
  refine V2_bodieslen d_Voi_bodyFrom_8 ?_
  refine V2_icmp_ge (tgt := 45) d_Voi_bodyFrom_9 rfl (fun c => (by first | exact absurd c (by decide) | exact absurd (by decide) c)) (fun _ => ?_)
  refine V2_iload_n (i := 2) d_Voi_bodyFrom_12 rfl rfl ?_
  refine V2_if_lt (tgt := 45) d_Voi_bodyFrom_13 rfl (fun c => (by first | exact absurd c (by decide) | exact absurd (by decide) c)) (fun _ => ?_)
  refine V2_iload_n (i := 2) d_Voi_bodyFrom_16 rfl rfl ?_
  refine V2_iconst (v := 4) d_Voi_bodyFrom_17 rfl ?_
  refine V2_imul d_Voi_bodyFrom_18 ?_
  refine V2_lit (v := 0) (by decide) ?_
  refine V2_iload_n (i := 1) d_Voi_bodyFrom_19 rfl rfl ?_
  refine V2_iadd d_Voi_bodyFrom_20 ?_
  refine V2_lit (v := 2) (by decide) ?_
  refine V2_callS [.int (2 : Int32)] d_Voi_bodyFrom_21 rfl rfl lk_Voi_57 mo_Voi_bodyAt (Nat.le_of_ble_eq_true rfl) (Nat.le_of_ble_eq_true rfl) ?_
  refine V2.to (l' := [some (.int (2 : Int32))]) ?_ rfl rfl rfl rfl
  refine V2_iload_n (i := 0) d_Voi_bodyAt_0 rfl rfl ?_
  refine V2_if_lt (tgt := 20) d_Voi_bodyAt_1 rfl (fun c => (by first | exact absurd c (by decide) | exact absurd (by decide) c)) (fun _ => ?_)
  refine V2_iload_n (i := 0) d_Voi_bodyAt_4 rfl rfl ?_
  refine V2_getsB d_Voi_bodyAt_5 gs_Voi_53 ?_
  refine V2_bodieslen d_Voi_bodyAt_8 ?_
  refine V2_icmp_ge (tgt := 20) d_Voi_bodyAt_9 rfl (fun c => (by first | exact absurd c (by decide) | exact absurd (by decide) c)) (fun _ => ?_)
  refine V2_getsB d_Voi_bodyAt_12 gs_Voi_53 ?_
  refine V2_iload_n (i := 0) d_Voi_bodyAt_15 rfl rfl ?_
  refine V2_bodies (v := 12) d_Voi_bodyAt_16 (xixA (n := 2) rfl (by decide) (by decide)) (by decide) ?_
  refine V2_goto (tgt := 21) d_Voi_bodyAt_17 rfl ?_
  refine V2_ireturn d_Voi_bodyAt_21 rfl ?_
  refine V2.to (st' := [.int (12 : Int32)]) ?_ rfl rfl rfl rfl
  refine V2_istore (i := 4) (l' := [some (.int (1 : Int32)), some (.int (2 : Int32)), some (.int (0 : Int32)), some (.int (1 : Int32)), some (.int (12 : Int32))]) d_Voi_bodyFrom_24 (xst_i (Nat.le_of_ble_eq_true rfl) rfl rfl) ?_
  refine V2_iload (i := 4) d_Voi_bodyFrom_26 rfl ?_
  refine V2_if_eq (tgt := 34) d_Voi_bodyFrom_28 rfl (fun c => (by first | exact absurd c (by decide) | exact absurd (by decide) c)) (fun _ => ?_)
  refine V2_iload (i := 4) d_Voi_bodyFrom_31 rfl ?_
  refine V2_ireturn d_Voi_bodyFrom_33 rfl ?_
  refine V2.to (st' := [.int (12 : Int32)]) ?_ rfl rfl rfl rfl
  refine V2_istore (i := 5) (l' := [some (.ref 52), some (.int (1 : Int32)), some (.int (2 : Int32)), some (.int x), some (.int (0 : Int32)), some (.int (12 : Int32))]) d_Voi_says_5 (xst_i (Nat.le_of_ble_eq_true rfl) rfl rfl) ?_
  refine V2_aload_n (i := 0) d_Voi_says_7 rfl rfl ?_
  refine V2_get (v := (0 : Int32)) d_Voi_says_8 fl_Voi_31 (by decide) rfl (by decide) rfl rfl ?_
  refine V2_if_ne (tgt := 26) d_Voi_says_11 rfl (fun c => (by first | exact absurd c (by decide) | exact absurd (by decide) c)) (fun _ => ?_)
  refine V2_iload (i := 5) d_Voi_says_14 rfl ?_
  refine V2_if_eq (tgt := 26) d_Voi_says_16 rfl (fun c => (by first | exact absurd c (by decide) | exact absurd (by decide) c)) (fun _ => ?_)
  refine V2_iload (i := 4) d_Voi_says_19 rfl ?_
  refine V2_bipush (v := 30) d_Voi_says_21 rfl ?_
  refine V2_icmp_lt (tgt := 28) d_Voi_says_23 rfl (fun _ => ?_) (fun c => (by first | exact absurd c (by decide) | exact absurd (by decide) c))
  refine V2_aload_n (i := 0) d_Voi_says_28 rfl rfl ?_
  refine V2_getr (a := 53) d_Voi_says_29 fl_Voi_14 (by decide) rfl (by decide) rfl ?_
  refine V2_iload (i := 5) d_Voi_says_32 rfl ?_
  refine V2_callV [.int (12 : Int32)] d_Voi_says_34 rfl rfl lk_Voi_46 mo_Nums_add (by decide) rfl rfl rfl (Nat.le_of_ble_eq_true rfl) (Nat.le_of_ble_eq_true rfl) ?_
  refine V2.to (l' := [some (.ref 53), some (.int (12 : Int32))]) ?_ rfl rfl rfl rfl
  refine V2_aload_n (i := 0) d_Nums_add_0 rfl rfl ?_
  refine V2_get (v := (0 : Int32)) d_Nums_add_1 fl_Nums_7 (by decide) rfl (by decide) rfl rfl ?_
  refine V2_if_lt (tgt := 39) d_Nums_add_4 rfl (fun c => (by first | exact absurd c (by decide) | exact absurd (by decide) c)) (fun _ => ?_)
  refine V2_aload_n (i := 0) d_Nums_add_7 rfl rfl ?_
  refine V2_get (v := (0 : Int32)) d_Nums_add_8 fl_Nums_7 (by decide) rfl (by decide) rfl rfl ?_
  refine V2_aload_n (i := 0) d_Nums_add_11 rfl rfl ?_
  refine V2_getr (a := 54) d_Nums_add_12 fl_Nums_19 (by decide) rfl (by decide) rfl ?_
  refine V2_alen (t := 0) (v := 30) d_Nums_add_15 (by decide) rfl (by decide) rfl ?_
  refine V2_icmp_ge (tgt := 39) d_Nums_add_16 rfl (fun c => (by first | exact absurd c (by decide) | exact absurd (by decide) c)) (fun _ => ?_)
  refine V2_aload_n (i := 0) d_Nums_add_19 rfl rfl ?_
  refine V2_getr (a := 54) d_Nums_add_20 fl_Nums_19 (by decide) rfl (by decide) rfl ?_
  refine V2_aload_n (i := 0) d_Nums_add_23 rfl rfl ?_
  refine V2_get (v := (0 : Int32)) d_Nums_add_24 fl_Nums_7 (by decide) rfl (by decide) rfl rfl ?_
  refine V2_iload_n (i := 1) d_Nums_add_27 rfl rfl ?_
  refine V2_iastore (j := 0) d_Nums_add_28 (by decide) rfl (xixA (n := 0) rfl (by decide) (by decide)) rfl ?_
  refine V2_aload_n (i := 0) d_Nums_add_29 rfl rfl ?_
  refine V2_dup d_Nums_add_30 rfl ?_
  refine V2_get (v := (0 : Int32)) d_Nums_add_31 fl_Nums_7 (by decide) rfl (by decide) rfl rfl ?_
  refine V2_iconst (v := 1) d_Nums_add_34 rfl ?_
  refine V2_iadd d_Nums_add_35 ?_
  refine V2_lit (v := 1) (by decide) ?_
  refine V2_put d_Nums_add_36 fl_Nums_7 (by decide) rfl (by decide) rfl ?_
  refine V2_return d_Nums_add_39 rfl ?_
  refine V2.to (st' := []) ?_ rfl rfl rfl rfl
  refine V2_aload_n (i := 0) d_Voi_says_37 rfl rfl ?_
  refine V2_iload (i := 5) d_Voi_says_38 rfl ?_
  refine V2_iload_n (i := 3) d_Voi_says_40 rfl rfl ?_
  refine V2_iload (i := 4) d_Voi_says_41 rfl ?_
  refine V2_iconst (v := 1) d_Voi_says_43 rfl ?_
  refine V2_iadd d_Voi_says_44 ?_
  refine V2_lit (v := 1) (by decide) ?_
  refine V2_callV [.int (12 : Int32), .int x, .int (1 : Int32)] d_Voi_says_45 rfl rfl lk_Voi_49 mo_Voi_worksOut (by decide) rfl rfl rfl (Nat.le_of_ble_eq_true rfl) (Nat.le_of_ble_eq_true rfl) ?_
  refine V2.to (l' := [some (.ref 52), some (.int (12 : Int32)), some (.int x), some (.int (1 : Int32))]) ?_ rfl rfl rfl rfl
  refine V2_iload_n (i := 1) d_Voi_worksOut_0 rfl rfl ?_
  refine V2_lookup (tgt := 137) (off := 136) d_Voi_worksOut_1 (by decide) (by decide +kernel) rfl ?_
  refine V2_aload_n (i := 0) d_Voi_worksOut_137 rfl rfl ?_
  refine V2_aload_n (i := 0) d_Voi_worksOut_138 rfl rfl ?_
  refine V2_get (v := (1 : Int32)) d_Voi_worksOut_139 fl_Voi_18 (by decide) rfl (by decide) rfl rfl ?_
  refine V2_iconst (v := 1) d_Voi_worksOut_142 rfl ?_
  refine V2_iload_n (i := 2) d_Voi_worksOut_143 rfl rfl ?_
  refine V2_iload_n (i := 3) d_Voi_worksOut_144 rfl rfl ?_
  refine V2_callV [.int (1 : Int32), .int (1 : Int32), .int x, .int (1 : Int32)] d_Voi_worksOut_145 rfl rfl lk_Voi_38 mo_Voi_says (by decide) rfl rfl rfl (Nat.le_of_ble_eq_true rfl) (Nat.le_of_ble_eq_true rfl) ?_
  refine V2.to (l' := [some (.ref 52), some (.int (1 : Int32)), some (.int (1 : Int32)), some (.int x), some (.int (1 : Int32)), none]) ?_ rfl rfl rfl rfl
  refine V2_iload_n (i := 1) d_Voi_says_0 rfl rfl ?_
  refine V2_iload_n (i := 2) d_Voi_says_1 rfl rfl ?_
  refine V2_callS [.int (1 : Int32), .int (1 : Int32)] d_Voi_says_2 rfl rfl lk_Voi_42 mo_Voi_bodyFrom (Nat.le_of_ble_eq_true rfl) (Nat.le_of_ble_eq_true rfl) ?_
  refine V2.to (l' := [some (.int (1 : Int32)), some (.int (1 : Int32)), none, none, none]) ?_ rfl rfl rfl rfl
  refine V2_iload_n (i := 0) d_Voi_bodyFrom_0 rfl rfl ?_
  refine V2_istore_n (i := 2) (l' := [some (.int (1 : Int32)), some (.int (1 : Int32)), some (.int (1 : Int32)), none, none]) d_Voi_bodyFrom_1 rfl (xst_i (Nat.le_of_ble_eq_true rfl) rfl rfl) ?_
  refine V2_iconst (v := 0) d_Voi_bodyFrom_2 rfl ?_
  refine V2_istore_n (i := 3) (l' := [some (.int (1 : Int32)), some (.int (1 : Int32)), some (.int (1 : Int32)), some (.int (0 : Int32)), none]) d_Voi_bodyFrom_3 rfl (xst_i (Nat.le_of_ble_eq_true rfl) rfl rfl) ?_
  refine V2_iload_n (i := 3) d_Voi_bodyFrom_4 rfl rfl ?_
  refine V2_getsB d_Voi_bodyFrom_5 gs_Voi_53 ?_
  refine V2_bodieslen d_Voi_bodyFrom_8 ?_
  refine V2_icmp_ge (tgt := 45) d_Voi_bodyFrom_9 rfl (fun c => (by first | exact absurd c (by decide) | exact absurd (by decide) c)) (fun _ => ?_)
  refine V2_iload_n (i := 2) d_Voi_bodyFrom_12 rfl rfl ?_
  refine V2_if_lt (tgt := 45) d_Voi_bodyFrom_13 rfl (fun c => (by first | exact absurd c (by decide) | exact absurd (by decide) c)) (fun _ => ?_)
  refine V2_iload_n (i := 2) d_Voi_bodyFrom_16 rfl rfl ?_
  refine V2_iconst (v := 4) d_Voi_bodyFrom_17 rfl ?_
  refine V2_imul d_Voi_bodyFrom_18 ?_
  refine V2_lit (v := 4) (by decide) ?_
  refine V2_iload_n (i := 1) d_Voi_bodyFrom_19 rfl rfl ?_
  refine V2_iadd d_Voi_bodyFrom_20 ?_
  refine V2_lit (v := 5) (by decide) ?_
  refine V2_callS [.int (5 : Int32)] d_Voi_bodyFrom_21 rfl rfl lk_Voi_57 mo_Voi_bodyAt (Nat.le_of_ble_eq_true rfl) (Nat.le_of_ble_eq_true rfl) ?_
  refine V2.to (l' := [some (.int (5 : Int32))]) ?_ rfl rfl rfl rfl
  refine V2_iload_n (i := 0) d_Voi_bodyAt_0 rfl rfl ?_
  refine V2_if_lt (tgt := 20) d_Voi_bodyAt_1 rfl (fun c => (by first | exact absurd c (by decide) | exact absurd (by decide) c)) (fun _ => ?_)
  refine V2_iload_n (i := 0) d_Voi_bodyAt_4 rfl rfl ?_
  refine V2_getsB d_Voi_bodyAt_5 gs_Voi_53 ?_
  refine V2_bodieslen d_Voi_bodyAt_8 ?_
  refine V2_icmp_ge (tgt := 20) d_Voi_bodyAt_9 rfl (fun c => (by first | exact absurd c (by decide) | exact absurd (by decide) c)) (fun _ => ?_)
  refine V2_getsB d_Voi_bodyAt_12 gs_Voi_53 ?_
  refine V2_iload_n (i := 0) d_Voi_bodyAt_15 rfl rfl ?_
  refine V2_bodies (v := 0) d_Voi_bodyAt_16 (xixA (n := 5) rfl (by decide) (by decide)) (by decide) ?_
  refine V2_goto (tgt := 21) d_Voi_bodyAt_17 rfl ?_
  refine V2_ireturn d_Voi_bodyAt_21 rfl ?_
  refine V2.to (st' := [.int (0 : Int32)]) ?_ rfl rfl rfl rfl
  refine V2_istore (i := 4) (l' := [some (.int (1 : Int32)), some (.int (1 : Int32)), some (.int (1 : Int32)), some (.int (0 : Int32)), some (.int (0 : Int32))]) d_Voi_bodyFrom_24 (xst_i (Nat.le_of_ble_eq_true rfl) rfl rfl) ?_
  refine V2_iload (i := 4) d_Voi_bodyFrom_26 rfl ?_
  refine V2_if_eq (tgt := 34) d_Voi_bodyFrom_28 rfl (fun _ => ?_) (fun c => (by first | exact absurd c (by decide) | exact absurd (by decide) c))
  refine V2_iload_n (i := 2) d_Voi_bodyFrom_34 rfl rfl ?_
  refine V2_callS [.int (1 : Int32)] d_Voi_bodyFrom_35 rfl rfl lk_Voi_61 mo_Kinds_above (Nat.le_of_ble_eq_true rfl) (Nat.le_of_ble_eq_true rfl) ?_
  refine V2.to (l' := [some (.int (1 : Int32))]) ?_ rfl rfl rfl rfl
  refine V2_iload_n (i := 0) d_Kinds_above_0 rfl rfl ?_
  refine V2_callS [.int (1 : Int32)] d_Kinds_above_1 rfl rfl lk_Kinds_13 mo_Kinds_isKind (Nat.le_of_ble_eq_true rfl) (Nat.le_of_ble_eq_true rfl) ?_
  refine V2.to (l' := [some (.int (1 : Int32))]) ?_ rfl rfl rfl rfl
  refine V2_iload_n (i := 0) d_Kinds_isKind_0 rfl rfl ?_
  refine V2_if_lt (tgt := 16) d_Kinds_isKind_1 rfl (fun c => (by first | exact absurd c (by decide) | exact absurd (by decide) c)) (fun _ => ?_)
  refine V2_iload_n (i := 0) d_Kinds_isKind_4 rfl rfl ?_
  refine V2_getsA d_Kinds_isKind_5 gs_Kinds_7 ?_
  refine V2_abovelen d_Kinds_isKind_8 ?_
  refine V2_icmp_ge (tgt := 16) d_Kinds_isKind_9 rfl (fun c => (by first | exact absurd c (by decide) | exact absurd (by decide) c)) (fun _ => ?_)
  refine V2_iconst (v := 1) d_Kinds_isKind_12 rfl ?_
  refine V2_goto (tgt := 17) d_Kinds_isKind_13 rfl ?_
  refine V2_zreturn d_Kinds_isKind_17 rfl (by decide) ?_
  refine V2.to (st' := [.int (1 : Int32)]) ?_ rfl rfl rfl rfl
  refine V2_if_eq (tgt := 15) d_Kinds_above_4 rfl (fun c => (by first | exact absurd c (by decide) | exact absurd (by decide) c)) (fun _ => ?_)
  refine V2_getsA d_Kinds_above_7 gs_Kinds_7 ?_
  refine V2_iload_n (i := 0) d_Kinds_above_10 rfl rfl ?_
  refine V2_above (v := 0) d_Kinds_above_11 (xixA (n := 1) rfl (by decide) (by decide)) (by decide) ?_
  refine V2_goto (tgt := 16) d_Kinds_above_12 rfl ?_
  refine V2_ireturn d_Kinds_above_16 rfl ?_
  refine V2.to (st' := [.int (0 : Int32)]) ?_ rfl rfl rfl rfl
  refine V2_istore_n (i := 2) (l' := [some (.int (1 : Int32)), some (.int (1 : Int32)), some (.int (0 : Int32)), some (.int (0 : Int32)), some (.int (0 : Int32))]) d_Voi_bodyFrom_38 rfl (xst_i (Nat.le_of_ble_eq_true rfl) rfl rfl) ?_
  refine V2_iinc (i := 3) (v := 1) (l' := [some (.int (1 : Int32)), some (.int (1 : Int32)), some (.int (0 : Int32)), some (.int (1 : Int32)), some (.int (0 : Int32))]) d_Voi_bodyFrom_39 rfl (by decide) (xst_i (Nat.le_of_ble_eq_true rfl) rfl rfl) ?_
  refine V2_goto (tgt := 4) d_Voi_bodyFrom_42 rfl ?_
  refine V2_iload_n (i := 3) d_Voi_bodyFrom_4 rfl rfl ?_
  refine V2_getsB d_Voi_bodyFrom_5 gs_Voi_53 ?_
  refine V2_bodieslen d_Voi_bodyFrom_8 ?_
  refine V2_icmp_ge (tgt := 45) d_Voi_bodyFrom_9 rfl (fun c => (by first | exact absurd c (by decide) | exact absurd (by decide) c)) (fun _ => ?_)
  refine V2_iload_n (i := 2) d_Voi_bodyFrom_12 rfl rfl ?_
  refine V2_if_lt (tgt := 45) d_Voi_bodyFrom_13 rfl (fun c => (by first | exact absurd c (by decide) | exact absurd (by decide) c)) (fun _ => ?_)
  refine V2_iload_n (i := 2) d_Voi_bodyFrom_16 rfl rfl ?_
  refine V2_iconst (v := 4) d_Voi_bodyFrom_17 rfl ?_
  refine V2_imul d_Voi_bodyFrom_18 ?_
  refine V2_lit (v := 0) (by decide) ?_
  refine V2_iload_n (i := 1) d_Voi_bodyFrom_19 rfl rfl ?_
  refine V2_iadd d_Voi_bodyFrom_20 ?_
  refine V2_lit (v := 1) (by decide) ?_
  refine V2_callS [.int (1 : Int32)] d_Voi_bodyFrom_21 rfl rfl lk_Voi_57 mo_Voi_bodyAt (Nat.le_of_ble_eq_true rfl) (Nat.le_of_ble_eq_true rfl) ?_
  refine V2.to (l' := [some (.int (1 : Int32))]) ?_ rfl rfl rfl rfl
  refine V2_iload_n (i := 0) d_Voi_bodyAt_0 rfl rfl ?_
  refine V2_if_lt (tgt := 20) d_Voi_bodyAt_1 rfl (fun c => (by first | exact absurd c (by decide) | exact absurd (by decide) c)) (fun _ => ?_)
  refine V2_iload_n (i := 0) d_Voi_bodyAt_4 rfl rfl ?_
  refine V2_getsB d_Voi_bodyAt_5 gs_Voi_53 ?_
  refine V2_bodieslen d_Voi_bodyAt_8 ?_
  refine V2_icmp_ge (tgt := 20) d_Voi_bodyAt_9 rfl (fun c => (by first | exact absurd c (by decide) | exact absurd (by decide) c)) (fun _ => ?_)
  refine V2_getsB d_Voi_bodyAt_12 gs_Voi_53 ?_
  refine V2_iload_n (i := 0) d_Voi_bodyAt_15 rfl rfl ?_
  refine V2_bodies (v := 11) d_Voi_bodyAt_16 (xixA (n := 1) rfl (by decide) (by decide)) (by decide) ?_
  refine V2_goto (tgt := 21) d_Voi_bodyAt_17 rfl ?_
  refine V2_ireturn d_Voi_bodyAt_21 rfl ?_
  refine V2.to (st' := [.int (11 : Int32)]) ?_ rfl rfl rfl rfl
  refine V2_istore (i := 4) (l' := [some (.int (1 : Int32)), some (.int (1 : Int32)), some (.int (0 : Int32)), some (.int (1 : Int32)), some (.int (11 : Int32))]) d_Voi_bodyFrom_24 (xst_i (Nat.le_of_ble_eq_true rfl) rfl rfl) ?_
  refine V2_iload (i := 4) d_Voi_bodyFrom_26 rfl ?_
  refine V2_if_eq (tgt := 34) d_Voi_bodyFrom_28 rfl (fun c => (by first | exact absurd c (by decide) | exact absurd (by decide) c)) (fun _ => ?_)
  refine V2_iload (i := 4) d_Voi_bodyFrom_31 rfl ?_
  refine V2_ireturn d_Voi_bodyFrom_33 rfl ?_
  refine V2.to (st' := [.int (11 : Int32)]) ?_ rfl rfl rfl rfl
  refine V2_istore (i := 5) (l' := [some (.ref 52), some (.int (1 : Int32)), some (.int (1 : Int32)), some (.int x), some (.int (1 : Int32)), some (.int (11 : Int32))]) d_Voi_says_5 (xst_i (Nat.le_of_ble_eq_true rfl) rfl rfl) ?_
  refine V2_aload_n (i := 0) d_Voi_says_7 rfl rfl ?_
  refine V2_get (v := (0 : Int32)) d_Voi_says_8 fl_Voi_31 (by decide) rfl (by decide) rfl rfl ?_
  refine V2_if_ne (tgt := 26) d_Voi_says_11 rfl (fun c => (by first | exact absurd c (by decide) | exact absurd (by decide) c)) (fun _ => ?_)
  refine V2_iload (i := 5) d_Voi_says_14 rfl ?_
  refine V2_if_eq (tgt := 26) d_Voi_says_16 rfl (fun c => (by first | exact absurd c (by decide) | exact absurd (by decide) c)) (fun _ => ?_)
  refine V2_iload (i := 4) d_Voi_says_19 rfl ?_
  refine V2_bipush (v := 30) d_Voi_says_21 rfl ?_
  refine V2_icmp_lt (tgt := 28) d_Voi_says_23 rfl (fun _ => ?_) (fun c => (by first | exact absurd c (by decide) | exact absurd (by decide) c))
  refine V2_aload_n (i := 0) d_Voi_says_28 rfl rfl ?_
  refine V2_getr (a := 53) d_Voi_says_29 fl_Voi_14 (by decide) rfl (by decide) rfl ?_
  refine V2_iload (i := 5) d_Voi_says_32 rfl ?_
  refine V2_callV [.int (11 : Int32)] d_Voi_says_34 rfl rfl lk_Voi_46 mo_Nums_add (by decide) rfl rfl rfl (Nat.le_of_ble_eq_true rfl) (Nat.le_of_ble_eq_true rfl) ?_
  refine V2.to (l' := [some (.ref 53), some (.int (11 : Int32))]) ?_ rfl rfl rfl rfl
  refine V2_aload_n (i := 0) d_Nums_add_0 rfl rfl ?_
  refine V2_get (v := (1 : Int32)) d_Nums_add_1 fl_Nums_7 (by decide) rfl (by decide) rfl rfl ?_
  refine V2_if_lt (tgt := 39) d_Nums_add_4 rfl (fun c => (by first | exact absurd c (by decide) | exact absurd (by decide) c)) (fun _ => ?_)
  refine V2_aload_n (i := 0) d_Nums_add_7 rfl rfl ?_
  refine V2_get (v := (1 : Int32)) d_Nums_add_8 fl_Nums_7 (by decide) rfl (by decide) rfl rfl ?_
  refine V2_aload_n (i := 0) d_Nums_add_11 rfl rfl ?_
  refine V2_getr (a := 54) d_Nums_add_12 fl_Nums_19 (by decide) rfl (by decide) rfl ?_
  refine V2_alen (t := 0) (v := 30) d_Nums_add_15 (by decide) rfl (by decide) rfl ?_
  refine V2_icmp_ge (tgt := 39) d_Nums_add_16 rfl (fun c => (by first | exact absurd c (by decide) | exact absurd (by decide) c)) (fun _ => ?_)
  refine V2_aload_n (i := 0) d_Nums_add_19 rfl rfl ?_
  refine V2_getr (a := 54) d_Nums_add_20 fl_Nums_19 (by decide) rfl (by decide) rfl ?_
  refine V2_aload_n (i := 0) d_Nums_add_23 rfl rfl ?_
  refine V2_get (v := (1 : Int32)) d_Nums_add_24 fl_Nums_7 (by decide) rfl (by decide) rfl rfl ?_
  refine V2_iload_n (i := 1) d_Nums_add_27 rfl rfl ?_
  refine V2_iastore (j := 1) d_Nums_add_28 (by decide) rfl (xixA (n := 1) rfl (by decide) (by decide)) rfl ?_
  refine V2_aload_n (i := 0) d_Nums_add_29 rfl rfl ?_
  refine V2_dup d_Nums_add_30 rfl ?_
  refine V2_get (v := (1 : Int32)) d_Nums_add_31 fl_Nums_7 (by decide) rfl (by decide) rfl rfl ?_
  refine V2_iconst (v := 1) d_Nums_add_34 rfl ?_
  refine V2_iadd d_Nums_add_35 ?_
  refine V2_lit (v := 2) (by decide) ?_
  refine V2_put d_Nums_add_36 fl_Nums_7 (by decide) rfl (by decide) rfl ?_
  refine V2_return d_Nums_add_39 rfl ?_
  refine V2.to (st' := []) ?_ rfl rfl rfl rfl
  refine V2_aload_n (i := 0) d_Voi_says_37 rfl rfl ?_
  refine V2_iload (i := 5) d_Voi_says_38 rfl ?_
  refine V2_iload_n (i := 3) d_Voi_says_40 rfl rfl ?_
  refine V2_iload (i := 4) d_Voi_says_41 rfl ?_
  refine V2_iconst (v := 1) d_Voi_says_43 rfl ?_
  refine V2_iadd d_Voi_says_44 ?_
  refine V2_lit (v := 2) (by decide) ?_
  refine V2_callV [.int (11 : Int32), .int x, .int (2 : Int32)] d_Voi_says_45 rfl rfl lk_Voi_49 mo_Voi_worksOut (by decide) rfl rfl rfl (Nat.le_of_ble_eq_true rfl) (Nat.le_of_ble_eq_true rfl) ?_
  refine V2.to (l' := [some (.ref 52), some (.int (11 : Int32)), some (.int x), some (.int (2 : Int32))]) ?_ rfl rfl rfl rfl
  refine V2_iload_n (i := 1) d_Voi_worksOut_0 rfl rfl ?_
  refine V2_lookup (tgt := 123) (off := 122) d_Voi_worksOut_1 (by decide) (by decide +kernel) rfl ?_
  refine V2_aload_n (i := 0) d_Voi_worksOut_123 rfl rfl ?_
  refine V2_aload_n (i := 0) d_Voi_worksOut_124 rfl rfl ?_
  refine V2_get (v := (1 : Int32)) d_Voi_worksOut_125 fl_Voi_18 (by decide) rfl (by decide) rfl rfl ?_
  refine V2_iconst (v := 0) d_Voi_worksOut_128 rfl ?_
  refine V2_iload_n (i := 2) d_Voi_worksOut_129 rfl rfl ?_
  refine V2_iload_n (i := 3) d_Voi_worksOut_130 rfl rfl ?_
  refine V2_callV [.int (1 : Int32), .int (0 : Int32), .int x, .int (2 : Int32)] d_Voi_worksOut_131 rfl rfl lk_Voi_38 mo_Voi_says (by decide) rfl rfl rfl (Nat.le_of_ble_eq_true rfl) (Nat.le_of_ble_eq_true rfl) ?_
  refine V2.to (l' := [some (.ref 52), some (.int (1 : Int32)), some (.int (0 : Int32)), some (.int x), some (.int (2 : Int32)), none]) ?_ rfl rfl rfl rfl
  refine V2_iload_n (i := 1) d_Voi_says_0 rfl rfl ?_
  refine V2_iload_n (i := 2) d_Voi_says_1 rfl rfl ?_
  refine V2_callS [.int (1 : Int32), .int (0 : Int32)] d_Voi_says_2 rfl rfl lk_Voi_42 mo_Voi_bodyFrom (Nat.le_of_ble_eq_true rfl) (Nat.le_of_ble_eq_true rfl) ?_
  refine V2.to (l' := [some (.int (1 : Int32)), some (.int (0 : Int32)), none, none, none]) ?_ rfl rfl rfl rfl
  refine V2_iload_n (i := 0) d_Voi_bodyFrom_0 rfl rfl ?_
  refine V2_istore_n (i := 2) (l' := [some (.int (1 : Int32)), some (.int (0 : Int32)), some (.int (1 : Int32)), none, none]) d_Voi_bodyFrom_1 rfl (xst_i (Nat.le_of_ble_eq_true rfl) rfl rfl) ?_
  refine V2_iconst (v := 0) d_Voi_bodyFrom_2 rfl ?_
  refine V2_istore_n (i := 3) (l' := [some (.int (1 : Int32)), some (.int (0 : Int32)), some (.int (1 : Int32)), some (.int (0 : Int32)), none]) d_Voi_bodyFrom_3 rfl (xst_i (Nat.le_of_ble_eq_true rfl) rfl rfl) ?_
  refine V2_iload_n (i := 3) d_Voi_bodyFrom_4 rfl rfl ?_
  refine V2_getsB d_Voi_bodyFrom_5 gs_Voi_53 ?_
  refine V2_bodieslen d_Voi_bodyFrom_8 ?_
  refine V2_icmp_ge (tgt := 45) d_Voi_bodyFrom_9 rfl (fun c => (by first | exact absurd c (by decide) | exact absurd (by decide) c)) (fun _ => ?_)
  refine V2_iload_n (i := 2) d_Voi_bodyFrom_12 rfl rfl ?_
  refine V2_if_lt (tgt := 45) d_Voi_bodyFrom_13 rfl (fun c => (by first | exact absurd c (by decide) | exact absurd (by decide) c)) (fun _ => ?_)
  refine V2_iload_n (i := 2) d_Voi_bodyFrom_16 rfl rfl ?_
  refine V2_iconst (v := 4) d_Voi_bodyFrom_17 rfl ?_
  refine V2_imul d_Voi_bodyFrom_18 ?_
  refine V2_lit (v := 4) (by decide) ?_
  refine V2_iload_n (i := 1) d_Voi_bodyFrom_19 rfl rfl ?_
  refine V2_iadd d_Voi_bodyFrom_20 ?_
  refine V2_lit (v := 4) (by decide) ?_
  refine V2_callS [.int (4 : Int32)] d_Voi_bodyFrom_21 rfl rfl lk_Voi_57 mo_Voi_bodyAt (Nat.le_of_ble_eq_true rfl) (Nat.le_of_ble_eq_true rfl) ?_
  refine V2.to (l' := [some (.int (4 : Int32))]) ?_ rfl rfl rfl rfl
  refine V2_iload_n (i := 0) d_Voi_bodyAt_0 rfl rfl ?_
  refine V2_if_lt (tgt := 20) d_Voi_bodyAt_1 rfl (fun c => (by first | exact absurd c (by decide) | exact absurd (by decide) c)) (fun _ => ?_)
  refine V2_iload_n (i := 0) d_Voi_bodyAt_4 rfl rfl ?_
  refine V2_getsB d_Voi_bodyAt_5 gs_Voi_53 ?_
  refine V2_bodieslen d_Voi_bodyAt_8 ?_
  refine V2_icmp_ge (tgt := 20) d_Voi_bodyAt_9 rfl (fun c => (by first | exact absurd c (by decide) | exact absurd (by decide) c)) (fun _ => ?_)
  refine V2_getsB d_Voi_bodyAt_12 gs_Voi_53 ?_
  refine V2_iload_n (i := 0) d_Voi_bodyAt_15 rfl rfl ?_
  refine V2_bodies (v := 20) d_Voi_bodyAt_16 (xixA (n := 4) rfl (by decide) (by decide)) (by decide) ?_
  refine V2_goto (tgt := 21) d_Voi_bodyAt_17 rfl ?_
  refine V2_ireturn d_Voi_bodyAt_21 rfl ?_
  refine V2.to (st' := [.int (20 : Int32)]) ?_ rfl rfl rfl rfl
  refine V2_istore (i := 4) (l' := [some (.int (1 : Int32)), some (.int (0 : Int32)), some (.int (1 : Int32)), some (.int (0 : Int32)), some (.int (20 : Int32))]) d_Voi_bodyFrom_24 (xst_i (Nat.le_of_ble_eq_true rfl) rfl rfl) ?_
  refine V2_iload (i := 4) d_Voi_bodyFrom_26 rfl ?_
  refine V2_if_eq (tgt := 34) d_Voi_bodyFrom_28 rfl (fun c => (by first | exact absurd c (by decide) | exact absurd (by decide) c)) (fun _ => ?_)
  refine V2_iload (i := 4) d_Voi_bodyFrom_31 rfl ?_
  refine V2_ireturn d_Voi_bodyFrom_33 rfl ?_
  refine V2.to (st' := [.int (20 : Int32)]) ?_ rfl rfl rfl rfl
  refine V2_istore (i := 5) (l' := [some (.ref 52), some (.int (1 : Int32)), some (.int (0 : Int32)), some (.int x), some (.int (2 : Int32)), some (.int (20 : Int32))]) d_Voi_says_5 (xst_i (Nat.le_of_ble_eq_true rfl) rfl rfl) ?_
  refine V2_aload_n (i := 0) d_Voi_says_7 rfl rfl ?_
  refine V2_get (v := (0 : Int32)) d_Voi_says_8 fl_Voi_31 (by decide) rfl (by decide) rfl rfl ?_
  refine V2_if_ne (tgt := 26) d_Voi_says_11 rfl (fun c => (by first | exact absurd c (by decide) | exact absurd (by decide) c)) (fun _ => ?_)
  refine V2_iload (i := 5) d_Voi_says_14 rfl ?_
  refine V2_if_eq (tgt := 26) d_Voi_says_16 rfl (fun c => (by first | exact absurd c (by decide) | exact absurd (by decide) c)) (fun _ => ?_)
  refine V2_iload (i := 4) d_Voi_says_19 rfl ?_
  refine V2_bipush (v := 30) d_Voi_says_21 rfl ?_
  refine V2_icmp_lt (tgt := 28) d_Voi_says_23 rfl (fun _ => ?_) (fun c => (by first | exact absurd c (by decide) | exact absurd (by decide) c))
  refine V2_aload_n (i := 0) d_Voi_says_28 rfl rfl ?_
  refine V2_getr (a := 53) d_Voi_says_29 fl_Voi_14 (by decide) rfl (by decide) rfl ?_
  refine V2_iload (i := 5) d_Voi_says_32 rfl ?_
  refine V2_callV [.int (20 : Int32)] d_Voi_says_34 rfl rfl lk_Voi_46 mo_Nums_add (by decide) rfl rfl rfl (Nat.le_of_ble_eq_true rfl) (Nat.le_of_ble_eq_true rfl) ?_
  refine V2.to (l' := [some (.ref 53), some (.int (20 : Int32))]) ?_ rfl rfl rfl rfl
  refine V2_aload_n (i := 0) d_Nums_add_0 rfl rfl ?_
  refine V2_get (v := (2 : Int32)) d_Nums_add_1 fl_Nums_7 (by decide) rfl (by decide) rfl rfl ?_
  refine V2_if_lt (tgt := 39) d_Nums_add_4 rfl (fun c => (by first | exact absurd c (by decide) | exact absurd (by decide) c)) (fun _ => ?_)
  refine V2_aload_n (i := 0) d_Nums_add_7 rfl rfl ?_
  refine V2_get (v := (2 : Int32)) d_Nums_add_8 fl_Nums_7 (by decide) rfl (by decide) rfl rfl ?_
  refine V2_aload_n (i := 0) d_Nums_add_11 rfl rfl ?_
  refine V2_getr (a := 54) d_Nums_add_12 fl_Nums_19 (by decide) rfl (by decide) rfl ?_
  refine V2_alen (t := 0) (v := 30) d_Nums_add_15 (by decide) rfl (by decide) rfl ?_
  refine V2_icmp_ge (tgt := 39) d_Nums_add_16 rfl (fun c => (by first | exact absurd c (by decide) | exact absurd (by decide) c)) (fun _ => ?_)
  refine V2_aload_n (i := 0) d_Nums_add_19 rfl rfl ?_
  refine V2_getr (a := 54) d_Nums_add_20 fl_Nums_19 (by decide) rfl (by decide) rfl ?_
  refine V2_aload_n (i := 0) d_Nums_add_23 rfl rfl ?_
  refine V2_get (v := (2 : Int32)) d_Nums_add_24 fl_Nums_7 (by decide) rfl (by decide) rfl rfl ?_
  refine V2_iload_n (i := 1) d_Nums_add_27 rfl rfl ?_
  refine V2_iastore (j := 2) d_Nums_add_28 (by decide) rfl (xixA (n := 2) rfl (by decide) (by decide)) rfl ?_
  refine V2_aload_n (i := 0) d_Nums_add_29 rfl rfl ?_
  refine V2_dup d_Nums_add_30 rfl ?_
  refine V2_get (v := (2 : Int32)) d_Nums_add_31 fl_Nums_7 (by decide) rfl (by decide) rfl rfl ?_
  refine V2_iconst (v := 1) d_Nums_add_34 rfl ?_
  refine V2_iadd d_Nums_add_35 ?_
  refine V2_lit (v := 3) (by decide) ?_
  refine V2_put d_Nums_add_36 fl_Nums_7 (by decide) rfl (by decide) rfl ?_
  refine V2_return d_Nums_add_39 rfl ?_
  refine V2.to (st' := []) ?_ rfl rfl rfl rfl
  refine V2_aload_n (i := 0) d_Voi_says_37 rfl rfl ?_
  refine V2_iload (i := 5) d_Voi_says_38 rfl ?_
  refine V2_iload_n (i := 3) d_Voi_says_40 rfl rfl ?_
  refine V2_iload (i := 4) d_Voi_says_41 rfl ?_
  refine V2_iconst (v := 1) d_Voi_says_43 rfl ?_
  refine V2_iadd d_Voi_says_44 ?_
  refine V2_lit (v := 3) (by decide) ?_
  refine V2_callV [.int (20 : Int32), .int x, .int (3 : Int32)] d_Voi_says_45 rfl rfl lk_Voi_49 mo_Voi_worksOut (by decide) rfl rfl rfl (Nat.le_of_ble_eq_true rfl) (Nat.le_of_ble_eq_true rfl) ?_
  refine V2.to (l' := [some (.ref 52), some (.int (20 : Int32)), some (.int x), some (.int (3 : Int32))]) ?_ rfl rfl rfl rfl
  refine V2_iload_n (i := 1) d_Voi_worksOut_0 rfl rfl ?_
  refine V2_lookup (tgt := 169) (off := 168) d_Voi_worksOut_1 (by decide) (by decide +kernel) rfl ?_
  refine V2_aload_n (i := 0) d_Voi_worksOut_169 rfl rfl ?_
  refine V2_iconst (v := 0) d_Voi_worksOut_170 rfl ?_
  refine V2_iconst (v := 0) d_Voi_worksOut_171 rfl ?_
  refine V2_iload_n (i := 2) d_Voi_worksOut_172 rfl rfl ?_
  refine V2_iload_n (i := 3) d_Voi_worksOut_173 rfl rfl ?_
  refine V2_callV [.int (0 : Int32), .int (0 : Int32), .int x, .int (3 : Int32)] d_Voi_worksOut_174 rfl rfl lk_Voi_38 mo_Voi_says (by decide) rfl rfl rfl (Nat.le_of_ble_eq_true rfl) (Nat.le_of_ble_eq_true rfl) ?_
  refine V2.to (l' := [some (.ref 52), some (.int (0 : Int32)), some (.int (0 : Int32)), some (.int x), some (.int (3 : Int32)), none]) ?_ rfl rfl rfl rfl
  refine V2_iload_n (i := 1) d_Voi_says_0 rfl rfl ?_
  refine V2_iload_n (i := 2) d_Voi_says_1 rfl rfl ?_
  refine V2_callS [.int (0 : Int32), .int (0 : Int32)] d_Voi_says_2 rfl rfl lk_Voi_42 mo_Voi_bodyFrom (Nat.le_of_ble_eq_true rfl) (Nat.le_of_ble_eq_true rfl) ?_
  refine V2.to (l' := [some (.int (0 : Int32)), some (.int (0 : Int32)), none, none, none]) ?_ rfl rfl rfl rfl
  refine V2_iload_n (i := 0) d_Voi_bodyFrom_0 rfl rfl ?_
  refine V2_istore_n (i := 2) (l' := [some (.int (0 : Int32)), some (.int (0 : Int32)), some (.int (0 : Int32)), none, none]) d_Voi_bodyFrom_1 rfl (xst_i (Nat.le_of_ble_eq_true rfl) rfl rfl) ?_
  refine V2_iconst (v := 0) d_Voi_bodyFrom_2 rfl ?_
  refine V2_istore_n (i := 3) (l' := [some (.int (0 : Int32)), some (.int (0 : Int32)), some (.int (0 : Int32)), some (.int (0 : Int32)), none]) d_Voi_bodyFrom_3 rfl (xst_i (Nat.le_of_ble_eq_true rfl) rfl rfl) ?_
  refine V2_iload_n (i := 3) d_Voi_bodyFrom_4 rfl rfl ?_
  refine V2_getsB d_Voi_bodyFrom_5 gs_Voi_53 ?_
  refine V2_bodieslen d_Voi_bodyFrom_8 ?_
  refine V2_icmp_ge (tgt := 45) d_Voi_bodyFrom_9 rfl (fun c => (by first | exact absurd c (by decide) | exact absurd (by decide) c)) (fun _ => ?_)
  refine V2_iload_n (i := 2) d_Voi_bodyFrom_12 rfl rfl ?_
  refine V2_if_lt (tgt := 45) d_Voi_bodyFrom_13 rfl (fun c => (by first | exact absurd c (by decide) | exact absurd (by decide) c)) (fun _ => ?_)
  refine V2_iload_n (i := 2) d_Voi_bodyFrom_16 rfl rfl ?_
  refine V2_iconst (v := 4) d_Voi_bodyFrom_17 rfl ?_
  refine V2_imul d_Voi_bodyFrom_18 ?_
  refine V2_lit (v := 0) (by decide) ?_
  refine V2_iload_n (i := 1) d_Voi_bodyFrom_19 rfl rfl ?_
  refine V2_iadd d_Voi_bodyFrom_20 ?_
  refine V2_lit (v := 0) (by decide) ?_
  refine V2_callS [.int (0 : Int32)] d_Voi_bodyFrom_21 rfl rfl lk_Voi_57 mo_Voi_bodyAt (Nat.le_of_ble_eq_true rfl) (Nat.le_of_ble_eq_true rfl) ?_
  refine V2.to (l' := [some (.int (0 : Int32))]) ?_ rfl rfl rfl rfl
  refine V2_iload_n (i := 0) d_Voi_bodyAt_0 rfl rfl ?_
  refine V2_if_lt (tgt := 20) d_Voi_bodyAt_1 rfl (fun c => (by first | exact absurd c (by decide) | exact absurd (by decide) c)) (fun _ => ?_)
  refine V2_iload_n (i := 0) d_Voi_bodyAt_4 rfl rfl ?_
  refine V2_getsB d_Voi_bodyAt_5 gs_Voi_53 ?_
  refine V2_bodieslen d_Voi_bodyAt_8 ?_
  refine V2_icmp_ge (tgt := 20) d_Voi_bodyAt_9 rfl (fun c => (by first | exact absurd c (by decide) | exact absurd (by decide) c)) (fun _ => ?_)
  refine V2_getsB d_Voi_bodyAt_12 gs_Voi_53 ?_
  refine V2_iload_n (i := 0) d_Voi_bodyAt_15 rfl rfl ?_
  refine V2_bodies (v := 10) d_Voi_bodyAt_16 (xixA (n := 0) rfl (by decide) (by decide)) (by decide) ?_
  refine V2_goto (tgt := 21) d_Voi_bodyAt_17 rfl ?_
  refine V2_ireturn d_Voi_bodyAt_21 rfl ?_
  refine V2.to (st' := [.int (10 : Int32)]) ?_ rfl rfl rfl rfl
  refine V2_istore (i := 4) (l' := [some (.int (0 : Int32)), some (.int (0 : Int32)), some (.int (0 : Int32)), some (.int (0 : Int32)), some (.int (10 : Int32))]) d_Voi_bodyFrom_24 (xst_i (Nat.le_of_ble_eq_true rfl) rfl rfl) ?_
  refine V2_iload (i := 4) d_Voi_bodyFrom_26 rfl ?_
  refine V2_if_eq (tgt := 34) d_Voi_bodyFrom_28 rfl (fun c => (by first | exact absurd c (by decide) | exact absurd (by decide) c)) (fun _ => ?_)
  refine V2_iload (i := 4) d_Voi_bodyFrom_31 rfl ?_
  refine V2_ireturn d_Voi_bodyFrom_33 rfl ?_
  refine V2.to (st' := [.int (10 : Int32)]) ?_ rfl rfl rfl rfl
  refine V2_istore (i := 5) (l' := [some (.ref 52), some (.int (0 : Int32)), some (.int (0 : Int32)), some (.int x), some (.int (3 : Int32)), some (.int (10 : Int32))]) d_Voi_says_5 (xst_i (Nat.le_of_ble_eq_true rfl) rfl rfl) ?_
  refine V2_aload_n (i := 0) d_Voi_says_7 rfl rfl ?_
  refine V2_get (v := (0 : Int32)) d_Voi_says_8 fl_Voi_31 (by decide) rfl (by decide) rfl rfl ?_
  refine V2_if_ne (tgt := 26) d_Voi_says_11 rfl (fun c => (by first | exact absurd c (by decide) | exact absurd (by decide) c)) (fun _ => ?_)
  refine V2_iload (i := 5) d_Voi_says_14 rfl ?_
  refine V2_if_eq (tgt := 26) d_Voi_says_16 rfl (fun c => (by first | exact absurd c (by decide) | exact absurd (by decide) c)) (fun _ => ?_)
  refine V2_iload (i := 4) d_Voi_says_19 rfl ?_
  refine V2_bipush (v := 30) d_Voi_says_21 rfl ?_
  refine V2_icmp_lt (tgt := 28) d_Voi_says_23 rfl (fun _ => ?_) (fun c => (by first | exact absurd c (by decide) | exact absurd (by decide) c))
  refine V2_aload_n (i := 0) d_Voi_says_28 rfl rfl ?_
  refine V2_getr (a := 53) d_Voi_says_29 fl_Voi_14 (by decide) rfl (by decide) rfl ?_
  refine V2_iload (i := 5) d_Voi_says_32 rfl ?_
  refine V2_callV [.int (10 : Int32)] d_Voi_says_34 rfl rfl lk_Voi_46 mo_Nums_add (by decide) rfl rfl rfl (Nat.le_of_ble_eq_true rfl) (Nat.le_of_ble_eq_true rfl) ?_
  refine V2.to (l' := [some (.ref 53), some (.int (10 : Int32))]) ?_ rfl rfl rfl rfl
  refine V2_aload_n (i := 0) d_Nums_add_0 rfl rfl ?_
  refine V2_get (v := (3 : Int32)) d_Nums_add_1 fl_Nums_7 (by decide) rfl (by decide) rfl rfl ?_
  refine V2_if_lt (tgt := 39) d_Nums_add_4 rfl (fun c => (by first | exact absurd c (by decide) | exact absurd (by decide) c)) (fun _ => ?_)
  refine V2_aload_n (i := 0) d_Nums_add_7 rfl rfl ?_
  refine V2_get (v := (3 : Int32)) d_Nums_add_8 fl_Nums_7 (by decide) rfl (by decide) rfl rfl ?_
  refine V2_aload_n (i := 0) d_Nums_add_11 rfl rfl ?_
  refine V2_getr (a := 54) d_Nums_add_12 fl_Nums_19 (by decide) rfl (by decide) rfl ?_
  refine V2_alen (t := 0) (v := 30) d_Nums_add_15 (by decide) rfl (by decide) rfl ?_
  refine V2_icmp_ge (tgt := 39) d_Nums_add_16 rfl (fun c => (by first | exact absurd c (by decide) | exact absurd (by decide) c)) (fun _ => ?_)
  refine V2_aload_n (i := 0) d_Nums_add_19 rfl rfl ?_
  refine V2_getr (a := 54) d_Nums_add_20 fl_Nums_19 (by decide) rfl (by decide) rfl ?_
  refine V2_aload_n (i := 0) d_Nums_add_23 rfl rfl ?_
  refine V2_get (v := (3 : Int32)) d_Nums_add_24 fl_Nums_7 (by decide) rfl (by decide) rfl rfl ?_
  refine V2_iload_n (i := 1) d_Nums_add_27 rfl rfl ?_
  refine V2_iastore (j := 3) d_Nums_add_28 (by decide) rfl (xixA (n := 3) rfl (by decide) (by decide)) rfl ?_
  refine V2_aload_n (i := 0) d_Nums_add_29 rfl rfl ?_
  refine V2_dup d_Nums_add_30 rfl ?_
  refine V2_get (v := (3 : Int32)) d_Nums_add_31 fl_Nums_7 (by decide) rfl (by decide) rfl rfl ?_
  refine V2_iconst (v := 1) d_Nums_add_34 rfl ?_
  refine V2_iadd d_Nums_add_35 ?_
  refine V2_lit (v := 4) (by decide) ?_
  refine V2_put d_Nums_add_36 fl_Nums_7 (by decide) rfl (by decide) rfl ?_
  refine V2_return d_Nums_add_39 rfl ?_
  refine V2.to (st' := []) ?_ rfl rfl rfl rfl
  refine V2_aload_n (i := 0) d_Voi_says_37 rfl rfl ?_
  refine V2_iload (i := 5) d_Voi_says_38 rfl ?_
  refine V2_iload_n (i := 3) d_Voi_says_40 rfl rfl ?_
  refine V2_iload (i := 4) d_Voi_says_41 rfl ?_
  refine V2_iconst (v := 1) d_Voi_says_43 rfl ?_
  refine V2_iadd d_Voi_says_44 ?_
  refine V2_lit (v := 4) (by decide) ?_
  refine V2_callV [.int (10 : Int32), .int x, .int (4 : Int32)] d_Voi_says_45 rfl rfl lk_Voi_49 mo_Voi_worksOut (by decide) rfl rfl rfl (Nat.le_of_ble_eq_true rfl) (Nat.le_of_ble_eq_true rfl) ?_
  refine V2.to (l' := [some (.ref 52), some (.int (10 : Int32)), some (.int x), some (.int (4 : Int32))]) ?_ rfl rfl rfl rfl
  refine V2_iload_n (i := 1) d_Voi_worksOut_0 rfl rfl ?_
  refine V2_lookup (tgt := 116) (off := 115) d_Voi_worksOut_1 (by decide) (by decide +kernel) rfl ?_
  refine V2_iload_n (i := 2) d_Voi_worksOut_116 rfl rfl ?_
  refine V2_aload_n (i := 0) d_Voi_worksOut_117 rfl rfl ?_
  refine V2_get (v := nI p) d_Voi_worksOut_118 fl_Voi_22 (by decide) rfl (by decide) rfl rfl ?_
  refine V2_topi (fun v5 ev5 => ?_)
  refine V2_iadd d_Voi_worksOut_121 ?_
  refine V2_topi (fun v6 ev6 => ?_)
  refine V2_ireturn d_Voi_worksOut_122 rfl ?_
  refine V2.to (st' := [.int v6]) ?_ rfl rfl rfl rfl
  refine V2_ireturn d_Voi_says_48 rfl ?_
  refine V2.to (st' := [.int v6]) ?_ rfl rfl rfl rfl
  refine V2_iconst (v := 4) d_Voi_worksOut_177 rfl ?_
  refine V2_isub d_Voi_worksOut_178 ?_
  refine V2_topi (fun v7 ev7 => ?_)
  refine V2_ireturn d_Voi_worksOut_179 rfl ?_
  refine V2.to (st' := [.int v7]) ?_ rfl rfl rfl rfl
  refine V2_ireturn d_Voi_says_48 rfl ?_
  refine V2.to (st' := [.int v7]) ?_ rfl rfl rfl rfl
  refine V2_iconst (v := 2) d_Voi_worksOut_134 rfl ?_
  refine V2_imul d_Voi_worksOut_135 ?_
  refine V2_topi (fun v8 ev8 => ?_)
  refine V2_ireturn d_Voi_worksOut_136 rfl ?_
  refine V2.to (st' := [.int v8]) ?_ rfl rfl rfl rfl
  refine V2_ireturn d_Voi_says_48 rfl ?_
  refine V2.to (st' := [.int v8]) ?_ rfl rfl rfl rfl
  refine V2_aload_n (i := 0) d_Voi_worksOut_148 rfl rfl ?_
  refine V2_get (v := mm) d_Voi_worksOut_149 fl_Voi_25 (by decide) rfl (by decide) rfl rfl ?_
  refine V2_isub d_Voi_worksOut_152 ?_
  refine V2_topi (fun v9 ev9 => ?_)
  refine V2_ireturn d_Voi_worksOut_153 rfl ?_
  refine V2.to (st' := [.int v9]) ?_ rfl rfl rfl rfl
  refine V2_ireturn d_Voi_says_48 rfl ?_
  refine V2.to (st' := [.int v9, .ref 52]) ?_ rfl rfl rfl rfl
  refine V2_put d_Voi_speaks_41 fl_Voi_28 (by decide) rfl (by decide) rfl ?_
  refine V2_aload_n (i := 0) d_Voi_speaks_44 rfl rfl ?_
  refine V2_get (v := (0 : Int32)) d_Voi_speaks_45 fl_Voi_31 (by decide) rfl (by decide) rfl rfl ?_
  refine V2_if_ne (tgt := 55) d_Voi_speaks_48 rfl (fun c => (by first | exact absurd c (by decide) | exact absurd (by decide) c)) (fun _ => ?_)
  refine V2_iconst (v := 1) d_Voi_speaks_51 rfl ?_
  refine V2_goto (tgt := 56) d_Voi_speaks_52 rfl ?_
  refine V2_zreturn d_Voi_speaks_56 rfl (by decide) ?_
  refine V2.to (st' := [.int (1 : Int32)]) ?_ rfl rfl rfl rfl
  refine V2_if_ne (tgt := 73) d_P_voice_63 rfl (fun _ => ?_) (fun c => (by first | exact absurd c (by decide) | exact absurd (by decide) c))
  refine V2_aload_n (i := 0) d_P_voice_73 rfl rfl ?_
  refine V2_getr (a := 52) d_P_voice_74 fl_P_43 (by decide) rfl (by decide) rfl ?_
  refine V2_callV [] d_P_voice_77 rfl rfl lk_P_297 mo_Voi_answer (by decide) rfl rfl rfl (Nat.le_of_ble_eq_true rfl) (Nat.le_of_ble_eq_true rfl) ?_
  refine V2.to (l' := [some (.ref 52)]) ?_ rfl rfl rfl rfl
  refine V2_aload_n (i := 0) d_Voi_answer_0 rfl rfl ?_
  refine V2_get (v := v9) d_Voi_answer_1 fl_Voi_28 (by decide) rfl (by decide) rfl rfl ?_
  refine V2_ireturn d_Voi_answer_4 rfl ?_
  refine V2.to (st' := [.int v9]) ?_ rfl rfl rfl rfl
  refine V2_ireturn d_P_voice_80 rfl ?_
  subst ev9 ev8 ev7 ev6 ev5 ev1
  exact xQi (hQ _ (mid_trace (n := 4) (b := (fun i => ([12, 11, 20, 10] : List Int32).getD i 0)) hR (by decide) (fun a h1 h2 h3 => by   repeat (first | rw [xp_row_ne h1] | rw [xp_row_ne h2] | rw [xp_row_ne h3]) ; try rfl) rfl (fun i hi => by rcases (show i = 0 ∨ i = 1 ∨ i = 2 ∨ i = 3 by omega) with h9 | h9 | h9 | h9 <;> subst h9 <;> rfl))) (by first | rfl | decide) rfl
theorem c_mv_1_2 {L : Nat} {xs : Nat → Int32} {d : Nat} {Q : Option Value → xF → Prop} {F : xF} {p : Nat} {x mm : Int32} {F0 : xF} (hR : Rel F0) (hp : p < PN (F0 66)) (ek : F0 66 (12 + 2 * p) = 1) (em : F0 66 (12 + 2 * p + 1) = mm) (hM : Mid F0 F (traceG F0 4 (fun i => ([12, 11, 20, 10] : List Int32).getD i 0))) (hQ : ∀ F2, Rel F2 → Q (some (.int ((((x + nI p) - 4) * 2) - mm))) F2) : V2 L xs (d + 40) m_R_voice 0 (xEntry [.ref 65, .int (nI p), .int (2 : Int32), .int x] 6) [] F Q := by
  have e66 : F 66 = F0 66 := hM.1 66 (by decide)
  obtain ⟨eP, hP6⟩ := inv_PN hR.2.1.2.2.1
  have s1 : (F 66 11 - 1).toInt = (PN (F0 66) : Int) - 1 := sub_any (n := PN (F0 66)) ((congrFun e66 11).trans eP) (by omega) (by decide)
  refine V2.to (l' := [some (.ref 65), some (.int (nI p)), some (.int (2 : Int32)), some (.int x), none, none]) ?_ rfl rfl rfl rfl
  refine V2_aload_n (i := 0) d_R_voice_0 rfl rfl ?_
  refine V2_iload_n (i := 1) d_R_voice_1 rfl rfl ?_
  refine V2_callV [.int (nI p)] d_R_voice_2 rfl rfl lk_R_168 mo_R_isPusher (by decide) rfl rfl rfl (Nat.le_of_ble_eq_true rfl) (Nat.le_of_ble_eq_true rfl) ?_
  refine c_R_isPusher ?_
  refine V2_topi (fun v1 ev1 => ?_)
  refine V2_if_eq (tgt := 17) d_R_voice_5 rfl (fun c2 => (by first | exact absurd c2 (show ¬ v1 = 0 from by subst ev1; exact xb_ne.mpr (by rw [toI_le, toI_le, s1, nI_toInt (by omega)]; have q0 : (0 : Int32).toInt = 0 := (by decide); omega)) | exact absurd (show ¬ v1 = 0 from by subst ev1; exact xb_ne.mpr (by rw [toI_le, toI_le, s1, nI_toInt (by omega)]; have q0 : (0 : Int32).toInt = 0 := (by decide); omega)) c2)) (fun c2 => ?_)
  refine V2_iload_n (i := 2) d_R_voice_8 rfl rfl ?_
  refine V2_iconst (v := 0) d_R_voice_9 rfl ?_
  refine V2_iconst (v := 3) d_R_voice_10 rfl ?_
  refine V2_callS [.int (2 : Int32), .int (0 : Int32), .int (3 : Int32)] d_R_voice_11 rfl rfl lk_R_51 mo_R_in (Nat.le_of_ble_eq_true rfl) (Nat.le_of_ble_eq_true rfl) ?_
  refine V2.to (l' := [some (.int (2 : Int32)), some (.int (0 : Int32)), some (.int (3 : Int32))]) ?_ rfl rfl rfl rfl
  refine V2_iload_n (i := 0) d_R_in_0 rfl rfl ?_
  refine V2_iload_n (i := 1) d_R_in_1 rfl rfl ?_
  refine V2_icmp_lt (tgt := 14) d_R_in_2 rfl (fun c => (by first | exact absurd c (by decide) | exact absurd (by decide) c)) (fun _ => ?_)
  refine V2_iload_n (i := 0) d_R_in_5 rfl rfl ?_
  refine V2_iload_n (i := 2) d_R_in_6 rfl rfl ?_
  refine V2_icmp_gt (tgt := 14) d_R_in_7 rfl (fun c => (by first | exact absurd c (by decide) | exact absurd (by decide) c)) (fun _ => ?_)
  refine V2_iconst (v := 1) d_R_in_10 rfl ?_
  refine V2_goto (tgt := 15) d_R_in_11 rfl ?_
  refine V2_zreturn d_R_in_15 rfl (by decide) ?_
  refine V2.to (st' := [.int (1 : Int32)]) ?_ rfl rfl rfl rfl
  refine V2_if_ne (tgt := 23) d_R_voice_14 rfl (fun _ => ?_) (fun c => (by first | exact absurd c (by decide) | exact absurd (by decide) c))
  refine V2_aload_n (i := 0) d_R_voice_23 rfl rfl ?_
  refine V2_iconst (v := 0) d_R_voice_24 rfl ?_
  refine V2_put d_R_voice_25 fl_R_227 (by decide) rfl (by decide) rfl ?_
  refine V2_aload_n (i := 0) d_R_voice_28 rfl rfl ?_
  refine V2_iload_n (i := 1) d_R_voice_29 rfl rfl ?_
  refine V2_put d_R_voice_30 fl_R_230 (by decide) rfl (by decide) rfl ?_
  refine V2_aload_n (i := 0) d_R_voice_33 rfl rfl ?_
  refine V2_iconst (v := 0) d_R_voice_34 rfl ?_
  refine V2_putz d_R_voice_35 fl_R_251 (by decide) rfl (by decide) rfl (by decide) ?_
  refine V2_aload_n (i := 0) d_R_voice_38 rfl rfl ?_
  refine V2_callV [] d_R_voice_39 rfl rfl lk_R_239 mo_R_kindNow (by decide) rfl rfl rfl (Nat.le_of_ble_eq_true rfl) (Nat.le_of_ble_eq_true rfl) ?_
  refine c_R_kindNow (p := p) (by omega) rfl ?_
  refine V2_lit (v := 1) (show F 66 (12 + 2 * p) = 1 from (congrFun e66 _).trans ek) ?_
  refine V2_istore (i := 4) (l' := [some (.ref 65), some (.int (nI p)), some (.int (2 : Int32)), some (.int x), some (.int (1 : Int32)), none]) d_R_voice_42 (xst_i (Nat.le_of_ble_eq_true rfl) rfl rfl) ?_
  refine V2_iload_n (i := 2) d_R_voice_44 rfl rfl ?_
  refine V2_if_ne (tgt := 58) d_R_voice_45 rfl (fun _ => ?_) (fun c => (by first | exact absurd c (by decide) | exact absurd (by decide) c))
  refine V2_iload_n (i := 2) d_R_voice_58 rfl rfl ?_
  refine V2_iconst (v := 1) d_R_voice_59 rfl ?_
  refine V2_icmp_ne (tgt := 73) d_R_voice_60 rfl (fun _ => ?_) (fun c => (by first | exact absurd c (by decide) | exact absurd (by decide) c))
  refine V2_iload_n (i := 2) d_R_voice_73 rfl rfl ?_
  refine V2_iconst (v := 2) d_R_voice_74 rfl ?_
  refine V2_icmp_ne (tgt := 88) d_R_voice_75 rfl (fun c => (by first | exact absurd c (by decide) | exact absurd (by decide) c)) (fun _ => ?_)
  refine V2_aload_n (i := 0) d_R_voice_78 rfl rfl ?_
  refine V2_iload (i := 4) d_R_voice_79 rfl ?_
  refine V2_iload_n (i := 3) d_R_voice_81 rfl rfl ?_
  refine V2_callV [.int (1 : Int32), .int x] d_R_voice_82 rfl rfl lk_R_248 mo_R_cursesAs (by decide) rfl rfl rfl (Nat.le_of_ble_eq_true rfl) (Nat.le_of_ble_eq_true rfl) ?_
  refine V2.to (l' := [some (.ref 65), some (.int (1 : Int32)), some (.int x)]) ?_ rfl rfl rfl rfl
  refine V2_iload_n (i := 1) d_R_cursesAs_0 rfl rfl ?_
  refine V2_tableIn (tgt := 96) (off := 95) d_R_cursesAs_1 (by decide) (by decide) (by decide) rfl ?_
  refine V2_aload_n (i := 0) d_R_cursesAs_96 rfl rfl ?_
  refine V2_iload_n (i := 1) d_R_cursesAs_97 rfl rfl ?_
  refine V2_callS [.int (1 : Int32)] d_R_cursesAs_98 rfl rfl lk_R_174 mo_R_above (Nat.le_of_ble_eq_true rfl) (Nat.le_of_ble_eq_true rfl) ?_
  refine V2.to (l' := [some (.int (1 : Int32))]) ?_ rfl rfl rfl rfl
  refine V2_iload_n (i := 0) d_R_above_0 rfl rfl ?_
  refine V2_iconst (v := 4) d_R_above_1 rfl ?_
  refine V2_icmp_ne (tgt := 9) d_R_above_2 rfl (fun _ => ?_) (fun c => (by first | exact absurd c (by decide) | exact absurd (by decide) c))
  refine V2_iload_n (i := 0) d_R_above_9 rfl rfl ?_
  refine V2_iconst (v := 5) d_R_above_10 rfl ?_
  refine V2_icmp_ne (tgt := 18) d_R_above_11 rfl (fun _ => ?_) (fun c => (by first | exact absurd c (by decide) | exact absurd (by decide) c))
  refine V2_iconst (v := 0) d_R_above_18 rfl ?_
  refine V2_ireturn d_R_above_19 rfl ?_
  refine V2.to (st' := [.int (0 : Int32), .ref 65]) ?_ rfl rfl rfl rfl
  refine V2_iload_n (i := 2) d_R_cursesAs_101 rfl rfl ?_
  refine V2_callV [.int (0 : Int32), .int x] d_R_cursesAs_102 rfl rfl lk_R_248 mo_R_cursesAs (by decide) rfl rfl rfl (Nat.le_of_ble_eq_true rfl) (Nat.le_of_ble_eq_true rfl) ?_
  refine V2.to (l' := [some (.ref 65), some (.int (0 : Int32)), some (.int x)]) ?_ rfl rfl rfl rfl
  refine V2_iload_n (i := 1) d_R_cursesAs_0 rfl rfl ?_
  refine V2_tableIn (tgt := 36) (off := 35) d_R_cursesAs_1 (by decide) (by decide) (by decide) rfl ?_
  refine V2_aload_n (i := 0) d_R_cursesAs_36 rfl rfl ?_
  refine V2_bipush (v := 12) d_R_cursesAs_37 rfl ?_
  refine V2_callV [.int (12 : Int32)] d_R_cursesAs_39 rfl rfl lk_R_233 mo_R_begins (by decide) rfl rfl rfl (Nat.le_of_ble_eq_true rfl) (Nat.le_of_ble_eq_true rfl) ?_
  refine V2.to (l' := [some (.ref 65), some (.int (12 : Int32))]) ?_ rfl rfl rfl rfl
  refine V2_aload_n (i := 0) d_R_begins_0 rfl rfl ?_
  refine V2_get (v := (0 : Int32)) d_R_begins_1 fl_R_227 (by decide) rfl (by decide) rfl rfl ?_
  refine V2_bipush (v := 30) d_R_begins_4 rfl ?_
  refine V2_icmp_ge (tgt := 29) d_R_begins_6 rfl (fun c => (by first | exact absurd c (by decide) | exact absurd (by decide) c)) (fun _ => ?_)
  refine V2_aload_n (i := 0) d_R_begins_9 rfl rfl ?_
  refine V2_getr (a := 73) d_R_begins_10 fl_R_35 (by decide) rfl (by decide) rfl ?_
  refine V2_aload_n (i := 0) d_R_begins_13 rfl rfl ?_
  refine V2_get (v := (0 : Int32)) d_R_begins_14 fl_R_227 (by decide) rfl (by decide) rfl rfl ?_
  refine V2_iload_n (i := 1) d_R_begins_17 rfl rfl ?_
  refine V2_iastore (j := 0) d_R_begins_18 (by decide) rfl (xixA (n := 0) rfl (by decide) (by decide)) rfl ?_
  refine V2_aload_n (i := 0) d_R_begins_19 rfl rfl ?_
  refine V2_dup d_R_begins_20 rfl ?_
  refine V2_get (v := (0 : Int32)) d_R_begins_21 fl_R_227 (by decide) rfl (by decide) rfl rfl ?_
  refine V2_iconst (v := 1) d_R_begins_24 rfl ?_
  refine V2_iadd d_R_begins_25 ?_
  refine V2_lit (v := 1) (by decide) ?_
  refine V2_put d_R_begins_26 fl_R_227 (by decide) rfl (by decide) rfl ?_
  refine V2_return d_R_begins_29 rfl ?_
  refine V2.to (st' := []) ?_ rfl rfl rfl rfl
  refine V2_aload_n (i := 0) d_R_cursesAs_42 rfl rfl ?_
  refine V2_aload_n (i := 0) d_R_cursesAs_43 rfl rfl ?_
  refine V2_callV [] d_R_cursesAs_44 rfl rfl lk_R_239 mo_R_kindNow (by decide) rfl rfl rfl (Nat.le_of_ble_eq_true rfl) (Nat.le_of_ble_eq_true rfl) ?_
  refine c_R_kindNow (p := p) (by omega) rfl ?_
  refine V2_lit (v := 1) (show F 66 (12 + 2 * p) = 1 from (congrFun e66 _).trans ek) ?_
  refine V2_iload_n (i := 2) d_R_cursesAs_47 rfl rfl ?_
  refine V2_callV [.int (1 : Int32), .int x] d_R_cursesAs_48 rfl rfl lk_R_242 mo_R_slipsAs (by decide) rfl rfl rfl (Nat.le_of_ble_eq_true rfl) (Nat.le_of_ble_eq_true rfl) ?_
  refine V2.to (l' := [some (.ref 65), some (.int (1 : Int32)), some (.int x)]) ?_ rfl rfl rfl rfl
  refine V2_iload_n (i := 1) d_R_slipsAs_0 rfl rfl ?_
  refine V2_tableIn (tgt := 120) (off := 119) d_R_slipsAs_1 (by decide) (by decide) (by decide) rfl ?_
  refine V2_aload_n (i := 0) d_R_slipsAs_120 rfl rfl ?_
  refine V2_iload_n (i := 1) d_R_slipsAs_121 rfl rfl ?_
  refine V2_callS [.int (1 : Int32)] d_R_slipsAs_122 rfl rfl lk_R_174 mo_R_above (Nat.le_of_ble_eq_true rfl) (Nat.le_of_ble_eq_true rfl) ?_
  refine V2.to (l' := [some (.int (1 : Int32))]) ?_ rfl rfl rfl rfl
  refine V2_iload_n (i := 0) d_R_above_0 rfl rfl ?_
  refine V2_iconst (v := 4) d_R_above_1 rfl ?_
  refine V2_icmp_ne (tgt := 9) d_R_above_2 rfl (fun _ => ?_) (fun c => (by first | exact absurd c (by decide) | exact absurd (by decide) c))
  refine V2_iload_n (i := 0) d_R_above_9 rfl rfl ?_
  refine V2_iconst (v := 5) d_R_above_10 rfl ?_
  refine V2_icmp_ne (tgt := 18) d_R_above_11 rfl (fun _ => ?_) (fun c => (by first | exact absurd c (by decide) | exact absurd (by decide) c))
  refine V2_iconst (v := 0) d_R_above_18 rfl ?_
  refine V2_ireturn d_R_above_19 rfl ?_
  refine V2.to (st' := [.int (0 : Int32), .ref 65]) ?_ rfl rfl rfl rfl
  refine V2_iload_n (i := 2) d_R_slipsAs_125 rfl rfl ?_
  refine V2_callV [.int (0 : Int32), .int x] d_R_slipsAs_126 rfl rfl lk_R_242 mo_R_slipsAs (by decide) rfl rfl rfl (Nat.le_of_ble_eq_true rfl) (Nat.le_of_ble_eq_true rfl) ?_
  refine V2.to (l' := [some (.ref 65), some (.int (0 : Int32)), some (.int x)]) ?_ rfl rfl rfl rfl
  refine V2_iload_n (i := 1) d_R_slipsAs_0 rfl rfl ?_
  refine V2_tableIn (tgt := 44) (off := 43) d_R_slipsAs_1 (by decide) (by decide) (by decide) rfl ?_
  refine V2_aload_n (i := 0) d_R_slipsAs_44 rfl rfl ?_
  refine V2_bipush (v := 11) d_R_slipsAs_45 rfl ?_
  refine V2_callV [.int (11 : Int32)] d_R_slipsAs_47 rfl rfl lk_R_233 mo_R_begins (by decide) rfl rfl rfl (Nat.le_of_ble_eq_true rfl) (Nat.le_of_ble_eq_true rfl) ?_
  refine V2.to (l' := [some (.ref 65), some (.int (11 : Int32))]) ?_ rfl rfl rfl rfl
  refine V2_aload_n (i := 0) d_R_begins_0 rfl rfl ?_
  refine V2_get (v := (1 : Int32)) d_R_begins_1 fl_R_227 (by decide) rfl (by decide) rfl rfl ?_
  refine V2_bipush (v := 30) d_R_begins_4 rfl ?_
  refine V2_icmp_ge (tgt := 29) d_R_begins_6 rfl (fun c => (by first | exact absurd c (by decide) | exact absurd (by decide) c)) (fun _ => ?_)
  refine V2_aload_n (i := 0) d_R_begins_9 rfl rfl ?_
  refine V2_getr (a := 73) d_R_begins_10 fl_R_35 (by decide) rfl (by decide) rfl ?_
  refine V2_aload_n (i := 0) d_R_begins_13 rfl rfl ?_
  refine V2_get (v := (1 : Int32)) d_R_begins_14 fl_R_227 (by decide) rfl (by decide) rfl rfl ?_
  refine V2_iload_n (i := 1) d_R_begins_17 rfl rfl ?_
  refine V2_iastore (j := 1) d_R_begins_18 (by decide) rfl (xixA (n := 1) rfl (by decide) (by decide)) rfl ?_
  refine V2_aload_n (i := 0) d_R_begins_19 rfl rfl ?_
  refine V2_dup d_R_begins_20 rfl ?_
  refine V2_get (v := (1 : Int32)) d_R_begins_21 fl_R_227 (by decide) rfl (by decide) rfl rfl ?_
  refine V2_iconst (v := 1) d_R_begins_24 rfl ?_
  refine V2_iadd d_R_begins_25 ?_
  refine V2_lit (v := 2) (by decide) ?_
  refine V2_put d_R_begins_26 fl_R_227 (by decide) rfl (by decide) rfl ?_
  refine V2_return d_R_begins_29 rfl ?_
  refine V2.to (st' := []) ?_ rfl rfl rfl rfl
  refine V2_aload_n (i := 0) d_R_slipsAs_50 rfl rfl ?_
  refine V2_aload_n (i := 0) d_R_slipsAs_51 rfl rfl ?_
  refine V2_callV [] d_R_slipsAs_52 rfl rfl lk_R_239 mo_R_kindNow (by decide) rfl rfl rfl (Nat.le_of_ble_eq_true rfl) (Nat.le_of_ble_eq_true rfl) ?_
  refine c_R_kindNow (p := p) (by omega) rfl ?_
  refine V2_lit (v := 1) (show F 66 (12 + 2 * p) = 1 from (congrFun e66 _).trans ek) ?_
  refine V2_iload_n (i := 2) d_R_slipsAs_55 rfl rfl ?_
  refine V2_callV [.int (1 : Int32), .int x] d_R_slipsAs_56 rfl rfl lk_R_236 mo_R_heavesAs (by decide) rfl rfl rfl (Nat.le_of_ble_eq_true rfl) (Nat.le_of_ble_eq_true rfl) ?_
  refine V2.to (l' := [some (.ref 65), some (.int (1 : Int32)), some (.int x)]) ?_ rfl rfl rfl rfl
  refine V2_iload_n (i := 1) d_R_heavesAs_0 rfl rfl ?_
  refine V2_tableIn (tgt := 57) (off := 56) d_R_heavesAs_1 (by decide) (by decide) (by decide) rfl ?_
  refine V2_aload_n (i := 0) d_R_heavesAs_57 rfl rfl ?_
  refine V2_bipush (v := 20) d_R_heavesAs_58 rfl ?_
  refine V2_callV [.int (20 : Int32)] d_R_heavesAs_60 rfl rfl lk_R_233 mo_R_begins (by decide) rfl rfl rfl (Nat.le_of_ble_eq_true rfl) (Nat.le_of_ble_eq_true rfl) ?_
  refine V2.to (l' := [some (.ref 65), some (.int (20 : Int32))]) ?_ rfl rfl rfl rfl
  refine V2_aload_n (i := 0) d_R_begins_0 rfl rfl ?_
  refine V2_get (v := (2 : Int32)) d_R_begins_1 fl_R_227 (by decide) rfl (by decide) rfl rfl ?_
  refine V2_bipush (v := 30) d_R_begins_4 rfl ?_
  refine V2_icmp_ge (tgt := 29) d_R_begins_6 rfl (fun c => (by first | exact absurd c (by decide) | exact absurd (by decide) c)) (fun _ => ?_)
  refine V2_aload_n (i := 0) d_R_begins_9 rfl rfl ?_
  refine V2_getr (a := 73) d_R_begins_10 fl_R_35 (by decide) rfl (by decide) rfl ?_
  refine V2_aload_n (i := 0) d_R_begins_13 rfl rfl ?_
  refine V2_get (v := (2 : Int32)) d_R_begins_14 fl_R_227 (by decide) rfl (by decide) rfl rfl ?_
  refine V2_iload_n (i := 1) d_R_begins_17 rfl rfl ?_
  refine V2_iastore (j := 2) d_R_begins_18 (by decide) rfl (xixA (n := 2) rfl (by decide) (by decide)) rfl ?_
  refine V2_aload_n (i := 0) d_R_begins_19 rfl rfl ?_
  refine V2_dup d_R_begins_20 rfl ?_
  refine V2_get (v := (2 : Int32)) d_R_begins_21 fl_R_227 (by decide) rfl (by decide) rfl rfl ?_
  refine V2_iconst (v := 1) d_R_begins_24 rfl ?_
  refine V2_iadd d_R_begins_25 ?_
  refine V2_lit (v := 3) (by decide) ?_
  refine V2_put d_R_begins_26 fl_R_227 (by decide) rfl (by decide) rfl ?_
  refine V2_return d_R_begins_29 rfl ?_
  refine V2.to (st' := []) ?_ rfl rfl rfl rfl
  refine V2_aload_n (i := 0) d_R_heavesAs_63 rfl rfl ?_
  refine V2_iconst (v := 1) d_R_heavesAs_64 rfl ?_
  refine V2_callS [.int (1 : Int32)] d_R_heavesAs_65 rfl rfl lk_R_174 mo_R_above (Nat.le_of_ble_eq_true rfl) (Nat.le_of_ble_eq_true rfl) ?_
  refine V2.to (l' := [some (.int (1 : Int32))]) ?_ rfl rfl rfl rfl
  refine V2_iload_n (i := 0) d_R_above_0 rfl rfl ?_
  refine V2_iconst (v := 4) d_R_above_1 rfl ?_
  refine V2_icmp_ne (tgt := 9) d_R_above_2 rfl (fun _ => ?_) (fun c => (by first | exact absurd c (by decide) | exact absurd (by decide) c))
  refine V2_iload_n (i := 0) d_R_above_9 rfl rfl ?_
  refine V2_iconst (v := 5) d_R_above_10 rfl ?_
  refine V2_icmp_ne (tgt := 18) d_R_above_11 rfl (fun _ => ?_) (fun c => (by first | exact absurd c (by decide) | exact absurd (by decide) c))
  refine V2_iconst (v := 0) d_R_above_18 rfl ?_
  refine V2_ireturn d_R_above_19 rfl ?_
  refine V2.to (st' := [.int (0 : Int32), .ref 65]) ?_ rfl rfl rfl rfl
  refine V2_iload_n (i := 2) d_R_heavesAs_68 rfl rfl ?_
  refine V2_callV [.int (0 : Int32), .int x] d_R_heavesAs_69 rfl rfl lk_R_236 mo_R_heavesAs (by decide) rfl rfl rfl (Nat.le_of_ble_eq_true rfl) (Nat.le_of_ble_eq_true rfl) ?_
  refine V2.to (l' := [some (.ref 65), some (.int (0 : Int32)), some (.int x)]) ?_ rfl rfl rfl rfl
  refine V2_iload_n (i := 1) d_R_heavesAs_0 rfl rfl ?_
  refine V2_tableIn (tgt := 44) (off := 43) d_R_heavesAs_1 (by decide) (by decide) (by decide) rfl ?_
  refine V2_aload_n (i := 0) d_R_heavesAs_44 rfl rfl ?_
  refine V2_bipush (v := 10) d_R_heavesAs_45 rfl ?_
  refine V2_callV [.int (10 : Int32)] d_R_heavesAs_47 rfl rfl lk_R_233 mo_R_begins (by decide) rfl rfl rfl (Nat.le_of_ble_eq_true rfl) (Nat.le_of_ble_eq_true rfl) ?_
  refine V2.to (l' := [some (.ref 65), some (.int (10 : Int32))]) ?_ rfl rfl rfl rfl
  refine V2_aload_n (i := 0) d_R_begins_0 rfl rfl ?_
  refine V2_get (v := (3 : Int32)) d_R_begins_1 fl_R_227 (by decide) rfl (by decide) rfl rfl ?_
  refine V2_bipush (v := 30) d_R_begins_4 rfl ?_
  refine V2_icmp_ge (tgt := 29) d_R_begins_6 rfl (fun c => (by first | exact absurd c (by decide) | exact absurd (by decide) c)) (fun _ => ?_)
  refine V2_aload_n (i := 0) d_R_begins_9 rfl rfl ?_
  refine V2_getr (a := 73) d_R_begins_10 fl_R_35 (by decide) rfl (by decide) rfl ?_
  refine V2_aload_n (i := 0) d_R_begins_13 rfl rfl ?_
  refine V2_get (v := (3 : Int32)) d_R_begins_14 fl_R_227 (by decide) rfl (by decide) rfl rfl ?_
  refine V2_iload_n (i := 1) d_R_begins_17 rfl rfl ?_
  refine V2_iastore (j := 3) d_R_begins_18 (by decide) rfl (xixA (n := 3) rfl (by decide) (by decide)) rfl ?_
  refine V2_aload_n (i := 0) d_R_begins_19 rfl rfl ?_
  refine V2_dup d_R_begins_20 rfl ?_
  refine V2_get (v := (3 : Int32)) d_R_begins_21 fl_R_227 (by decide) rfl (by decide) rfl rfl ?_
  refine V2_iconst (v := 1) d_R_begins_24 rfl ?_
  refine V2_iadd d_R_begins_25 ?_
  refine V2_lit (v := 4) (by decide) ?_
  refine V2_put d_R_begins_26 fl_R_227 (by decide) rfl (by decide) rfl ?_
  refine V2_return d_R_begins_29 rfl ?_
  refine V2.to (st' := []) ?_ rfl rfl rfl rfl
  refine V2_iload_n (i := 2) d_R_heavesAs_50 rfl rfl ?_
  refine V2_aload_n (i := 0) d_R_heavesAs_51 rfl rfl ?_
  refine V2_get (v := nI p) d_R_heavesAs_52 fl_R_230 (by decide) rfl (by decide) rfl rfl ?_
  refine V2_topi (fun v3 ev3 => ?_)
  refine V2_iadd d_R_heavesAs_55 ?_
  refine V2_topi (fun v4 ev4 => ?_)
  refine V2_ireturn d_R_heavesAs_56 rfl ?_
  refine V2.to (st' := [.int v4]) ?_ rfl rfl rfl rfl
  refine V2_iconst (v := 4) d_R_heavesAs_72 rfl ?_
  refine V2_isub d_R_heavesAs_73 ?_
  refine V2_topi (fun v5 ev5 => ?_)
  refine V2_ireturn d_R_heavesAs_74 rfl ?_
  refine V2.to (st' := [.int v5]) ?_ rfl rfl rfl rfl
  refine V2_iconst (v := 2) d_R_slipsAs_59 rfl ?_
  refine V2_imul d_R_slipsAs_60 ?_
  refine V2_topi (fun v6 ev6 => ?_)
  refine V2_ireturn d_R_slipsAs_61 rfl ?_
  refine V2.to (st' := [.int v6]) ?_ rfl rfl rfl rfl
  refine V2_ireturn d_R_slipsAs_129 rfl ?_
  refine V2.to (st' := [.int v6]) ?_ rfl rfl rfl rfl
  refine V2_aload_n (i := 0) d_R_cursesAs_51 rfl rfl ?_
  refine V2_callV [] d_R_cursesAs_52 rfl rfl lk_R_245 mo_R_mNow (by decide) rfl rfl rfl (Nat.le_of_ble_eq_true rfl) (Nat.le_of_ble_eq_true rfl) ?_
  refine V2.to (l' := [some (.ref 65)]) ?_ rfl rfl rfl rfl
  refine V2_aload_n (i := 0) d_R_mNow_0 rfl rfl ?_
  refine V2_aload_n (i := 0) d_R_mNow_1 rfl rfl ?_
  refine V2_get (v := nI p) d_R_mNow_2 fl_R_230 (by decide) rfl (by decide) rfl rfl ?_
  refine V2_topi (fun v7 ev7 => ?_)
  refine V2_iconst (v := 1) d_R_mNow_5 rfl ?_
  refine V2_callV [.int v7, .int (1 : Int32)] d_R_mNow_6 rfl rfl lk_R_114 mo_R_its (by decide) rfl rfl rfl (Nat.le_of_ble_eq_true rfl) (Nat.le_of_ble_eq_true rfl) ?_
  rw [ev7]
  refine c_R_its1 (p := p) (by omega) ?_
  refine V2_lit (v := mm) (show F 66 (12 + 2 * p + 1) = mm from (congrFun e66 _).trans em) ?_
  refine V2_ireturn d_R_mNow_9 rfl ?_
  refine V2.to (st' := [.int mm, .int v6]) ?_ rfl rfl rfl rfl
  refine V2_isub d_R_cursesAs_55 ?_
  refine V2_topi (fun v8 ev8 => ?_)
  refine V2_ireturn d_R_cursesAs_56 rfl ?_
  refine V2.to (st' := [.int v8]) ?_ rfl rfl rfl rfl
  refine V2_ireturn d_R_cursesAs_105 rfl ?_
  refine V2.to (st' := [.int v8]) ?_ rfl rfl rfl rfl
  refine V2_goto (tgt := 95) d_R_voice_85 rfl ?_
  refine V2_istore (i := 5) (l' := [some (.ref 65), some (.int (nI p)), some (.int (2 : Int32)), some (.int x), some (.int (1 : Int32)), some (.int v8)]) d_R_voice_95 (xst_i (Nat.le_of_ble_eq_true rfl) rfl rfl) ?_
  refine V2_aload_n (i := 0) d_R_voice_97 rfl rfl ?_
  refine V2_get (v := (0 : Int32)) d_R_voice_98 fl_R_251 (by decide) rfl (by decide) rfl rfl ?_
  refine V2_if_eq (tgt := 113) d_R_voice_101 rfl (fun _ => ?_) (fun c => (by first | exact absurd c (by decide) | exact absurd (by decide) c))
  refine V2_iload (i := 5) d_R_voice_113 rfl ?_
  refine V2_ireturn d_R_voice_115 rfl ?_
  subst ev8 ev7 ev6 ev5 ev4 ev3 ev1
  refine xQi (hQ _ (rel_trace (n := 4) (b := (fun i => ([12, 11, 20, 10] : List Int32).getD i 0)) hR (by decide) hM ?_ ?_ ?_ ?_ ?_)) ?_ rfl
  · intro a h1 h2
    repeat (first | rw [xp_row_ne h1] | rw [xp_row_ne h2])
    try rfl
  · rfl
  · rfl
  · rfl
  · exact (fun i hi => by rcases (show i = 0 ∨ i = 1 ∨ i = 2 ∨ i = 3 by omega) with h9 | h9 | h9 | h9 <;> subst h9 <;> rfl)
  · first | rfl | decide
theorem c_cv_1_3 {L : Nat} {xs : Nat → Int32} {d : Nat} {Q : Option Value → xF → Prop} {F : xF} {p : Nat} {x mm : Int32} (hR : Rel F) (hp : p < PN (F 66)) (ek : F 66 (12 + 2 * p) = 1) (em : F 66 (12 + 2 * p + 1) = mm) (hz : ¬ mm - nI p = 0) (hQ : ∀ F1, Mid F F1 (traceG F 5 (fun i => ([21, 13, 11, 20, 10] : List Int32).getD i 0)) → Q (some (.int ((x / (mm - nI p)) + (((1 + nI p) - 4) * 2)))) F1) : V2 L xs (d + 40) m_P_voice 0 (xEntry [.ref 0, .int (nI p), .int (3 : Int32), .int x] 5) [] F Q := by
  obtain ⟨eP, hP6⟩ := inv_PN hR.2.1.2.2.1
  refine V2.to (l' := [some (.ref 0), some (.int (nI p)), some (.int (3 : Int32)), some (.int x), none]) ?_ rfl rfl rfl rfl
  refine V2_aload_n (i := 0) d_P_voice_0 rfl rfl ?_
  refine V2_getr (a := 1) d_P_voice_1 fl_P_10 (by decide) rfl (by decide) rfl ?_
  refine V2_getr (a := 3) d_P_voice_4 fl_P_70 (by decide) rfl (by decide) rfl ?_
  refine V2_iload_n (i := 1) d_P_voice_7 rfl rfl ?_
  refine V2_callV [.int (nI p)] d_P_voice_8 rfl rfl lk_P_84 mo_Push_has (by decide) rfl rfl rfl (Nat.le_of_ble_eq_true rfl) (Nat.le_of_ble_eq_true rfl) ?_
  refine c_Push_has (P := PN (F 66)) (hR.1.1.2.1.1.trans eP) hP6 ?_
  refine V2_topi (fun v1 ev1 => ?_)
  refine V2_if_eq (tgt := 21) d_P_voice_11 rfl (fun c2 => (by first | exact absurd c2 (show ¬ v1 = 0 from by subst ev1; exact xb_ne.mpr ⟨nI_pos' (by omega), by rw [hR.1.1.2.1.1, eP]; exact nI_lt hp (by omega)⟩) | exact absurd (show ¬ v1 = 0 from by subst ev1; exact xb_ne.mpr ⟨nI_pos' (by omega), by rw [hR.1.1.2.1.1, eP]; exact nI_lt hp (by omega)⟩) c2)) (fun c2 => ?_)
  refine V2_iload_n (i := 2) d_P_voice_14 rfl rfl ?_
  refine V2_callS [.int (3 : Int32)] d_P_voice_15 rfl rfl lk_P_290 mo_Voi_isVoice (Nat.le_of_ble_eq_true rfl) (Nat.le_of_ble_eq_true rfl) ?_
  refine V2.to (l' := [some (.int (3 : Int32))]) ?_ rfl rfl rfl rfl
  refine V2_iload_n (i := 0) d_Voi_isVoice_0 rfl rfl ?_
  refine V2_if_lt (tgt := 13) d_Voi_isVoice_1 rfl (fun c => (by first | exact absurd c (by decide) | exact absurd (by decide) c)) (fun _ => ?_)
  refine V2_iload_n (i := 0) d_Voi_isVoice_4 rfl rfl ?_
  refine V2_iconst (v := 4) d_Voi_isVoice_5 rfl ?_
  refine V2_icmp_ge (tgt := 13) d_Voi_isVoice_6 rfl (fun c => (by first | exact absurd c (by decide) | exact absurd (by decide) c)) (fun _ => ?_)
  refine V2_iconst (v := 1) d_Voi_isVoice_9 rfl ?_
  refine V2_goto (tgt := 14) d_Voi_isVoice_10 rfl ?_
  refine V2_zreturn d_Voi_isVoice_14 rfl (by decide) ?_
  refine V2.to (st' := [.int (1 : Int32)]) ?_ rfl rfl rfl rfl
  refine V2_if_ne (tgt := 27) d_P_voice_18 rfl (fun _ => ?_) (fun c => (by first | exact absurd c (by decide) | exact absurd (by decide) c))
  refine V2_aload_n (i := 0) d_P_voice_27 rfl rfl ?_
  refine V2_getr (a := 1) d_P_voice_28 fl_P_10 (by decide) rfl (by decide) rfl ?_
  refine V2_getr (a := 3) d_P_voice_31 fl_P_70 (by decide) rfl (by decide) rfl ?_
  refine V2_iload_n (i := 1) d_P_voice_34 rfl rfl ?_
  refine V2_callV [.int (nI p)] d_P_voice_35 rfl rfl lk_P_87 mo_Push_kindOf (by decide) rfl rfl rfl (Nat.le_of_ble_eq_true rfl) (Nat.le_of_ble_eq_true rfl) ?_
  refine c_Push_kindOf (P := PN (F 66)) (hR.1.1.2.1.1.trans eP) (hR.1.1.2.1.2.1.trans eP) hP6 hp ?_
  refine V2_lit (v := 1) (((rel_relP hR).2.2.2 p hp).1.trans ek) ?_
  refine V2_istore (i := 4) (l' := [some (.ref 0), some (.int (nI p)), some (.int (3 : Int32)), some (.int x), some (.int (1 : Int32))]) d_P_voice_38 (xst_i (Nat.le_of_ble_eq_true rfl) rfl rfl) ?_
  refine V2_aload_n (i := 0) d_P_voice_40 rfl rfl ?_
  refine V2_getr (a := 52) d_P_voice_41 fl_P_43 (by decide) rfl (by decide) rfl ?_
  refine V2_iload (i := 4) d_P_voice_44 rfl ?_
  refine V2_iload_n (i := 1) d_P_voice_46 rfl rfl ?_
  refine V2_aload_n (i := 0) d_P_voice_47 rfl rfl ?_
  refine V2_getr (a := 1) d_P_voice_48 fl_P_10 (by decide) rfl (by decide) rfl ?_
  refine V2_getr (a := 3) d_P_voice_51 fl_P_70 (by decide) rfl (by decide) rfl ?_
  refine V2_iload_n (i := 1) d_P_voice_54 rfl rfl ?_
  refine V2_callV [.int (nI p)] d_P_voice_55 rfl rfl lk_P_90 mo_Push_levelOf (by decide) rfl rfl rfl (Nat.le_of_ble_eq_true rfl) (Nat.le_of_ble_eq_true rfl) ?_
  refine c_Push_levelOf (P := PN (F 66)) (hR.1.1.2.1.1.trans eP) (hR.1.1.2.1.2.1.trans eP) hP6 hp ?_
  refine V2_lit (v := mm) (((rel_relP hR).2.2.2 p hp).2.trans em) ?_
  refine V2_iload_n (i := 2) d_P_voice_58 rfl rfl ?_
  refine V2_iload_n (i := 3) d_P_voice_59 rfl rfl ?_
  refine V2_callV [.int (1 : Int32), .int (nI p), .int mm, .int (3 : Int32), .int x] d_P_voice_60 rfl rfl lk_P_293 mo_Voi_speaks (by decide) rfl rfl rfl (Nat.le_of_ble_eq_true rfl) (Nat.le_of_ble_eq_true rfl) ?_
  refine V2.to (l' := [some (.ref 52), some (.int (1 : Int32)), some (.int (nI p)), some (.int mm), some (.int (3 : Int32)), some (.int x)]) ?_ rfl rfl rfl rfl
  refine V2_aload_n (i := 0) d_Voi_speaks_0 rfl rfl ?_
  refine V2_iload_n (i := 1) d_Voi_speaks_1 rfl rfl ?_
  refine V2_put d_Voi_speaks_2 fl_Voi_18 (by decide) rfl (by decide) rfl ?_
  refine V2_aload_n (i := 0) d_Voi_speaks_5 rfl rfl ?_
  refine V2_iload_n (i := 2) d_Voi_speaks_6 rfl rfl ?_
  refine V2_put d_Voi_speaks_7 fl_Voi_22 (by decide) rfl (by decide) rfl ?_
  refine V2_aload_n (i := 0) d_Voi_speaks_10 rfl rfl ?_
  refine V2_iload_n (i := 3) d_Voi_speaks_11 rfl rfl ?_
  refine V2_put d_Voi_speaks_12 fl_Voi_25 (by decide) rfl (by decide) rfl ?_
  refine V2_aload_n (i := 0) d_Voi_speaks_15 rfl rfl ?_
  refine V2_iconst (v := 0) d_Voi_speaks_16 rfl ?_
  refine V2_putz d_Voi_speaks_17 fl_Voi_31 (by decide) rfl (by decide) rfl (by decide) ?_
  refine V2_aload_n (i := 0) d_Voi_speaks_20 rfl rfl ?_
  refine V2_getr (a := 53) d_Voi_speaks_21 fl_Voi_14 (by decide) rfl (by decide) rfl ?_
  refine V2_callV [] d_Voi_speaks_24 rfl rfl lk_Voi_35 mo_Nums_empty (by decide) rfl rfl rfl (Nat.le_of_ble_eq_true rfl) (Nat.le_of_ble_eq_true rfl) ?_
  refine V2.to (l' := [some (.ref 53)]) ?_ rfl rfl rfl rfl
  refine V2_aload_n (i := 0) d_Nums_empty_0 rfl rfl ?_
  refine V2_iconst (v := 0) d_Nums_empty_1 rfl ?_
  refine V2_put d_Nums_empty_2 fl_Nums_7 (by decide) rfl (by decide) rfl ?_
  refine V2_return d_Nums_empty_5 rfl ?_
  refine V2.to (st' := []) ?_ rfl rfl rfl rfl
  refine V2_aload_n (i := 0) d_Voi_speaks_27 rfl rfl ?_
  refine V2_aload_n (i := 0) d_Voi_speaks_28 rfl rfl ?_
  refine V2_aload_n (i := 0) d_Voi_speaks_29 rfl rfl ?_
  refine V2_get (v := (1 : Int32)) d_Voi_speaks_30 fl_Voi_18 (by decide) rfl (by decide) rfl rfl ?_
  refine V2_iload (i := 4) d_Voi_speaks_33 rfl ?_
  refine V2_iload (i := 5) d_Voi_speaks_35 rfl ?_
  refine V2_iconst (v := 0) d_Voi_speaks_37 rfl ?_
  refine V2_callV [.int (1 : Int32), .int (3 : Int32), .int x, .int (0 : Int32)] d_Voi_speaks_38 rfl rfl lk_Voi_38 mo_Voi_says (by decide) rfl rfl rfl (Nat.le_of_ble_eq_true rfl) (Nat.le_of_ble_eq_true rfl) ?_
  refine V2.to (l' := [some (.ref 52), some (.int (1 : Int32)), some (.int (3 : Int32)), some (.int x), some (.int (0 : Int32)), none]) ?_ rfl rfl rfl rfl
  refine V2_iload_n (i := 1) d_Voi_says_0 rfl rfl ?_
  refine V2_iload_n (i := 2) d_Voi_says_1 rfl rfl ?_
  refine V2_callS [.int (1 : Int32), .int (3 : Int32)] d_Voi_says_2 rfl rfl lk_Voi_42 mo_Voi_bodyFrom (Nat.le_of_ble_eq_true rfl) (Nat.le_of_ble_eq_true rfl) ?_
  refine V2.to (l' := [some (.int (1 : Int32)), some (.int (3 : Int32)), none, none, none]) ?_ rfl rfl rfl rfl
  refine V2_iload_n (i := 0) d_Voi_bodyFrom_0 rfl rfl ?_
  refine V2_istore_n (i := 2) (l' := [some (.int (1 : Int32)), some (.int (3 : Int32)), some (.int (1 : Int32)), none, none]) d_Voi_bodyFrom_1 rfl (xst_i (Nat.le_of_ble_eq_true rfl) rfl rfl) ?_
  refine V2_iconst (v := 0) d_Voi_bodyFrom_2 rfl ?_
  refine V2_istore_n (i := 3) (l' := [some (.int (1 : Int32)), some (.int (3 : Int32)), some (.int (1 : Int32)), some (.int (0 : Int32)), none]) d_Voi_bodyFrom_3 rfl (xst_i (Nat.le_of_ble_eq_true rfl) rfl rfl) ?_
  refine V2_iload_n (i := 3) d_Voi_bodyFrom_4 rfl rfl ?_
  refine V2_getsB d_Voi_bodyFrom_5 gs_Voi_53 ?_
  refine V2_bodieslen d_Voi_bodyFrom_8 ?_
  refine V2_icmp_ge (tgt := 45) d_Voi_bodyFrom_9 rfl (fun c => (by first | exact absurd c (by decide) | exact absurd (by decide) c)) (fun _ => ?_)
  refine V2_iload_n (i := 2) d_Voi_bodyFrom_12 rfl rfl ?_
  refine V2_if_lt (tgt := 45) d_Voi_bodyFrom_13 rfl (fun c => (by first | exact absurd c (by decide) | exact absurd (by decide) c)) (fun _ => ?_)
  refine V2_iload_n (i := 2) d_Voi_bodyFrom_16 rfl rfl ?_
  refine V2_iconst (v := 4) d_Voi_bodyFrom_17 rfl ?_
  refine V2_imul d_Voi_bodyFrom_18 ?_
  refine V2_lit (v := 4) (by decide) ?_
  refine V2_iload_n (i := 1) d_Voi_bodyFrom_19 rfl rfl ?_
  refine V2_iadd d_Voi_bodyFrom_20 ?_
  refine V2_lit (v := 7) (by decide) ?_
  refine V2_callS [.int (7 : Int32)] d_Voi_bodyFrom_21 rfl rfl lk_Voi_57 mo_Voi_bodyAt (Nat.le_of_ble_eq_true rfl) (Nat.le_of_ble_eq_true rfl) ?_
  refine V2.to (l' := [some (.int (7 : Int32))]) ?_ rfl rfl rfl rfl
  refine V2_iload_n (i := 0) d_Voi_bodyAt_0 rfl rfl ?_
  refine V2_if_lt (tgt := 20) d_Voi_bodyAt_1 rfl (fun c => (by first | exact absurd c (by decide) | exact absurd (by decide) c)) (fun _ => ?_)
  refine V2_iload_n (i := 0) d_Voi_bodyAt_4 rfl rfl ?_
  refine V2_getsB d_Voi_bodyAt_5 gs_Voi_53 ?_
  refine V2_bodieslen d_Voi_bodyAt_8 ?_
  refine V2_icmp_ge (tgt := 20) d_Voi_bodyAt_9 rfl (fun c => (by first | exact absurd c (by decide) | exact absurd (by decide) c)) (fun _ => ?_)
  refine V2_getsB d_Voi_bodyAt_12 gs_Voi_53 ?_
  refine V2_iload_n (i := 0) d_Voi_bodyAt_15 rfl rfl ?_
  refine V2_bodies (v := 21) d_Voi_bodyAt_16 (xixA (n := 7) rfl (by decide) (by decide)) (by decide) ?_
  refine V2_goto (tgt := 21) d_Voi_bodyAt_17 rfl ?_
  refine V2_ireturn d_Voi_bodyAt_21 rfl ?_
  refine V2.to (st' := [.int (21 : Int32)]) ?_ rfl rfl rfl rfl
  refine V2_istore (i := 4) (l' := [some (.int (1 : Int32)), some (.int (3 : Int32)), some (.int (1 : Int32)), some (.int (0 : Int32)), some (.int (21 : Int32))]) d_Voi_bodyFrom_24 (xst_i (Nat.le_of_ble_eq_true rfl) rfl rfl) ?_
  refine V2_iload (i := 4) d_Voi_bodyFrom_26 rfl ?_
  refine V2_if_eq (tgt := 34) d_Voi_bodyFrom_28 rfl (fun c => (by first | exact absurd c (by decide) | exact absurd (by decide) c)) (fun _ => ?_)
  refine V2_iload (i := 4) d_Voi_bodyFrom_31 rfl ?_
  refine V2_ireturn d_Voi_bodyFrom_33 rfl ?_
  refine V2.to (st' := [.int (21 : Int32)]) ?_ rfl rfl rfl rfl
  refine V2_istore (i := 5) (l' := [some (.ref 52), some (.int (1 : Int32)), some (.int (3 : Int32)), some (.int x), some (.int (0 : Int32)), some (.int (21 : Int32))]) d_Voi_says_5 (xst_i (Nat.le_of_ble_eq_true rfl) rfl rfl) ?_
  refine V2_aload_n (i := 0) d_Voi_says_7 rfl rfl ?_
  refine V2_get (v := (0 : Int32)) d_Voi_says_8 fl_Voi_31 (by decide) rfl (by decide) rfl rfl ?_
  refine V2_if_ne (tgt := 26) d_Voi_says_11 rfl (fun c => (by first | exact absurd c (by decide) | exact absurd (by decide) c)) (fun _ => ?_)
  refine V2_iload (i := 5) d_Voi_says_14 rfl ?_
  refine V2_if_eq (tgt := 26) d_Voi_says_16 rfl (fun c => (by first | exact absurd c (by decide) | exact absurd (by decide) c)) (fun _ => ?_)
  refine V2_iload (i := 4) d_Voi_says_19 rfl ?_
  refine V2_bipush (v := 30) d_Voi_says_21 rfl ?_
  refine V2_icmp_lt (tgt := 28) d_Voi_says_23 rfl (fun _ => ?_) (fun c => (by first | exact absurd c (by decide) | exact absurd (by decide) c))
  refine V2_aload_n (i := 0) d_Voi_says_28 rfl rfl ?_
  refine V2_getr (a := 53) d_Voi_says_29 fl_Voi_14 (by decide) rfl (by decide) rfl ?_
  refine V2_iload (i := 5) d_Voi_says_32 rfl ?_
  refine V2_callV [.int (21 : Int32)] d_Voi_says_34 rfl rfl lk_Voi_46 mo_Nums_add (by decide) rfl rfl rfl (Nat.le_of_ble_eq_true rfl) (Nat.le_of_ble_eq_true rfl) ?_
  refine V2.to (l' := [some (.ref 53), some (.int (21 : Int32))]) ?_ rfl rfl rfl rfl
  refine V2_aload_n (i := 0) d_Nums_add_0 rfl rfl ?_
  refine V2_get (v := (0 : Int32)) d_Nums_add_1 fl_Nums_7 (by decide) rfl (by decide) rfl rfl ?_
  refine V2_if_lt (tgt := 39) d_Nums_add_4 rfl (fun c => (by first | exact absurd c (by decide) | exact absurd (by decide) c)) (fun _ => ?_)
  refine V2_aload_n (i := 0) d_Nums_add_7 rfl rfl ?_
  refine V2_get (v := (0 : Int32)) d_Nums_add_8 fl_Nums_7 (by decide) rfl (by decide) rfl rfl ?_
  refine V2_aload_n (i := 0) d_Nums_add_11 rfl rfl ?_
  refine V2_getr (a := 54) d_Nums_add_12 fl_Nums_19 (by decide) rfl (by decide) rfl ?_
  refine V2_alen (t := 0) (v := 30) d_Nums_add_15 (by decide) rfl (by decide) rfl ?_
  refine V2_icmp_ge (tgt := 39) d_Nums_add_16 rfl (fun c => (by first | exact absurd c (by decide) | exact absurd (by decide) c)) (fun _ => ?_)
  refine V2_aload_n (i := 0) d_Nums_add_19 rfl rfl ?_
  refine V2_getr (a := 54) d_Nums_add_20 fl_Nums_19 (by decide) rfl (by decide) rfl ?_
  refine V2_aload_n (i := 0) d_Nums_add_23 rfl rfl ?_
  refine V2_get (v := (0 : Int32)) d_Nums_add_24 fl_Nums_7 (by decide) rfl (by decide) rfl rfl ?_
  refine V2_iload_n (i := 1) d_Nums_add_27 rfl rfl ?_
  refine V2_iastore (j := 0) d_Nums_add_28 (by decide) rfl (xixA (n := 0) rfl (by decide) (by decide)) rfl ?_
  refine V2_aload_n (i := 0) d_Nums_add_29 rfl rfl ?_
  refine V2_dup d_Nums_add_30 rfl ?_
  refine V2_get (v := (0 : Int32)) d_Nums_add_31 fl_Nums_7 (by decide) rfl (by decide) rfl rfl ?_
  refine V2_iconst (v := 1) d_Nums_add_34 rfl ?_
  refine V2_iadd d_Nums_add_35 ?_
  refine V2_lit (v := 1) (by decide) ?_
  refine V2_put d_Nums_add_36 fl_Nums_7 (by decide) rfl (by decide) rfl ?_
  refine V2_return d_Nums_add_39 rfl ?_
  refine V2.to (st' := []) ?_ rfl rfl rfl rfl
  refine V2_aload_n (i := 0) d_Voi_says_37 rfl rfl ?_
  refine V2_iload (i := 5) d_Voi_says_38 rfl ?_
  refine V2_iload_n (i := 3) d_Voi_says_40 rfl rfl ?_
  refine V2_iload (i := 4) d_Voi_says_41 rfl ?_
  refine V2_iconst (v := 1) d_Voi_says_43 rfl ?_
  refine V2_iadd d_Voi_says_44 ?_
  refine V2_lit (v := 1) (by decide) ?_
  refine V2_callV [.int (21 : Int32), .int x, .int (1 : Int32)] d_Voi_says_45 rfl rfl lk_Voi_49 mo_Voi_worksOut (by decide) rfl rfl rfl (Nat.le_of_ble_eq_true rfl) (Nat.le_of_ble_eq_true rfl) ?_
  refine V2.to (l' := [some (.ref 52), some (.int (21 : Int32)), some (.int x), some (.int (1 : Int32))]) ?_ rfl rfl rfl rfl
  refine V2_iload_n (i := 1) d_Voi_worksOut_0 rfl rfl ?_
  refine V2_lookup (tgt := 180) (off := 179) d_Voi_worksOut_1 (by decide) (by decide +kernel) rfl ?_
  refine V2_aload_n (i := 0) d_Voi_worksOut_180 rfl rfl ?_
  refine V2_iconst (v := 0) d_Voi_worksOut_181 rfl ?_
  refine V2_iconst (v := 3) d_Voi_worksOut_182 rfl ?_
  refine V2_iload_n (i := 2) d_Voi_worksOut_183 rfl rfl ?_
  refine V2_iload_n (i := 3) d_Voi_worksOut_184 rfl rfl ?_
  refine V2_callV [.int (0 : Int32), .int (3 : Int32), .int x, .int (1 : Int32)] d_Voi_worksOut_185 rfl rfl lk_Voi_38 mo_Voi_says (by decide) rfl rfl rfl (Nat.le_of_ble_eq_true rfl) (Nat.le_of_ble_eq_true rfl) ?_
  refine V2.to (l' := [some (.ref 52), some (.int (0 : Int32)), some (.int (3 : Int32)), some (.int x), some (.int (1 : Int32)), none]) ?_ rfl rfl rfl rfl
  refine V2_iload_n (i := 1) d_Voi_says_0 rfl rfl ?_
  refine V2_iload_n (i := 2) d_Voi_says_1 rfl rfl ?_
  refine V2_callS [.int (0 : Int32), .int (3 : Int32)] d_Voi_says_2 rfl rfl lk_Voi_42 mo_Voi_bodyFrom (Nat.le_of_ble_eq_true rfl) (Nat.le_of_ble_eq_true rfl) ?_
  refine V2.to (l' := [some (.int (0 : Int32)), some (.int (3 : Int32)), none, none, none]) ?_ rfl rfl rfl rfl
  refine V2_iload_n (i := 0) d_Voi_bodyFrom_0 rfl rfl ?_
  refine V2_istore_n (i := 2) (l' := [some (.int (0 : Int32)), some (.int (3 : Int32)), some (.int (0 : Int32)), none, none]) d_Voi_bodyFrom_1 rfl (xst_i (Nat.le_of_ble_eq_true rfl) rfl rfl) ?_
  refine V2_iconst (v := 0) d_Voi_bodyFrom_2 rfl ?_
  refine V2_istore_n (i := 3) (l' := [some (.int (0 : Int32)), some (.int (3 : Int32)), some (.int (0 : Int32)), some (.int (0 : Int32)), none]) d_Voi_bodyFrom_3 rfl (xst_i (Nat.le_of_ble_eq_true rfl) rfl rfl) ?_
  refine V2_iload_n (i := 3) d_Voi_bodyFrom_4 rfl rfl ?_
  refine V2_getsB d_Voi_bodyFrom_5 gs_Voi_53 ?_
  refine V2_bodieslen d_Voi_bodyFrom_8 ?_
  refine V2_icmp_ge (tgt := 45) d_Voi_bodyFrom_9 rfl (fun c => (by first | exact absurd c (by decide) | exact absurd (by decide) c)) (fun _ => ?_)
  refine V2_iload_n (i := 2) d_Voi_bodyFrom_12 rfl rfl ?_
  refine V2_if_lt (tgt := 45) d_Voi_bodyFrom_13 rfl (fun c => (by first | exact absurd c (by decide) | exact absurd (by decide) c)) (fun _ => ?_)
  refine V2_iload_n (i := 2) d_Voi_bodyFrom_16 rfl rfl ?_
  refine V2_iconst (v := 4) d_Voi_bodyFrom_17 rfl ?_
  refine V2_imul d_Voi_bodyFrom_18 ?_
  refine V2_lit (v := 0) (by decide) ?_
  refine V2_iload_n (i := 1) d_Voi_bodyFrom_19 rfl rfl ?_
  refine V2_iadd d_Voi_bodyFrom_20 ?_
  refine V2_lit (v := 3) (by decide) ?_
  refine V2_callS [.int (3 : Int32)] d_Voi_bodyFrom_21 rfl rfl lk_Voi_57 mo_Voi_bodyAt (Nat.le_of_ble_eq_true rfl) (Nat.le_of_ble_eq_true rfl) ?_
  refine V2.to (l' := [some (.int (3 : Int32))]) ?_ rfl rfl rfl rfl
  refine V2_iload_n (i := 0) d_Voi_bodyAt_0 rfl rfl ?_
  refine V2_if_lt (tgt := 20) d_Voi_bodyAt_1 rfl (fun c => (by first | exact absurd c (by decide) | exact absurd (by decide) c)) (fun _ => ?_)
  refine V2_iload_n (i := 0) d_Voi_bodyAt_4 rfl rfl ?_
  refine V2_getsB d_Voi_bodyAt_5 gs_Voi_53 ?_
  refine V2_bodieslen d_Voi_bodyAt_8 ?_
  refine V2_icmp_ge (tgt := 20) d_Voi_bodyAt_9 rfl (fun c => (by first | exact absurd c (by decide) | exact absurd (by decide) c)) (fun _ => ?_)
  refine V2_getsB d_Voi_bodyAt_12 gs_Voi_53 ?_
  refine V2_iload_n (i := 0) d_Voi_bodyAt_15 rfl rfl ?_
  refine V2_bodies (v := 13) d_Voi_bodyAt_16 (xixA (n := 3) rfl (by decide) (by decide)) (by decide) ?_
  refine V2_goto (tgt := 21) d_Voi_bodyAt_17 rfl ?_
  refine V2_ireturn d_Voi_bodyAt_21 rfl ?_
  refine V2.to (st' := [.int (13 : Int32)]) ?_ rfl rfl rfl rfl
  refine V2_istore (i := 4) (l' := [some (.int (0 : Int32)), some (.int (3 : Int32)), some (.int (0 : Int32)), some (.int (0 : Int32)), some (.int (13 : Int32))]) d_Voi_bodyFrom_24 (xst_i (Nat.le_of_ble_eq_true rfl) rfl rfl) ?_
  refine V2_iload (i := 4) d_Voi_bodyFrom_26 rfl ?_
  refine V2_if_eq (tgt := 34) d_Voi_bodyFrom_28 rfl (fun c => (by first | exact absurd c (by decide) | exact absurd (by decide) c)) (fun _ => ?_)
  refine V2_iload (i := 4) d_Voi_bodyFrom_31 rfl ?_
  refine V2_ireturn d_Voi_bodyFrom_33 rfl ?_
  refine V2.to (st' := [.int (13 : Int32)]) ?_ rfl rfl rfl rfl
  refine V2_istore (i := 5) (l' := [some (.ref 52), some (.int (0 : Int32)), some (.int (3 : Int32)), some (.int x), some (.int (1 : Int32)), some (.int (13 : Int32))]) d_Voi_says_5 (xst_i (Nat.le_of_ble_eq_true rfl) rfl rfl) ?_
  refine V2_aload_n (i := 0) d_Voi_says_7 rfl rfl ?_
  refine V2_get (v := (0 : Int32)) d_Voi_says_8 fl_Voi_31 (by decide) rfl (by decide) rfl rfl ?_
  refine V2_if_ne (tgt := 26) d_Voi_says_11 rfl (fun c => (by first | exact absurd c (by decide) | exact absurd (by decide) c)) (fun _ => ?_)
  refine V2_iload (i := 5) d_Voi_says_14 rfl ?_
  refine V2_if_eq (tgt := 26) d_Voi_says_16 rfl (fun c => (by first | exact absurd c (by decide) | exact absurd (by decide) c)) (fun _ => ?_)
  refine V2_iload (i := 4) d_Voi_says_19 rfl ?_
  refine V2_bipush (v := 30) d_Voi_says_21 rfl ?_
  refine V2_icmp_lt (tgt := 28) d_Voi_says_23 rfl (fun _ => ?_) (fun c => (by first | exact absurd c (by decide) | exact absurd (by decide) c))
  refine V2_aload_n (i := 0) d_Voi_says_28 rfl rfl ?_
  refine V2_getr (a := 53) d_Voi_says_29 fl_Voi_14 (by decide) rfl (by decide) rfl ?_
  refine V2_iload (i := 5) d_Voi_says_32 rfl ?_
  refine V2_callV [.int (13 : Int32)] d_Voi_says_34 rfl rfl lk_Voi_46 mo_Nums_add (by decide) rfl rfl rfl (Nat.le_of_ble_eq_true rfl) (Nat.le_of_ble_eq_true rfl) ?_
  refine V2.to (l' := [some (.ref 53), some (.int (13 : Int32))]) ?_ rfl rfl rfl rfl
  refine V2_aload_n (i := 0) d_Nums_add_0 rfl rfl ?_
  refine V2_get (v := (1 : Int32)) d_Nums_add_1 fl_Nums_7 (by decide) rfl (by decide) rfl rfl ?_
  refine V2_if_lt (tgt := 39) d_Nums_add_4 rfl (fun c => (by first | exact absurd c (by decide) | exact absurd (by decide) c)) (fun _ => ?_)
  refine V2_aload_n (i := 0) d_Nums_add_7 rfl rfl ?_
  refine V2_get (v := (1 : Int32)) d_Nums_add_8 fl_Nums_7 (by decide) rfl (by decide) rfl rfl ?_
  refine V2_aload_n (i := 0) d_Nums_add_11 rfl rfl ?_
  refine V2_getr (a := 54) d_Nums_add_12 fl_Nums_19 (by decide) rfl (by decide) rfl ?_
  refine V2_alen (t := 0) (v := 30) d_Nums_add_15 (by decide) rfl (by decide) rfl ?_
  refine V2_icmp_ge (tgt := 39) d_Nums_add_16 rfl (fun c => (by first | exact absurd c (by decide) | exact absurd (by decide) c)) (fun _ => ?_)
  refine V2_aload_n (i := 0) d_Nums_add_19 rfl rfl ?_
  refine V2_getr (a := 54) d_Nums_add_20 fl_Nums_19 (by decide) rfl (by decide) rfl ?_
  refine V2_aload_n (i := 0) d_Nums_add_23 rfl rfl ?_
  refine V2_get (v := (1 : Int32)) d_Nums_add_24 fl_Nums_7 (by decide) rfl (by decide) rfl rfl ?_
  refine V2_iload_n (i := 1) d_Nums_add_27 rfl rfl ?_
  refine V2_iastore (j := 1) d_Nums_add_28 (by decide) rfl (xixA (n := 1) rfl (by decide) (by decide)) rfl ?_
  refine V2_aload_n (i := 0) d_Nums_add_29 rfl rfl ?_
  refine V2_dup d_Nums_add_30 rfl ?_
  refine V2_get (v := (1 : Int32)) d_Nums_add_31 fl_Nums_7 (by decide) rfl (by decide) rfl rfl ?_
  refine V2_iconst (v := 1) d_Nums_add_34 rfl ?_
  refine V2_iadd d_Nums_add_35 ?_
  refine V2_lit (v := 2) (by decide) ?_
  refine V2_put d_Nums_add_36 fl_Nums_7 (by decide) rfl (by decide) rfl ?_
  refine V2_return d_Nums_add_39 rfl ?_
  refine V2.to (st' := []) ?_ rfl rfl rfl rfl
  refine V2_aload_n (i := 0) d_Voi_says_37 rfl rfl ?_
  refine V2_iload (i := 5) d_Voi_says_38 rfl ?_
  refine V2_iload_n (i := 3) d_Voi_says_40 rfl rfl ?_
  refine V2_iload (i := 4) d_Voi_says_41 rfl ?_
  refine V2_iconst (v := 1) d_Voi_says_43 rfl ?_
  refine V2_iadd d_Voi_says_44 ?_
  refine V2_lit (v := 2) (by decide) ?_
  refine V2_callV [.int (13 : Int32), .int x, .int (2 : Int32)] d_Voi_says_45 rfl rfl lk_Voi_49 mo_Voi_worksOut (by decide) rfl rfl rfl (Nat.le_of_ble_eq_true rfl) (Nat.le_of_ble_eq_true rfl) ?_
  refine V2.to (l' := [some (.ref 52), some (.int (13 : Int32)), some (.int x), some (.int (2 : Int32))]) ?_ rfl rfl rfl rfl
  refine V2_iload_n (i := 1) d_Voi_worksOut_0 rfl rfl ?_
  refine V2_lookup (tgt := 154) (off := 153) d_Voi_worksOut_1 (by decide) (by decide +kernel) rfl ?_
  refine V2_aload_n (i := 0) d_Voi_worksOut_154 rfl rfl ?_
  refine V2_iload_n (i := 2) d_Voi_worksOut_155 rfl rfl ?_
  refine V2_aload_n (i := 0) d_Voi_worksOut_156 rfl rfl ?_
  refine V2_get (v := mm) d_Voi_worksOut_157 fl_Voi_25 (by decide) rfl (by decide) rfl rfl ?_
  refine V2_aload_n (i := 0) d_Voi_worksOut_160 rfl rfl ?_
  refine V2_get (v := nI p) d_Voi_worksOut_161 fl_Voi_22 (by decide) rfl (by decide) rfl rfl ?_
  refine V2_topi (fun v3 ev3 => ?_)
  refine V2_isub d_Voi_worksOut_164 ?_
  refine V2_topi (fun v4 ev4 => ?_)
  refine V2_callV [.int x, .int v4] d_Voi_worksOut_165 rfl rfl lk_Voi_66 mo_Voi_partsBy (by decide) rfl rfl rfl (Nat.le_of_ble_eq_true rfl) (Nat.le_of_ble_eq_true rfl) ?_
  refine V2.to (l' := [some (.ref 52), some (.int x), some (.int v4)]) ?_ rfl rfl rfl rfl
  refine V2_iload_n (i := 2) d_Voi_partsBy_0 rfl rfl ?_
  refine V2_if_ne (tgt := 11) d_Voi_partsBy_1 rfl (fun c5 => ?_) (fun c5 => (by first | exact absurd (show ¬ v4 = 0 from by subst ev4 ev3 ev1; exact hz) c5 | exact absurd c5 (show ¬ v4 = 0 from by subst ev4 ev3 ev1; exact hz)))
  refine V2_iload_n (i := 1) d_Voi_partsBy_11 rfl rfl ?_
  refine V2_iload_n (i := 2) d_Voi_partsBy_12 rfl rfl ?_
  refine V2_idiv d_Voi_partsBy_13 (by assumption) ?_
  refine V2_topi (fun v6 ev6 => ?_)
  refine V2_ireturn d_Voi_partsBy_14 rfl ?_
  refine V2.to (st' := [.int v6]) ?_ rfl rfl rfl rfl
  refine V2_ireturn d_Voi_worksOut_168 rfl ?_
  refine V2.to (st' := [.int v6]) ?_ rfl rfl rfl rfl
  refine V2_ireturn d_Voi_says_48 rfl ?_
  refine V2.to (st' := [.int v6]) ?_ rfl rfl rfl rfl
  refine V2_aload_n (i := 0) d_Voi_worksOut_188 rfl rfl ?_
  refine V2_aload_n (i := 0) d_Voi_worksOut_189 rfl rfl ?_
  refine V2_get (v := (1 : Int32)) d_Voi_worksOut_190 fl_Voi_18 (by decide) rfl (by decide) rfl rfl ?_
  refine V2_iconst (v := 1) d_Voi_worksOut_193 rfl ?_
  refine V2_iconst (v := 1) d_Voi_worksOut_194 rfl ?_
  refine V2_iload_n (i := 3) d_Voi_worksOut_195 rfl rfl ?_
  refine V2_callV [.int (1 : Int32), .int (1 : Int32), .int (1 : Int32), .int (1 : Int32)] d_Voi_worksOut_196 rfl rfl lk_Voi_38 mo_Voi_says (by decide) rfl rfl rfl (Nat.le_of_ble_eq_true rfl) (Nat.le_of_ble_eq_true rfl) ?_
  refine V2.to (l' := [some (.ref 52), some (.int (1 : Int32)), some (.int (1 : Int32)), some (.int (1 : Int32)), some (.int (1 : Int32)), none]) ?_ rfl rfl rfl rfl
  refine V2_iload_n (i := 1) d_Voi_says_0 rfl rfl ?_
  refine V2_iload_n (i := 2) d_Voi_says_1 rfl rfl ?_
  refine V2_callS [.int (1 : Int32), .int (1 : Int32)] d_Voi_says_2 rfl rfl lk_Voi_42 mo_Voi_bodyFrom (Nat.le_of_ble_eq_true rfl) (Nat.le_of_ble_eq_true rfl) ?_
  refine V2.to (l' := [some (.int (1 : Int32)), some (.int (1 : Int32)), none, none, none]) ?_ rfl rfl rfl rfl
  refine V2_iload_n (i := 0) d_Voi_bodyFrom_0 rfl rfl ?_
  refine V2_istore_n (i := 2) (l' := [some (.int (1 : Int32)), some (.int (1 : Int32)), some (.int (1 : Int32)), none, none]) d_Voi_bodyFrom_1 rfl (xst_i (Nat.le_of_ble_eq_true rfl) rfl rfl) ?_
  refine V2_iconst (v := 0) d_Voi_bodyFrom_2 rfl ?_
  refine V2_istore_n (i := 3) (l' := [some (.int (1 : Int32)), some (.int (1 : Int32)), some (.int (1 : Int32)), some (.int (0 : Int32)), none]) d_Voi_bodyFrom_3 rfl (xst_i (Nat.le_of_ble_eq_true rfl) rfl rfl) ?_
  refine V2_iload_n (i := 3) d_Voi_bodyFrom_4 rfl rfl ?_
  refine V2_getsB d_Voi_bodyFrom_5 gs_Voi_53 ?_
  refine V2_bodieslen d_Voi_bodyFrom_8 ?_
  refine V2_icmp_ge (tgt := 45) d_Voi_bodyFrom_9 rfl (fun c => (by first | exact absurd c (by decide) | exact absurd (by decide) c)) (fun _ => ?_)
  refine V2_iload_n (i := 2) d_Voi_bodyFrom_12 rfl rfl ?_
  refine V2_if_lt (tgt := 45) d_Voi_bodyFrom_13 rfl (fun c => (by first | exact absurd c (by decide) | exact absurd (by decide) c)) (fun _ => ?_)
  refine V2_iload_n (i := 2) d_Voi_bodyFrom_16 rfl rfl ?_
  refine V2_iconst (v := 4) d_Voi_bodyFrom_17 rfl ?_
  refine V2_imul d_Voi_bodyFrom_18 ?_
  refine V2_lit (v := 4) (by decide) ?_
  refine V2_iload_n (i := 1) d_Voi_bodyFrom_19 rfl rfl ?_
  refine V2_iadd d_Voi_bodyFrom_20 ?_
  refine V2_lit (v := 5) (by decide) ?_
  refine V2_callS [.int (5 : Int32)] d_Voi_bodyFrom_21 rfl rfl lk_Voi_57 mo_Voi_bodyAt (Nat.le_of_ble_eq_true rfl) (Nat.le_of_ble_eq_true rfl) ?_
  refine V2.to (l' := [some (.int (5 : Int32))]) ?_ rfl rfl rfl rfl
  refine V2_iload_n (i := 0) d_Voi_bodyAt_0 rfl rfl ?_
  refine V2_if_lt (tgt := 20) d_Voi_bodyAt_1 rfl (fun c => (by first | exact absurd c (by decide) | exact absurd (by decide) c)) (fun _ => ?_)
  refine V2_iload_n (i := 0) d_Voi_bodyAt_4 rfl rfl ?_
  refine V2_getsB d_Voi_bodyAt_5 gs_Voi_53 ?_
  refine V2_bodieslen d_Voi_bodyAt_8 ?_
  refine V2_icmp_ge (tgt := 20) d_Voi_bodyAt_9 rfl (fun c => (by first | exact absurd c (by decide) | exact absurd (by decide) c)) (fun _ => ?_)
  refine V2_getsB d_Voi_bodyAt_12 gs_Voi_53 ?_
  refine V2_iload_n (i := 0) d_Voi_bodyAt_15 rfl rfl ?_
  refine V2_bodies (v := 0) d_Voi_bodyAt_16 (xixA (n := 5) rfl (by decide) (by decide)) (by decide) ?_
  refine V2_goto (tgt := 21) d_Voi_bodyAt_17 rfl ?_
  refine V2_ireturn d_Voi_bodyAt_21 rfl ?_
  refine V2.to (st' := [.int (0 : Int32)]) ?_ rfl rfl rfl rfl
  refine V2_istore (i := 4) (l' := [some (.int (1 : Int32)), some (.int (1 : Int32)), some (.int (1 : Int32)), some (.int (0 : Int32)), some (.int (0 : Int32))]) d_Voi_bodyFrom_24 (xst_i (Nat.le_of_ble_eq_true rfl) rfl rfl) ?_
  refine V2_iload (i := 4) d_Voi_bodyFrom_26 rfl ?_
  refine V2_if_eq (tgt := 34) d_Voi_bodyFrom_28 rfl (fun _ => ?_) (fun c => (by first | exact absurd c (by decide) | exact absurd (by decide) c))
  refine V2_iload_n (i := 2) d_Voi_bodyFrom_34 rfl rfl ?_
  refine V2_callS [.int (1 : Int32)] d_Voi_bodyFrom_35 rfl rfl lk_Voi_61 mo_Kinds_above (Nat.le_of_ble_eq_true rfl) (Nat.le_of_ble_eq_true rfl) ?_
  refine V2.to (l' := [some (.int (1 : Int32))]) ?_ rfl rfl rfl rfl
  refine V2_iload_n (i := 0) d_Kinds_above_0 rfl rfl ?_
  refine V2_callS [.int (1 : Int32)] d_Kinds_above_1 rfl rfl lk_Kinds_13 mo_Kinds_isKind (Nat.le_of_ble_eq_true rfl) (Nat.le_of_ble_eq_true rfl) ?_
  refine V2.to (l' := [some (.int (1 : Int32))]) ?_ rfl rfl rfl rfl
  refine V2_iload_n (i := 0) d_Kinds_isKind_0 rfl rfl ?_
  refine V2_if_lt (tgt := 16) d_Kinds_isKind_1 rfl (fun c => (by first | exact absurd c (by decide) | exact absurd (by decide) c)) (fun _ => ?_)
  refine V2_iload_n (i := 0) d_Kinds_isKind_4 rfl rfl ?_
  refine V2_getsA d_Kinds_isKind_5 gs_Kinds_7 ?_
  refine V2_abovelen d_Kinds_isKind_8 ?_
  refine V2_icmp_ge (tgt := 16) d_Kinds_isKind_9 rfl (fun c => (by first | exact absurd c (by decide) | exact absurd (by decide) c)) (fun _ => ?_)
  refine V2_iconst (v := 1) d_Kinds_isKind_12 rfl ?_
  refine V2_goto (tgt := 17) d_Kinds_isKind_13 rfl ?_
  refine V2_zreturn d_Kinds_isKind_17 rfl (by decide) ?_
  refine V2.to (st' := [.int (1 : Int32)]) ?_ rfl rfl rfl rfl
  refine V2_if_eq (tgt := 15) d_Kinds_above_4 rfl (fun c => (by first | exact absurd c (by decide) | exact absurd (by decide) c)) (fun _ => ?_)
  refine V2_getsA d_Kinds_above_7 gs_Kinds_7 ?_
  refine V2_iload_n (i := 0) d_Kinds_above_10 rfl rfl ?_
  refine V2_above (v := 0) d_Kinds_above_11 (xixA (n := 1) rfl (by decide) (by decide)) (by decide) ?_
  refine V2_goto (tgt := 16) d_Kinds_above_12 rfl ?_
  refine V2_ireturn d_Kinds_above_16 rfl ?_
  refine V2.to (st' := [.int (0 : Int32)]) ?_ rfl rfl rfl rfl
  refine V2_istore_n (i := 2) (l' := [some (.int (1 : Int32)), some (.int (1 : Int32)), some (.int (0 : Int32)), some (.int (0 : Int32)), some (.int (0 : Int32))]) d_Voi_bodyFrom_38 rfl (xst_i (Nat.le_of_ble_eq_true rfl) rfl rfl) ?_
  refine V2_iinc (i := 3) (v := 1) (l' := [some (.int (1 : Int32)), some (.int (1 : Int32)), some (.int (0 : Int32)), some (.int (1 : Int32)), some (.int (0 : Int32))]) d_Voi_bodyFrom_39 rfl (by decide) (xst_i (Nat.le_of_ble_eq_true rfl) rfl rfl) ?_
  refine V2_goto (tgt := 4) d_Voi_bodyFrom_42 rfl ?_
  refine V2_iload_n (i := 3) d_Voi_bodyFrom_4 rfl rfl ?_
  refine V2_getsB d_Voi_bodyFrom_5 gs_Voi_53 ?_
  refine V2_bodieslen d_Voi_bodyFrom_8 ?_
  refine V2_icmp_ge (tgt := 45) d_Voi_bodyFrom_9 rfl (fun c => (by first | exact absurd c (by decide) | exact absurd (by decide) c)) (fun _ => ?_)
  refine V2_iload_n (i := 2) d_Voi_bodyFrom_12 rfl rfl ?_
  refine V2_if_lt (tgt := 45) d_Voi_bodyFrom_13 rfl (fun c => (by first | exact absurd c (by decide) | exact absurd (by decide) c)) (fun _ => ?_)
  refine V2_iload_n (i := 2) d_Voi_bodyFrom_16 rfl rfl ?_
  refine V2_iconst (v := 4) d_Voi_bodyFrom_17 rfl ?_
  refine V2_imul d_Voi_bodyFrom_18 ?_
  refine V2_lit (v := 0) (by decide) ?_
  refine V2_iload_n (i := 1) d_Voi_bodyFrom_19 rfl rfl ?_
  refine V2_iadd d_Voi_bodyFrom_20 ?_
  refine V2_lit (v := 1) (by decide) ?_
  refine V2_callS [.int (1 : Int32)] d_Voi_bodyFrom_21 rfl rfl lk_Voi_57 mo_Voi_bodyAt (Nat.le_of_ble_eq_true rfl) (Nat.le_of_ble_eq_true rfl) ?_
  refine V2.to (l' := [some (.int (1 : Int32))]) ?_ rfl rfl rfl rfl
  refine V2_iload_n (i := 0) d_Voi_bodyAt_0 rfl rfl ?_
  refine V2_if_lt (tgt := 20) d_Voi_bodyAt_1 rfl (fun c => (by first | exact absurd c (by decide) | exact absurd (by decide) c)) (fun _ => ?_)
  refine V2_iload_n (i := 0) d_Voi_bodyAt_4 rfl rfl ?_
  refine V2_getsB d_Voi_bodyAt_5 gs_Voi_53 ?_
  refine V2_bodieslen d_Voi_bodyAt_8 ?_
  refine V2_icmp_ge (tgt := 20) d_Voi_bodyAt_9 rfl (fun c => (by first | exact absurd c (by decide) | exact absurd (by decide) c)) (fun _ => ?_)
  refine V2_getsB d_Voi_bodyAt_12 gs_Voi_53 ?_
  refine V2_iload_n (i := 0) d_Voi_bodyAt_15 rfl rfl ?_
  refine V2_bodies (v := 11) d_Voi_bodyAt_16 (xixA (n := 1) rfl (by decide) (by decide)) (by decide) ?_
  refine V2_goto (tgt := 21) d_Voi_bodyAt_17 rfl ?_
  refine V2_ireturn d_Voi_bodyAt_21 rfl ?_
  refine V2.to (st' := [.int (11 : Int32)]) ?_ rfl rfl rfl rfl
  refine V2_istore (i := 4) (l' := [some (.int (1 : Int32)), some (.int (1 : Int32)), some (.int (0 : Int32)), some (.int (1 : Int32)), some (.int (11 : Int32))]) d_Voi_bodyFrom_24 (xst_i (Nat.le_of_ble_eq_true rfl) rfl rfl) ?_
  refine V2_iload (i := 4) d_Voi_bodyFrom_26 rfl ?_
  refine V2_if_eq (tgt := 34) d_Voi_bodyFrom_28 rfl (fun c => (by first | exact absurd c (by decide) | exact absurd (by decide) c)) (fun _ => ?_)
  refine V2_iload (i := 4) d_Voi_bodyFrom_31 rfl ?_
  refine V2_ireturn d_Voi_bodyFrom_33 rfl ?_
  refine V2.to (st' := [.int (11 : Int32)]) ?_ rfl rfl rfl rfl
  refine V2_istore (i := 5) (l' := [some (.ref 52), some (.int (1 : Int32)), some (.int (1 : Int32)), some (.int (1 : Int32)), some (.int (1 : Int32)), some (.int (11 : Int32))]) d_Voi_says_5 (xst_i (Nat.le_of_ble_eq_true rfl) rfl rfl) ?_
  refine V2_aload_n (i := 0) d_Voi_says_7 rfl rfl ?_
  refine V2_get (v := (0 : Int32)) d_Voi_says_8 fl_Voi_31 (by decide) rfl (by decide) rfl rfl ?_
  refine V2_if_ne (tgt := 26) d_Voi_says_11 rfl (fun c => (by first | exact absurd c (by decide) | exact absurd (by decide) c)) (fun _ => ?_)
  refine V2_iload (i := 5) d_Voi_says_14 rfl ?_
  refine V2_if_eq (tgt := 26) d_Voi_says_16 rfl (fun c => (by first | exact absurd c (by decide) | exact absurd (by decide) c)) (fun _ => ?_)
  refine V2_iload (i := 4) d_Voi_says_19 rfl ?_
  refine V2_bipush (v := 30) d_Voi_says_21 rfl ?_
  refine V2_icmp_lt (tgt := 28) d_Voi_says_23 rfl (fun _ => ?_) (fun c => (by first | exact absurd c (by decide) | exact absurd (by decide) c))
  refine V2_aload_n (i := 0) d_Voi_says_28 rfl rfl ?_
  refine V2_getr (a := 53) d_Voi_says_29 fl_Voi_14 (by decide) rfl (by decide) rfl ?_
  refine V2_iload (i := 5) d_Voi_says_32 rfl ?_
  refine V2_callV [.int (11 : Int32)] d_Voi_says_34 rfl rfl lk_Voi_46 mo_Nums_add (by decide) rfl rfl rfl (Nat.le_of_ble_eq_true rfl) (Nat.le_of_ble_eq_true rfl) ?_
  refine V2.to (l' := [some (.ref 53), some (.int (11 : Int32))]) ?_ rfl rfl rfl rfl
  refine V2_aload_n (i := 0) d_Nums_add_0 rfl rfl ?_
  refine V2_get (v := (2 : Int32)) d_Nums_add_1 fl_Nums_7 (by decide) rfl (by decide) rfl rfl ?_
  refine V2_if_lt (tgt := 39) d_Nums_add_4 rfl (fun c => (by first | exact absurd c (by decide) | exact absurd (by decide) c)) (fun _ => ?_)
  refine V2_aload_n (i := 0) d_Nums_add_7 rfl rfl ?_
  refine V2_get (v := (2 : Int32)) d_Nums_add_8 fl_Nums_7 (by decide) rfl (by decide) rfl rfl ?_
  refine V2_aload_n (i := 0) d_Nums_add_11 rfl rfl ?_
  refine V2_getr (a := 54) d_Nums_add_12 fl_Nums_19 (by decide) rfl (by decide) rfl ?_
  refine V2_alen (t := 0) (v := 30) d_Nums_add_15 (by decide) rfl (by decide) rfl ?_
  refine V2_icmp_ge (tgt := 39) d_Nums_add_16 rfl (fun c => (by first | exact absurd c (by decide) | exact absurd (by decide) c)) (fun _ => ?_)
  refine V2_aload_n (i := 0) d_Nums_add_19 rfl rfl ?_
  refine V2_getr (a := 54) d_Nums_add_20 fl_Nums_19 (by decide) rfl (by decide) rfl ?_
  refine V2_aload_n (i := 0) d_Nums_add_23 rfl rfl ?_
  refine V2_get (v := (2 : Int32)) d_Nums_add_24 fl_Nums_7 (by decide) rfl (by decide) rfl rfl ?_
  refine V2_iload_n (i := 1) d_Nums_add_27 rfl rfl ?_
  refine V2_iastore (j := 2) d_Nums_add_28 (by decide) rfl (xixA (n := 2) rfl (by decide) (by decide)) rfl ?_
  refine V2_aload_n (i := 0) d_Nums_add_29 rfl rfl ?_
  refine V2_dup d_Nums_add_30 rfl ?_
  refine V2_get (v := (2 : Int32)) d_Nums_add_31 fl_Nums_7 (by decide) rfl (by decide) rfl rfl ?_
  refine V2_iconst (v := 1) d_Nums_add_34 rfl ?_
  refine V2_iadd d_Nums_add_35 ?_
  refine V2_lit (v := 3) (by decide) ?_
  refine V2_put d_Nums_add_36 fl_Nums_7 (by decide) rfl (by decide) rfl ?_
  refine V2_return d_Nums_add_39 rfl ?_
  refine V2.to (st' := []) ?_ rfl rfl rfl rfl
  refine V2_aload_n (i := 0) d_Voi_says_37 rfl rfl ?_
  refine V2_iload (i := 5) d_Voi_says_38 rfl ?_
  refine V2_iload_n (i := 3) d_Voi_says_40 rfl rfl ?_
  refine V2_iload (i := 4) d_Voi_says_41 rfl ?_
  refine V2_iconst (v := 1) d_Voi_says_43 rfl ?_
  refine V2_iadd d_Voi_says_44 ?_
  refine V2_lit (v := 2) (by decide) ?_
  refine V2_callV [.int (11 : Int32), .int (1 : Int32), .int (2 : Int32)] d_Voi_says_45 rfl rfl lk_Voi_49 mo_Voi_worksOut (by decide) rfl rfl rfl (Nat.le_of_ble_eq_true rfl) (Nat.le_of_ble_eq_true rfl) ?_
  refine V2.to (l' := [some (.ref 52), some (.int (11 : Int32)), some (.int (1 : Int32)), some (.int (2 : Int32))]) ?_ rfl rfl rfl rfl
  refine V2_iload_n (i := 1) d_Voi_worksOut_0 rfl rfl ?_
  refine V2_lookup (tgt := 123) (off := 122) d_Voi_worksOut_1 (by decide) (by decide +kernel) rfl ?_
  refine V2_aload_n (i := 0) d_Voi_worksOut_123 rfl rfl ?_
  refine V2_aload_n (i := 0) d_Voi_worksOut_124 rfl rfl ?_
  refine V2_get (v := (1 : Int32)) d_Voi_worksOut_125 fl_Voi_18 (by decide) rfl (by decide) rfl rfl ?_
  refine V2_iconst (v := 0) d_Voi_worksOut_128 rfl ?_
  refine V2_iload_n (i := 2) d_Voi_worksOut_129 rfl rfl ?_
  refine V2_iload_n (i := 3) d_Voi_worksOut_130 rfl rfl ?_
  refine V2_callV [.int (1 : Int32), .int (0 : Int32), .int (1 : Int32), .int (2 : Int32)] d_Voi_worksOut_131 rfl rfl lk_Voi_38 mo_Voi_says (by decide) rfl rfl rfl (Nat.le_of_ble_eq_true rfl) (Nat.le_of_ble_eq_true rfl) ?_
  refine V2.to (l' := [some (.ref 52), some (.int (1 : Int32)), some (.int (0 : Int32)), some (.int (1 : Int32)), some (.int (2 : Int32)), none]) ?_ rfl rfl rfl rfl
  refine V2_iload_n (i := 1) d_Voi_says_0 rfl rfl ?_
  refine V2_iload_n (i := 2) d_Voi_says_1 rfl rfl ?_
  refine V2_callS [.int (1 : Int32), .int (0 : Int32)] d_Voi_says_2 rfl rfl lk_Voi_42 mo_Voi_bodyFrom (Nat.le_of_ble_eq_true rfl) (Nat.le_of_ble_eq_true rfl) ?_
  refine V2.to (l' := [some (.int (1 : Int32)), some (.int (0 : Int32)), none, none, none]) ?_ rfl rfl rfl rfl
  refine V2_iload_n (i := 0) d_Voi_bodyFrom_0 rfl rfl ?_
  refine V2_istore_n (i := 2) (l' := [some (.int (1 : Int32)), some (.int (0 : Int32)), some (.int (1 : Int32)), none, none]) d_Voi_bodyFrom_1 rfl (xst_i (Nat.le_of_ble_eq_true rfl) rfl rfl) ?_
  refine V2_iconst (v := 0) d_Voi_bodyFrom_2 rfl ?_
  refine V2_istore_n (i := 3) (l' := [some (.int (1 : Int32)), some (.int (0 : Int32)), some (.int (1 : Int32)), some (.int (0 : Int32)), none]) d_Voi_bodyFrom_3 rfl (xst_i (Nat.le_of_ble_eq_true rfl) rfl rfl) ?_
  refine V2_iload_n (i := 3) d_Voi_bodyFrom_4 rfl rfl ?_
  refine V2_getsB d_Voi_bodyFrom_5 gs_Voi_53 ?_
  refine V2_bodieslen d_Voi_bodyFrom_8 ?_
  refine V2_icmp_ge (tgt := 45) d_Voi_bodyFrom_9 rfl (fun c => (by first | exact absurd c (by decide) | exact absurd (by decide) c)) (fun _ => ?_)
  refine V2_iload_n (i := 2) d_Voi_bodyFrom_12 rfl rfl ?_
  refine V2_if_lt (tgt := 45) d_Voi_bodyFrom_13 rfl (fun c => (by first | exact absurd c (by decide) | exact absurd (by decide) c)) (fun _ => ?_)
  refine V2_iload_n (i := 2) d_Voi_bodyFrom_16 rfl rfl ?_
  refine V2_iconst (v := 4) d_Voi_bodyFrom_17 rfl ?_
  refine V2_imul d_Voi_bodyFrom_18 ?_
  refine V2_lit (v := 4) (by decide) ?_
  refine V2_iload_n (i := 1) d_Voi_bodyFrom_19 rfl rfl ?_
  refine V2_iadd d_Voi_bodyFrom_20 ?_
  refine V2_lit (v := 4) (by decide) ?_
  refine V2_callS [.int (4 : Int32)] d_Voi_bodyFrom_21 rfl rfl lk_Voi_57 mo_Voi_bodyAt (Nat.le_of_ble_eq_true rfl) (Nat.le_of_ble_eq_true rfl) ?_
  refine V2.to (l' := [some (.int (4 : Int32))]) ?_ rfl rfl rfl rfl
  refine V2_iload_n (i := 0) d_Voi_bodyAt_0 rfl rfl ?_
  refine V2_if_lt (tgt := 20) d_Voi_bodyAt_1 rfl (fun c => (by first | exact absurd c (by decide) | exact absurd (by decide) c)) (fun _ => ?_)
  refine V2_iload_n (i := 0) d_Voi_bodyAt_4 rfl rfl ?_
  refine V2_getsB d_Voi_bodyAt_5 gs_Voi_53 ?_
  refine V2_bodieslen d_Voi_bodyAt_8 ?_
  refine V2_icmp_ge (tgt := 20) d_Voi_bodyAt_9 rfl (fun c => (by first | exact absurd c (by decide) | exact absurd (by decide) c)) (fun _ => ?_)
  refine V2_getsB d_Voi_bodyAt_12 gs_Voi_53 ?_
  refine V2_iload_n (i := 0) d_Voi_bodyAt_15 rfl rfl ?_
  refine V2_bodies (v := 20) d_Voi_bodyAt_16 (xixA (n := 4) rfl (by decide) (by decide)) (by decide) ?_
  refine V2_goto (tgt := 21) d_Voi_bodyAt_17 rfl ?_
  refine V2_ireturn d_Voi_bodyAt_21 rfl ?_
  refine V2.to (st' := [.int (20 : Int32)]) ?_ rfl rfl rfl rfl
  refine V2_istore (i := 4) (l' := [some (.int (1 : Int32)), some (.int (0 : Int32)), some (.int (1 : Int32)), some (.int (0 : Int32)), some (.int (20 : Int32))]) d_Voi_bodyFrom_24 (xst_i (Nat.le_of_ble_eq_true rfl) rfl rfl) ?_
  refine V2_iload (i := 4) d_Voi_bodyFrom_26 rfl ?_
  refine V2_if_eq (tgt := 34) d_Voi_bodyFrom_28 rfl (fun c => (by first | exact absurd c (by decide) | exact absurd (by decide) c)) (fun _ => ?_)
  refine V2_iload (i := 4) d_Voi_bodyFrom_31 rfl ?_
  refine V2_ireturn d_Voi_bodyFrom_33 rfl ?_
  refine V2.to (st' := [.int (20 : Int32)]) ?_ rfl rfl rfl rfl
  refine V2_istore (i := 5) (l' := [some (.ref 52), some (.int (1 : Int32)), some (.int (0 : Int32)), some (.int (1 : Int32)), some (.int (2 : Int32)), some (.int (20 : Int32))]) d_Voi_says_5 (xst_i (Nat.le_of_ble_eq_true rfl) rfl rfl) ?_
  refine V2_aload_n (i := 0) d_Voi_says_7 rfl rfl ?_
  refine V2_get (v := (0 : Int32)) d_Voi_says_8 fl_Voi_31 (by decide) rfl (by decide) rfl rfl ?_
  refine V2_if_ne (tgt := 26) d_Voi_says_11 rfl (fun c => (by first | exact absurd c (by decide) | exact absurd (by decide) c)) (fun _ => ?_)
  refine V2_iload (i := 5) d_Voi_says_14 rfl ?_
  refine V2_if_eq (tgt := 26) d_Voi_says_16 rfl (fun c => (by first | exact absurd c (by decide) | exact absurd (by decide) c)) (fun _ => ?_)
  refine V2_iload (i := 4) d_Voi_says_19 rfl ?_
  refine V2_bipush (v := 30) d_Voi_says_21 rfl ?_
  refine V2_icmp_lt (tgt := 28) d_Voi_says_23 rfl (fun _ => ?_) (fun c => (by first | exact absurd c (by decide) | exact absurd (by decide) c))
  refine V2_aload_n (i := 0) d_Voi_says_28 rfl rfl ?_
  refine V2_getr (a := 53) d_Voi_says_29 fl_Voi_14 (by decide) rfl (by decide) rfl ?_
  refine V2_iload (i := 5) d_Voi_says_32 rfl ?_
  refine V2_callV [.int (20 : Int32)] d_Voi_says_34 rfl rfl lk_Voi_46 mo_Nums_add (by decide) rfl rfl rfl (Nat.le_of_ble_eq_true rfl) (Nat.le_of_ble_eq_true rfl) ?_
  refine V2.to (l' := [some (.ref 53), some (.int (20 : Int32))]) ?_ rfl rfl rfl rfl
  refine V2_aload_n (i := 0) d_Nums_add_0 rfl rfl ?_
  refine V2_get (v := (3 : Int32)) d_Nums_add_1 fl_Nums_7 (by decide) rfl (by decide) rfl rfl ?_
  refine V2_if_lt (tgt := 39) d_Nums_add_4 rfl (fun c => (by first | exact absurd c (by decide) | exact absurd (by decide) c)) (fun _ => ?_)
  refine V2_aload_n (i := 0) d_Nums_add_7 rfl rfl ?_
  refine V2_get (v := (3 : Int32)) d_Nums_add_8 fl_Nums_7 (by decide) rfl (by decide) rfl rfl ?_
  refine V2_aload_n (i := 0) d_Nums_add_11 rfl rfl ?_
  refine V2_getr (a := 54) d_Nums_add_12 fl_Nums_19 (by decide) rfl (by decide) rfl ?_
  refine V2_alen (t := 0) (v := 30) d_Nums_add_15 (by decide) rfl (by decide) rfl ?_
  refine V2_icmp_ge (tgt := 39) d_Nums_add_16 rfl (fun c => (by first | exact absurd c (by decide) | exact absurd (by decide) c)) (fun _ => ?_)
  refine V2_aload_n (i := 0) d_Nums_add_19 rfl rfl ?_
  refine V2_getr (a := 54) d_Nums_add_20 fl_Nums_19 (by decide) rfl (by decide) rfl ?_
  refine V2_aload_n (i := 0) d_Nums_add_23 rfl rfl ?_
  refine V2_get (v := (3 : Int32)) d_Nums_add_24 fl_Nums_7 (by decide) rfl (by decide) rfl rfl ?_
  refine V2_iload_n (i := 1) d_Nums_add_27 rfl rfl ?_
  refine V2_iastore (j := 3) d_Nums_add_28 (by decide) rfl (xixA (n := 3) rfl (by decide) (by decide)) rfl ?_
  refine V2_aload_n (i := 0) d_Nums_add_29 rfl rfl ?_
  refine V2_dup d_Nums_add_30 rfl ?_
  refine V2_get (v := (3 : Int32)) d_Nums_add_31 fl_Nums_7 (by decide) rfl (by decide) rfl rfl ?_
  refine V2_iconst (v := 1) d_Nums_add_34 rfl ?_
  refine V2_iadd d_Nums_add_35 ?_
  refine V2_lit (v := 4) (by decide) ?_
  refine V2_put d_Nums_add_36 fl_Nums_7 (by decide) rfl (by decide) rfl ?_
  refine V2_return d_Nums_add_39 rfl ?_
  refine V2.to (st' := []) ?_ rfl rfl rfl rfl
  refine V2_aload_n (i := 0) d_Voi_says_37 rfl rfl ?_
  refine V2_iload (i := 5) d_Voi_says_38 rfl ?_
  refine V2_iload_n (i := 3) d_Voi_says_40 rfl rfl ?_
  refine V2_iload (i := 4) d_Voi_says_41 rfl ?_
  refine V2_iconst (v := 1) d_Voi_says_43 rfl ?_
  refine V2_iadd d_Voi_says_44 ?_
  refine V2_lit (v := 3) (by decide) ?_
  refine V2_callV [.int (20 : Int32), .int (1 : Int32), .int (3 : Int32)] d_Voi_says_45 rfl rfl lk_Voi_49 mo_Voi_worksOut (by decide) rfl rfl rfl (Nat.le_of_ble_eq_true rfl) (Nat.le_of_ble_eq_true rfl) ?_
  refine V2.to (l' := [some (.ref 52), some (.int (20 : Int32)), some (.int (1 : Int32)), some (.int (3 : Int32))]) ?_ rfl rfl rfl rfl
  refine V2_iload_n (i := 1) d_Voi_worksOut_0 rfl rfl ?_
  refine V2_lookup (tgt := 169) (off := 168) d_Voi_worksOut_1 (by decide) (by decide +kernel) rfl ?_
  refine V2_aload_n (i := 0) d_Voi_worksOut_169 rfl rfl ?_
  refine V2_iconst (v := 0) d_Voi_worksOut_170 rfl ?_
  refine V2_iconst (v := 0) d_Voi_worksOut_171 rfl ?_
  refine V2_iload_n (i := 2) d_Voi_worksOut_172 rfl rfl ?_
  refine V2_iload_n (i := 3) d_Voi_worksOut_173 rfl rfl ?_
  refine V2_callV [.int (0 : Int32), .int (0 : Int32), .int (1 : Int32), .int (3 : Int32)] d_Voi_worksOut_174 rfl rfl lk_Voi_38 mo_Voi_says (by decide) rfl rfl rfl (Nat.le_of_ble_eq_true rfl) (Nat.le_of_ble_eq_true rfl) ?_
  refine V2.to (l' := [some (.ref 52), some (.int (0 : Int32)), some (.int (0 : Int32)), some (.int (1 : Int32)), some (.int (3 : Int32)), none]) ?_ rfl rfl rfl rfl
  refine V2_iload_n (i := 1) d_Voi_says_0 rfl rfl ?_
  refine V2_iload_n (i := 2) d_Voi_says_1 rfl rfl ?_
  refine V2_callS [.int (0 : Int32), .int (0 : Int32)] d_Voi_says_2 rfl rfl lk_Voi_42 mo_Voi_bodyFrom (Nat.le_of_ble_eq_true rfl) (Nat.le_of_ble_eq_true rfl) ?_
  refine V2.to (l' := [some (.int (0 : Int32)), some (.int (0 : Int32)), none, none, none]) ?_ rfl rfl rfl rfl
  refine V2_iload_n (i := 0) d_Voi_bodyFrom_0 rfl rfl ?_
  refine V2_istore_n (i := 2) (l' := [some (.int (0 : Int32)), some (.int (0 : Int32)), some (.int (0 : Int32)), none, none]) d_Voi_bodyFrom_1 rfl (xst_i (Nat.le_of_ble_eq_true rfl) rfl rfl) ?_
  refine V2_iconst (v := 0) d_Voi_bodyFrom_2 rfl ?_
  refine V2_istore_n (i := 3) (l' := [some (.int (0 : Int32)), some (.int (0 : Int32)), some (.int (0 : Int32)), some (.int (0 : Int32)), none]) d_Voi_bodyFrom_3 rfl (xst_i (Nat.le_of_ble_eq_true rfl) rfl rfl) ?_
  refine V2_iload_n (i := 3) d_Voi_bodyFrom_4 rfl rfl ?_
  refine V2_getsB d_Voi_bodyFrom_5 gs_Voi_53 ?_
  refine V2_bodieslen d_Voi_bodyFrom_8 ?_
  refine V2_icmp_ge (tgt := 45) d_Voi_bodyFrom_9 rfl (fun c => (by first | exact absurd c (by decide) | exact absurd (by decide) c)) (fun _ => ?_)
  refine V2_iload_n (i := 2) d_Voi_bodyFrom_12 rfl rfl ?_
  refine V2_if_lt (tgt := 45) d_Voi_bodyFrom_13 rfl (fun c => (by first | exact absurd c (by decide) | exact absurd (by decide) c)) (fun _ => ?_)
  refine V2_iload_n (i := 2) d_Voi_bodyFrom_16 rfl rfl ?_
  refine V2_iconst (v := 4) d_Voi_bodyFrom_17 rfl ?_
  refine V2_imul d_Voi_bodyFrom_18 ?_
  refine V2_lit (v := 0) (by decide) ?_
  refine V2_iload_n (i := 1) d_Voi_bodyFrom_19 rfl rfl ?_
  refine V2_iadd d_Voi_bodyFrom_20 ?_
  refine V2_lit (v := 0) (by decide) ?_
  refine V2_callS [.int (0 : Int32)] d_Voi_bodyFrom_21 rfl rfl lk_Voi_57 mo_Voi_bodyAt (Nat.le_of_ble_eq_true rfl) (Nat.le_of_ble_eq_true rfl) ?_
  refine V2.to (l' := [some (.int (0 : Int32))]) ?_ rfl rfl rfl rfl
  refine V2_iload_n (i := 0) d_Voi_bodyAt_0 rfl rfl ?_
  refine V2_if_lt (tgt := 20) d_Voi_bodyAt_1 rfl (fun c => (by first | exact absurd c (by decide) | exact absurd (by decide) c)) (fun _ => ?_)
  refine V2_iload_n (i := 0) d_Voi_bodyAt_4 rfl rfl ?_
  refine V2_getsB d_Voi_bodyAt_5 gs_Voi_53 ?_
  refine V2_bodieslen d_Voi_bodyAt_8 ?_
  refine V2_icmp_ge (tgt := 20) d_Voi_bodyAt_9 rfl (fun c => (by first | exact absurd c (by decide) | exact absurd (by decide) c)) (fun _ => ?_)
  refine V2_getsB d_Voi_bodyAt_12 gs_Voi_53 ?_
  refine V2_iload_n (i := 0) d_Voi_bodyAt_15 rfl rfl ?_
  refine V2_bodies (v := 10) d_Voi_bodyAt_16 (xixA (n := 0) rfl (by decide) (by decide)) (by decide) ?_
  refine V2_goto (tgt := 21) d_Voi_bodyAt_17 rfl ?_
  refine V2_ireturn d_Voi_bodyAt_21 rfl ?_
  refine V2.to (st' := [.int (10 : Int32)]) ?_ rfl rfl rfl rfl
  refine V2_istore (i := 4) (l' := [some (.int (0 : Int32)), some (.int (0 : Int32)), some (.int (0 : Int32)), some (.int (0 : Int32)), some (.int (10 : Int32))]) d_Voi_bodyFrom_24 (xst_i (Nat.le_of_ble_eq_true rfl) rfl rfl) ?_
  refine V2_iload (i := 4) d_Voi_bodyFrom_26 rfl ?_
  refine V2_if_eq (tgt := 34) d_Voi_bodyFrom_28 rfl (fun c => (by first | exact absurd c (by decide) | exact absurd (by decide) c)) (fun _ => ?_)
  refine V2_iload (i := 4) d_Voi_bodyFrom_31 rfl ?_
  refine V2_ireturn d_Voi_bodyFrom_33 rfl ?_
  refine V2.to (st' := [.int (10 : Int32)]) ?_ rfl rfl rfl rfl
  refine V2_istore (i := 5) (l' := [some (.ref 52), some (.int (0 : Int32)), some (.int (0 : Int32)), some (.int (1 : Int32)), some (.int (3 : Int32)), some (.int (10 : Int32))]) d_Voi_says_5 (xst_i (Nat.le_of_ble_eq_true rfl) rfl rfl) ?_
  refine V2_aload_n (i := 0) d_Voi_says_7 rfl rfl ?_
  refine V2_get (v := (0 : Int32)) d_Voi_says_8 fl_Voi_31 (by decide) rfl (by decide) rfl rfl ?_
  refine V2_if_ne (tgt := 26) d_Voi_says_11 rfl (fun c => (by first | exact absurd c (by decide) | exact absurd (by decide) c)) (fun _ => ?_)
  refine V2_iload (i := 5) d_Voi_says_14 rfl ?_
  refine V2_if_eq (tgt := 26) d_Voi_says_16 rfl (fun c => (by first | exact absurd c (by decide) | exact absurd (by decide) c)) (fun _ => ?_)
  refine V2_iload (i := 4) d_Voi_says_19 rfl ?_
  refine V2_bipush (v := 30) d_Voi_says_21 rfl ?_
  refine V2_icmp_lt (tgt := 28) d_Voi_says_23 rfl (fun _ => ?_) (fun c => (by first | exact absurd c (by decide) | exact absurd (by decide) c))
  refine V2_aload_n (i := 0) d_Voi_says_28 rfl rfl ?_
  refine V2_getr (a := 53) d_Voi_says_29 fl_Voi_14 (by decide) rfl (by decide) rfl ?_
  refine V2_iload (i := 5) d_Voi_says_32 rfl ?_
  refine V2_callV [.int (10 : Int32)] d_Voi_says_34 rfl rfl lk_Voi_46 mo_Nums_add (by decide) rfl rfl rfl (Nat.le_of_ble_eq_true rfl) (Nat.le_of_ble_eq_true rfl) ?_
  refine V2.to (l' := [some (.ref 53), some (.int (10 : Int32))]) ?_ rfl rfl rfl rfl
  refine V2_aload_n (i := 0) d_Nums_add_0 rfl rfl ?_
  refine V2_get (v := (4 : Int32)) d_Nums_add_1 fl_Nums_7 (by decide) rfl (by decide) rfl rfl ?_
  refine V2_if_lt (tgt := 39) d_Nums_add_4 rfl (fun c => (by first | exact absurd c (by decide) | exact absurd (by decide) c)) (fun _ => ?_)
  refine V2_aload_n (i := 0) d_Nums_add_7 rfl rfl ?_
  refine V2_get (v := (4 : Int32)) d_Nums_add_8 fl_Nums_7 (by decide) rfl (by decide) rfl rfl ?_
  refine V2_aload_n (i := 0) d_Nums_add_11 rfl rfl ?_
  refine V2_getr (a := 54) d_Nums_add_12 fl_Nums_19 (by decide) rfl (by decide) rfl ?_
  refine V2_alen (t := 0) (v := 30) d_Nums_add_15 (by decide) rfl (by decide) rfl ?_
  refine V2_icmp_ge (tgt := 39) d_Nums_add_16 rfl (fun c => (by first | exact absurd c (by decide) | exact absurd (by decide) c)) (fun _ => ?_)
  refine V2_aload_n (i := 0) d_Nums_add_19 rfl rfl ?_
  refine V2_getr (a := 54) d_Nums_add_20 fl_Nums_19 (by decide) rfl (by decide) rfl ?_
  refine V2_aload_n (i := 0) d_Nums_add_23 rfl rfl ?_
  refine V2_get (v := (4 : Int32)) d_Nums_add_24 fl_Nums_7 (by decide) rfl (by decide) rfl rfl ?_
  refine V2_iload_n (i := 1) d_Nums_add_27 rfl rfl ?_
  refine V2_iastore (j := 4) d_Nums_add_28 (by decide) rfl (xixA (n := 4) rfl (by decide) (by decide)) rfl ?_
  refine V2_aload_n (i := 0) d_Nums_add_29 rfl rfl ?_
  refine V2_dup d_Nums_add_30 rfl ?_
  refine V2_get (v := (4 : Int32)) d_Nums_add_31 fl_Nums_7 (by decide) rfl (by decide) rfl rfl ?_
  refine V2_iconst (v := 1) d_Nums_add_34 rfl ?_
  refine V2_iadd d_Nums_add_35 ?_
  refine V2_lit (v := 5) (by decide) ?_
  refine V2_put d_Nums_add_36 fl_Nums_7 (by decide) rfl (by decide) rfl ?_
  refine V2_return d_Nums_add_39 rfl ?_
  refine V2.to (st' := []) ?_ rfl rfl rfl rfl
  refine V2_aload_n (i := 0) d_Voi_says_37 rfl rfl ?_
  refine V2_iload (i := 5) d_Voi_says_38 rfl ?_
  refine V2_iload_n (i := 3) d_Voi_says_40 rfl rfl ?_
  refine V2_iload (i := 4) d_Voi_says_41 rfl ?_
  refine V2_iconst (v := 1) d_Voi_says_43 rfl ?_
  refine V2_iadd d_Voi_says_44 ?_
  refine V2_lit (v := 4) (by decide) ?_
  refine V2_callV [.int (10 : Int32), .int (1 : Int32), .int (4 : Int32)] d_Voi_says_45 rfl rfl lk_Voi_49 mo_Voi_worksOut (by decide) rfl rfl rfl (Nat.le_of_ble_eq_true rfl) (Nat.le_of_ble_eq_true rfl) ?_
  refine V2.to (l' := [some (.ref 52), some (.int (10 : Int32)), some (.int (1 : Int32)), some (.int (4 : Int32))]) ?_ rfl rfl rfl rfl
  refine V2_iload_n (i := 1) d_Voi_worksOut_0 rfl rfl ?_
  refine V2_lookup (tgt := 116) (off := 115) d_Voi_worksOut_1 (by decide) (by decide +kernel) rfl ?_
  refine V2_iload_n (i := 2) d_Voi_worksOut_116 rfl rfl ?_
  refine V2_aload_n (i := 0) d_Voi_worksOut_117 rfl rfl ?_
  refine V2_get (v := nI p) d_Voi_worksOut_118 fl_Voi_22 (by decide) rfl (by decide) rfl rfl ?_
  refine V2_topi (fun v8 ev8 => ?_)
  refine V2_iadd d_Voi_worksOut_121 ?_
  refine V2_topi (fun v9 ev9 => ?_)
  refine V2_ireturn d_Voi_worksOut_122 rfl ?_
  refine V2.to (st' := [.int v9]) ?_ rfl rfl rfl rfl
  refine V2_ireturn d_Voi_says_48 rfl ?_
  refine V2.to (st' := [.int v9]) ?_ rfl rfl rfl rfl
  refine V2_iconst (v := 4) d_Voi_worksOut_177 rfl ?_
  refine V2_isub d_Voi_worksOut_178 ?_
  refine V2_topi (fun v10 ev10 => ?_)
  refine V2_ireturn d_Voi_worksOut_179 rfl ?_
  refine V2.to (st' := [.int v10]) ?_ rfl rfl rfl rfl
  refine V2_ireturn d_Voi_says_48 rfl ?_
  refine V2.to (st' := [.int v10]) ?_ rfl rfl rfl rfl
  refine V2_iconst (v := 2) d_Voi_worksOut_134 rfl ?_
  refine V2_imul d_Voi_worksOut_135 ?_
  refine V2_topi (fun v11 ev11 => ?_)
  refine V2_ireturn d_Voi_worksOut_136 rfl ?_
  refine V2.to (st' := [.int v11]) ?_ rfl rfl rfl rfl
  refine V2_ireturn d_Voi_says_48 rfl ?_
  refine V2.to (st' := [.int v11, .int v6]) ?_ rfl rfl rfl rfl
  refine V2_iadd d_Voi_worksOut_199 ?_
  refine V2_topi (fun v12 ev12 => ?_)
  refine V2_ireturn d_Voi_worksOut_200 rfl ?_
  refine V2.to (st' := [.int v12]) ?_ rfl rfl rfl rfl
  refine V2_ireturn d_Voi_says_48 rfl ?_
  refine V2.to (st' := [.int v12, .ref 52]) ?_ rfl rfl rfl rfl
  refine V2_put d_Voi_speaks_41 fl_Voi_28 (by decide) rfl (by decide) rfl ?_
  refine V2_aload_n (i := 0) d_Voi_speaks_44 rfl rfl ?_
  refine V2_get (v := (0 : Int32)) d_Voi_speaks_45 fl_Voi_31 (by decide) rfl (by decide) rfl rfl ?_
  refine V2_if_ne (tgt := 55) d_Voi_speaks_48 rfl (fun c => (by first | exact absurd c (by decide) | exact absurd (by decide) c)) (fun _ => ?_)
  refine V2_iconst (v := 1) d_Voi_speaks_51 rfl ?_
  refine V2_goto (tgt := 56) d_Voi_speaks_52 rfl ?_
  refine V2_zreturn d_Voi_speaks_56 rfl (by decide) ?_
  refine V2.to (st' := [.int (1 : Int32)]) ?_ rfl rfl rfl rfl
  refine V2_if_ne (tgt := 73) d_P_voice_63 rfl (fun _ => ?_) (fun c => (by first | exact absurd c (by decide) | exact absurd (by decide) c))
  refine V2_aload_n (i := 0) d_P_voice_73 rfl rfl ?_
  refine V2_getr (a := 52) d_P_voice_74 fl_P_43 (by decide) rfl (by decide) rfl ?_
  refine V2_callV [] d_P_voice_77 rfl rfl lk_P_297 mo_Voi_answer (by decide) rfl rfl rfl (Nat.le_of_ble_eq_true rfl) (Nat.le_of_ble_eq_true rfl) ?_
  refine V2.to (l' := [some (.ref 52)]) ?_ rfl rfl rfl rfl
  refine V2_aload_n (i := 0) d_Voi_answer_0 rfl rfl ?_
  refine V2_get (v := v12) d_Voi_answer_1 fl_Voi_28 (by decide) rfl (by decide) rfl rfl ?_
  refine V2_ireturn d_Voi_answer_4 rfl ?_
  refine V2.to (st' := [.int v12]) ?_ rfl rfl rfl rfl
  refine V2_ireturn d_P_voice_80 rfl ?_
  subst ev12 ev11 ev10 ev9 ev8 ev6 ev4 ev3 ev1
  exact xQi (hQ _ (mid_trace (n := 5) (b := (fun i => ([21, 13, 11, 20, 10] : List Int32).getD i 0)) hR (by decide) (fun a h1 h2 h3 => by   repeat (first | rw [xp_row_ne h1] | rw [xp_row_ne h2] | rw [xp_row_ne h3]) ; try rfl) rfl (fun i hi => by rcases (show i = 0 ∨ i = 1 ∨ i = 2 ∨ i = 3 ∨ i = 4 by omega) with h9 | h9 | h9 | h9 | h9 <;> subst h9 <;> rfl))) (by first | rfl | decide) rfl
theorem c_mv_1_3 {L : Nat} {xs : Nat → Int32} {d : Nat} {Q : Option Value → xF → Prop} {F : xF} {p : Nat} {x mm : Int32} {F0 : xF} (hR : Rel F0) (hp : p < PN (F0 66)) (ek : F0 66 (12 + 2 * p) = 1) (em : F0 66 (12 + 2 * p + 1) = mm) (hz : ¬ mm - nI p = 0) (hM : Mid F0 F (traceG F0 5 (fun i => ([21, 13, 11, 20, 10] : List Int32).getD i 0))) (hQ : ∀ F2, Rel F2 → Q (some (.int ((x / (mm - nI p)) + (((1 + nI p) - 4) * 2)))) F2) : V2 L xs (d + 40) m_R_voice 0 (xEntry [.ref 65, .int (nI p), .int (3 : Int32), .int x] 6) [] F Q := by
  have e66 : F 66 = F0 66 := hM.1 66 (by decide)
  obtain ⟨eP, hP6⟩ := inv_PN hR.2.1.2.2.1
  have s1 : (F 66 11 - 1).toInt = (PN (F0 66) : Int) - 1 := sub_any (n := PN (F0 66)) ((congrFun e66 11).trans eP) (by omega) (by decide)
  refine V2.to (l' := [some (.ref 65), some (.int (nI p)), some (.int (3 : Int32)), some (.int x), none, none]) ?_ rfl rfl rfl rfl
  refine V2_aload_n (i := 0) d_R_voice_0 rfl rfl ?_
  refine V2_iload_n (i := 1) d_R_voice_1 rfl rfl ?_
  refine V2_callV [.int (nI p)] d_R_voice_2 rfl rfl lk_R_168 mo_R_isPusher (by decide) rfl rfl rfl (Nat.le_of_ble_eq_true rfl) (Nat.le_of_ble_eq_true rfl) ?_
  refine c_R_isPusher ?_
  refine V2_topi (fun v1 ev1 => ?_)
  refine V2_if_eq (tgt := 17) d_R_voice_5 rfl (fun c2 => (by first | exact absurd c2 (show ¬ v1 = 0 from by subst ev1; exact xb_ne.mpr (by rw [toI_le, toI_le, s1, nI_toInt (by omega)]; have q0 : (0 : Int32).toInt = 0 := (by decide); omega)) | exact absurd (show ¬ v1 = 0 from by subst ev1; exact xb_ne.mpr (by rw [toI_le, toI_le, s1, nI_toInt (by omega)]; have q0 : (0 : Int32).toInt = 0 := (by decide); omega)) c2)) (fun c2 => ?_)
  refine V2_iload_n (i := 2) d_R_voice_8 rfl rfl ?_
  refine V2_iconst (v := 0) d_R_voice_9 rfl ?_
  refine V2_iconst (v := 3) d_R_voice_10 rfl ?_
  refine V2_callS [.int (3 : Int32), .int (0 : Int32), .int (3 : Int32)] d_R_voice_11 rfl rfl lk_R_51 mo_R_in (Nat.le_of_ble_eq_true rfl) (Nat.le_of_ble_eq_true rfl) ?_
  refine V2.to (l' := [some (.int (3 : Int32)), some (.int (0 : Int32)), some (.int (3 : Int32))]) ?_ rfl rfl rfl rfl
  refine V2_iload_n (i := 0) d_R_in_0 rfl rfl ?_
  refine V2_iload_n (i := 1) d_R_in_1 rfl rfl ?_
  refine V2_icmp_lt (tgt := 14) d_R_in_2 rfl (fun c => (by first | exact absurd c (by decide) | exact absurd (by decide) c)) (fun _ => ?_)
  refine V2_iload_n (i := 0) d_R_in_5 rfl rfl ?_
  refine V2_iload_n (i := 2) d_R_in_6 rfl rfl ?_
  refine V2_icmp_gt (tgt := 14) d_R_in_7 rfl (fun c => (by first | exact absurd c (by decide) | exact absurd (by decide) c)) (fun _ => ?_)
  refine V2_iconst (v := 1) d_R_in_10 rfl ?_
  refine V2_goto (tgt := 15) d_R_in_11 rfl ?_
  refine V2_zreturn d_R_in_15 rfl (by decide) ?_
  refine V2.to (st' := [.int (1 : Int32)]) ?_ rfl rfl rfl rfl
  refine V2_if_ne (tgt := 23) d_R_voice_14 rfl (fun _ => ?_) (fun c => (by first | exact absurd c (by decide) | exact absurd (by decide) c))
  refine V2_aload_n (i := 0) d_R_voice_23 rfl rfl ?_
  refine V2_iconst (v := 0) d_R_voice_24 rfl ?_
  refine V2_put d_R_voice_25 fl_R_227 (by decide) rfl (by decide) rfl ?_
  refine V2_aload_n (i := 0) d_R_voice_28 rfl rfl ?_
  refine V2_iload_n (i := 1) d_R_voice_29 rfl rfl ?_
  refine V2_put d_R_voice_30 fl_R_230 (by decide) rfl (by decide) rfl ?_
  refine V2_aload_n (i := 0) d_R_voice_33 rfl rfl ?_
  refine V2_iconst (v := 0) d_R_voice_34 rfl ?_
  refine V2_putz d_R_voice_35 fl_R_251 (by decide) rfl (by decide) rfl (by decide) ?_
  refine V2_aload_n (i := 0) d_R_voice_38 rfl rfl ?_
  refine V2_callV [] d_R_voice_39 rfl rfl lk_R_239 mo_R_kindNow (by decide) rfl rfl rfl (Nat.le_of_ble_eq_true rfl) (Nat.le_of_ble_eq_true rfl) ?_
  refine c_R_kindNow (p := p) (by omega) rfl ?_
  refine V2_lit (v := 1) (show F 66 (12 + 2 * p) = 1 from (congrFun e66 _).trans ek) ?_
  refine V2_istore (i := 4) (l' := [some (.ref 65), some (.int (nI p)), some (.int (3 : Int32)), some (.int x), some (.int (1 : Int32)), none]) d_R_voice_42 (xst_i (Nat.le_of_ble_eq_true rfl) rfl rfl) ?_
  refine V2_iload_n (i := 2) d_R_voice_44 rfl rfl ?_
  refine V2_if_ne (tgt := 58) d_R_voice_45 rfl (fun _ => ?_) (fun c => (by first | exact absurd c (by decide) | exact absurd (by decide) c))
  refine V2_iload_n (i := 2) d_R_voice_58 rfl rfl ?_
  refine V2_iconst (v := 1) d_R_voice_59 rfl ?_
  refine V2_icmp_ne (tgt := 73) d_R_voice_60 rfl (fun _ => ?_) (fun c => (by first | exact absurd c (by decide) | exact absurd (by decide) c))
  refine V2_iload_n (i := 2) d_R_voice_73 rfl rfl ?_
  refine V2_iconst (v := 2) d_R_voice_74 rfl ?_
  refine V2_icmp_ne (tgt := 88) d_R_voice_75 rfl (fun _ => ?_) (fun c => (by first | exact absurd c (by decide) | exact absurd (by decide) c))
  refine V2_aload_n (i := 0) d_R_voice_88 rfl rfl ?_
  refine V2_iload (i := 4) d_R_voice_89 rfl ?_
  refine V2_iload_n (i := 3) d_R_voice_91 rfl rfl ?_
  refine V2_callV [.int (1 : Int32), .int x] d_R_voice_92 rfl rfl lk_R_255 mo_R_partsAs (by decide) rfl rfl rfl (Nat.le_of_ble_eq_true rfl) (Nat.le_of_ble_eq_true rfl) ?_
  refine V2.to (l' := [some (.ref 65), some (.int (1 : Int32)), some (.int x), none, none]) ?_ rfl rfl rfl rfl
  refine V2_iload_n (i := 1) d_R_partsAs_0 rfl rfl ?_
  refine V2_lookup (tgt := 79) (off := 78) d_R_partsAs_1 (by decide) (by decide +kernel) rfl ?_
  refine V2_aload_n (i := 0) d_R_partsAs_79 rfl rfl ?_
  refine V2_bipush (v := 21) d_R_partsAs_80 rfl ?_
  refine V2_callV [.int (21 : Int32)] d_R_partsAs_82 rfl rfl lk_R_233 mo_R_begins (by decide) rfl rfl rfl (Nat.le_of_ble_eq_true rfl) (Nat.le_of_ble_eq_true rfl) ?_
  refine V2.to (l' := [some (.ref 65), some (.int (21 : Int32))]) ?_ rfl rfl rfl rfl
  refine V2_aload_n (i := 0) d_R_begins_0 rfl rfl ?_
  refine V2_get (v := (0 : Int32)) d_R_begins_1 fl_R_227 (by decide) rfl (by decide) rfl rfl ?_
  refine V2_bipush (v := 30) d_R_begins_4 rfl ?_
  refine V2_icmp_ge (tgt := 29) d_R_begins_6 rfl (fun c => (by first | exact absurd c (by decide) | exact absurd (by decide) c)) (fun _ => ?_)
  refine V2_aload_n (i := 0) d_R_begins_9 rfl rfl ?_
  refine V2_getr (a := 73) d_R_begins_10 fl_R_35 (by decide) rfl (by decide) rfl ?_
  refine V2_aload_n (i := 0) d_R_begins_13 rfl rfl ?_
  refine V2_get (v := (0 : Int32)) d_R_begins_14 fl_R_227 (by decide) rfl (by decide) rfl rfl ?_
  refine V2_iload_n (i := 1) d_R_begins_17 rfl rfl ?_
  refine V2_iastore (j := 0) d_R_begins_18 (by decide) rfl (xixA (n := 0) rfl (by decide) (by decide)) rfl ?_
  refine V2_aload_n (i := 0) d_R_begins_19 rfl rfl ?_
  refine V2_dup d_R_begins_20 rfl ?_
  refine V2_get (v := (0 : Int32)) d_R_begins_21 fl_R_227 (by decide) rfl (by decide) rfl rfl ?_
  refine V2_iconst (v := 1) d_R_begins_24 rfl ?_
  refine V2_iadd d_R_begins_25 ?_
  refine V2_lit (v := 1) (by decide) ?_
  refine V2_put d_R_begins_26 fl_R_227 (by decide) rfl (by decide) rfl ?_
  refine V2_return d_R_begins_29 rfl ?_
  refine V2.to (st' := []) ?_ rfl rfl rfl rfl
  refine V2_aload_n (i := 0) d_R_partsAs_85 rfl rfl ?_
  refine V2_iconst (v := 1) d_R_partsAs_86 rfl ?_
  refine V2_callS [.int (1 : Int32)] d_R_partsAs_87 rfl rfl lk_R_174 mo_R_above (Nat.le_of_ble_eq_true rfl) (Nat.le_of_ble_eq_true rfl) ?_
  refine V2.to (l' := [some (.int (1 : Int32))]) ?_ rfl rfl rfl rfl
  refine V2_iload_n (i := 0) d_R_above_0 rfl rfl ?_
  refine V2_iconst (v := 4) d_R_above_1 rfl ?_
  refine V2_icmp_ne (tgt := 9) d_R_above_2 rfl (fun _ => ?_) (fun c => (by first | exact absurd c (by decide) | exact absurd (by decide) c))
  refine V2_iload_n (i := 0) d_R_above_9 rfl rfl ?_
  refine V2_iconst (v := 5) d_R_above_10 rfl ?_
  refine V2_icmp_ne (tgt := 18) d_R_above_11 rfl (fun _ => ?_) (fun c => (by first | exact absurd c (by decide) | exact absurd (by decide) c))
  refine V2_iconst (v := 0) d_R_above_18 rfl ?_
  refine V2_ireturn d_R_above_19 rfl ?_
  refine V2.to (st' := [.int (0 : Int32), .ref 65]) ?_ rfl rfl rfl rfl
  refine V2_iload_n (i := 2) d_R_partsAs_90 rfl rfl ?_
  refine V2_callV [.int (0 : Int32), .int x] d_R_partsAs_91 rfl rfl lk_R_255 mo_R_partsAs (by decide) rfl rfl rfl (Nat.le_of_ble_eq_true rfl) (Nat.le_of_ble_eq_true rfl) ?_
  refine V2.to (l' := [some (.ref 65), some (.int (0 : Int32)), some (.int x), none, none]) ?_ rfl rfl rfl rfl
  refine V2_iload_n (i := 1) d_R_partsAs_0 rfl rfl ?_
  refine V2_lookup (tgt := 28) (off := 27) d_R_partsAs_1 (by decide) (by decide +kernel) rfl ?_
  refine V2_aload_n (i := 0) d_R_partsAs_28 rfl rfl ?_
  refine V2_bipush (v := 13) d_R_partsAs_29 rfl ?_
  refine V2_callV [.int (13 : Int32)] d_R_partsAs_31 rfl rfl lk_R_233 mo_R_begins (by decide) rfl rfl rfl (Nat.le_of_ble_eq_true rfl) (Nat.le_of_ble_eq_true rfl) ?_
  refine V2.to (l' := [some (.ref 65), some (.int (13 : Int32))]) ?_ rfl rfl rfl rfl
  refine V2_aload_n (i := 0) d_R_begins_0 rfl rfl ?_
  refine V2_get (v := (1 : Int32)) d_R_begins_1 fl_R_227 (by decide) rfl (by decide) rfl rfl ?_
  refine V2_bipush (v := 30) d_R_begins_4 rfl ?_
  refine V2_icmp_ge (tgt := 29) d_R_begins_6 rfl (fun c => (by first | exact absurd c (by decide) | exact absurd (by decide) c)) (fun _ => ?_)
  refine V2_aload_n (i := 0) d_R_begins_9 rfl rfl ?_
  refine V2_getr (a := 73) d_R_begins_10 fl_R_35 (by decide) rfl (by decide) rfl ?_
  refine V2_aload_n (i := 0) d_R_begins_13 rfl rfl ?_
  refine V2_get (v := (1 : Int32)) d_R_begins_14 fl_R_227 (by decide) rfl (by decide) rfl rfl ?_
  refine V2_iload_n (i := 1) d_R_begins_17 rfl rfl ?_
  refine V2_iastore (j := 1) d_R_begins_18 (by decide) rfl (xixA (n := 1) rfl (by decide) (by decide)) rfl ?_
  refine V2_aload_n (i := 0) d_R_begins_19 rfl rfl ?_
  refine V2_dup d_R_begins_20 rfl ?_
  refine V2_get (v := (1 : Int32)) d_R_begins_21 fl_R_227 (by decide) rfl (by decide) rfl rfl ?_
  refine V2_iconst (v := 1) d_R_begins_24 rfl ?_
  refine V2_iadd d_R_begins_25 ?_
  refine V2_lit (v := 2) (by decide) ?_
  refine V2_put d_R_begins_26 fl_R_227 (by decide) rfl (by decide) rfl ?_
  refine V2_return d_R_begins_29 rfl ?_
  refine V2.to (st' := []) ?_ rfl rfl rfl rfl
  refine V2_aload_n (i := 0) d_R_partsAs_34 rfl rfl ?_
  refine V2_callV [] d_R_partsAs_35 rfl rfl lk_R_245 mo_R_mNow (by decide) rfl rfl rfl (Nat.le_of_ble_eq_true rfl) (Nat.le_of_ble_eq_true rfl) ?_
  refine V2.to (l' := [some (.ref 65)]) ?_ rfl rfl rfl rfl
  refine V2_aload_n (i := 0) d_R_mNow_0 rfl rfl ?_
  refine V2_aload_n (i := 0) d_R_mNow_1 rfl rfl ?_
  refine V2_get (v := nI p) d_R_mNow_2 fl_R_230 (by decide) rfl (by decide) rfl rfl ?_
  refine V2_topi (fun v3 ev3 => ?_)
  refine V2_iconst (v := 1) d_R_mNow_5 rfl ?_
  refine V2_callV [.int v3, .int (1 : Int32)] d_R_mNow_6 rfl rfl lk_R_114 mo_R_its (by decide) rfl rfl rfl (Nat.le_of_ble_eq_true rfl) (Nat.le_of_ble_eq_true rfl) ?_
  rw [ev3]
  refine c_R_its1 (p := p) (by omega) ?_
  refine V2_lit (v := mm) (show F 66 (12 + 2 * p + 1) = mm from (congrFun e66 _).trans em) ?_
  refine V2_ireturn d_R_mNow_9 rfl ?_
  refine V2.to (st' := [.int mm]) ?_ rfl rfl rfl rfl
  refine V2_aload_n (i := 0) d_R_partsAs_38 rfl rfl ?_
  refine V2_get (v := nI p) d_R_partsAs_39 fl_R_230 (by decide) rfl (by decide) rfl rfl ?_
  refine V2_topi (fun v4 ev4 => ?_)
  refine V2_isub d_R_partsAs_42 ?_
  refine V2_topi (fun v5 ev5 => ?_)
  refine V2_istore_n (i := 3) (l' := [some (.ref 65), some (.int (0 : Int32)), some (.int x), some (.int v5), none]) d_R_partsAs_43 rfl (xst_i (Nat.le_of_ble_eq_true rfl) rfl rfl) ?_
  refine V2_aload_n (i := 0) d_R_partsAs_44 rfl rfl ?_
  refine V2_iload_n (i := 3) d_R_partsAs_45 rfl rfl ?_
  refine V2_if_ne (tgt := 53) d_R_partsAs_46 rfl (fun c6 => ?_) (fun c6 => (by first | exact absurd (show ¬ v5 = 0 from by subst ev5 ev4 ev3 ev1; exact hz) c6 | exact absurd c6 (show ¬ v5 = 0 from by subst ev5 ev4 ev3 ev1; exact hz)))
  refine V2_iconst (v := 0) d_R_partsAs_53 rfl ?_
  refine V2_putz d_R_partsAs_54 fl_R_251 (by decide) rfl (by decide) rfl (by decide) ?_
  refine V2_iload_n (i := 3) d_R_partsAs_57 rfl rfl ?_
  refine V2_if_ne (tgt := 65) d_R_partsAs_58 rfl (fun c7 => ?_) (fun c7 => (by first | exact absurd (show ¬ v5 = 0 from by subst ev5 ev4 ev3 ev1; exact hz) c7 | exact absurd c7 (show ¬ v5 = 0 from by subst ev5 ev4 ev3 ev1; exact hz)))
  refine V2_iload_n (i := 3) d_R_partsAs_65 rfl rfl ?_
  refine V2_iconst (v := -1) d_R_partsAs_66 rfl ?_
  refine V2_icmp_ne (tgt := 75) d_R_partsAs_67 rfl (fun c8 => ?_) (fun c8 => ?_)
  · refine V2_iload_n (i := 2) d_R_partsAs_75 rfl rfl ?_
    refine V2_iload_n (i := 3) d_R_partsAs_76 rfl rfl ?_
    refine V2_idiv d_R_partsAs_77 (by assumption) ?_
    refine V2_topi (fun v9 ev9 => ?_)
    have hq : v9 = x / (mm - nI p) := by
      subst ev9 ev5 ev4 ev3 ev1
      rfl
    rw [hq]
    refine V2_ireturn d_R_partsAs_78 rfl ?_
    refine V2.to (st' := [.int (x / (mm - nI p))]) ?_ rfl rfl rfl rfl
    refine V2_istore (i := 4) (l' := [some (.ref 65), some (.int (1 : Int32)), some (.int x), none, some (.int (x / (mm - nI p)))]) d_R_partsAs_94 (xst_0 (Nat.le_of_ble_eq_true rfl) rfl rfl) ?_
    refine V2_aload_n (i := 0) d_R_partsAs_96 rfl rfl ?_
    refine V2_get (v := (0 : Int32)) d_R_partsAs_97 fl_R_251 (by decide) rfl (by decide) rfl rfl ?_
    refine V2_if_eq (tgt := 107) d_R_partsAs_100 rfl (fun _ => ?_) (fun c => (by first | exact absurd c (by decide) | exact absurd (by decide) c))
    refine V2_iload (i := 4) d_R_partsAs_107 rfl ?_
    refine V2_aload_n (i := 0) d_R_partsAs_109 rfl rfl ?_
    refine V2_aload_n (i := 0) d_R_partsAs_110 rfl rfl ?_
    refine V2_callV [] d_R_partsAs_111 rfl rfl lk_R_239 mo_R_kindNow (by decide) rfl rfl rfl (Nat.le_of_ble_eq_true rfl) (Nat.le_of_ble_eq_true rfl) ?_
    refine c_R_kindNow (p := p) (by omega) rfl ?_
    refine V2_lit (v := 1) (show F 66 (12 + 2 * p) = 1 from (congrFun e66 _).trans ek) ?_
    refine V2_iconst (v := 1) d_R_partsAs_114 rfl ?_
    refine V2_callV [.int (1 : Int32), .int (1 : Int32)] d_R_partsAs_115 rfl rfl lk_R_242 mo_R_slipsAs (by decide) rfl rfl rfl (Nat.le_of_ble_eq_true rfl) (Nat.le_of_ble_eq_true rfl) ?_
    refine V2.to (l' := [some (.ref 65), some (.int (1 : Int32)), some (.int (1 : Int32))]) ?_ rfl rfl rfl rfl
    refine V2_iload_n (i := 1) d_R_slipsAs_0 rfl rfl ?_
    refine V2_tableIn (tgt := 120) (off := 119) d_R_slipsAs_1 (by decide) (by decide) (by decide) rfl ?_
    refine V2_aload_n (i := 0) d_R_slipsAs_120 rfl rfl ?_
    refine V2_iload_n (i := 1) d_R_slipsAs_121 rfl rfl ?_
    refine V2_callS [.int (1 : Int32)] d_R_slipsAs_122 rfl rfl lk_R_174 mo_R_above (Nat.le_of_ble_eq_true rfl) (Nat.le_of_ble_eq_true rfl) ?_
    refine V2.to (l' := [some (.int (1 : Int32))]) ?_ rfl rfl rfl rfl
    refine V2_iload_n (i := 0) d_R_above_0 rfl rfl ?_
    refine V2_iconst (v := 4) d_R_above_1 rfl ?_
    refine V2_icmp_ne (tgt := 9) d_R_above_2 rfl (fun _ => ?_) (fun c => (by first | exact absurd c (by decide) | exact absurd (by decide) c))
    refine V2_iload_n (i := 0) d_R_above_9 rfl rfl ?_
    refine V2_iconst (v := 5) d_R_above_10 rfl ?_
    refine V2_icmp_ne (tgt := 18) d_R_above_11 rfl (fun _ => ?_) (fun c => (by first | exact absurd c (by decide) | exact absurd (by decide) c))
    refine V2_iconst (v := 0) d_R_above_18 rfl ?_
    refine V2_ireturn d_R_above_19 rfl ?_
    refine V2.to (st' := [.int (0 : Int32), .ref 65]) ?_ rfl rfl rfl rfl
    refine V2_iload_n (i := 2) d_R_slipsAs_125 rfl rfl ?_
    refine V2_callV [.int (0 : Int32), .int (1 : Int32)] d_R_slipsAs_126 rfl rfl lk_R_242 mo_R_slipsAs (by decide) rfl rfl rfl (Nat.le_of_ble_eq_true rfl) (Nat.le_of_ble_eq_true rfl) ?_
    refine V2.to (l' := [some (.ref 65), some (.int (0 : Int32)), some (.int (1 : Int32))]) ?_ rfl rfl rfl rfl
    refine V2_iload_n (i := 1) d_R_slipsAs_0 rfl rfl ?_
    refine V2_tableIn (tgt := 44) (off := 43) d_R_slipsAs_1 (by decide) (by decide) (by decide) rfl ?_
    refine V2_aload_n (i := 0) d_R_slipsAs_44 rfl rfl ?_
    refine V2_bipush (v := 11) d_R_slipsAs_45 rfl ?_
    refine V2_callV [.int (11 : Int32)] d_R_slipsAs_47 rfl rfl lk_R_233 mo_R_begins (by decide) rfl rfl rfl (Nat.le_of_ble_eq_true rfl) (Nat.le_of_ble_eq_true rfl) ?_
    refine V2.to (l' := [some (.ref 65), some (.int (11 : Int32))]) ?_ rfl rfl rfl rfl
    refine V2_aload_n (i := 0) d_R_begins_0 rfl rfl ?_
    refine V2_get (v := (2 : Int32)) d_R_begins_1 fl_R_227 (by decide) rfl (by decide) rfl rfl ?_
    refine V2_bipush (v := 30) d_R_begins_4 rfl ?_
    refine V2_icmp_ge (tgt := 29) d_R_begins_6 rfl (fun c => (by first | exact absurd c (by decide) | exact absurd (by decide) c)) (fun _ => ?_)
    refine V2_aload_n (i := 0) d_R_begins_9 rfl rfl ?_
    refine V2_getr (a := 73) d_R_begins_10 fl_R_35 (by decide) rfl (by decide) rfl ?_
    refine V2_aload_n (i := 0) d_R_begins_13 rfl rfl ?_
    refine V2_get (v := (2 : Int32)) d_R_begins_14 fl_R_227 (by decide) rfl (by decide) rfl rfl ?_
    refine V2_iload_n (i := 1) d_R_begins_17 rfl rfl ?_
    refine V2_iastore (j := 2) d_R_begins_18 (by decide) rfl (xixA (n := 2) rfl (by decide) (by decide)) rfl ?_
    refine V2_aload_n (i := 0) d_R_begins_19 rfl rfl ?_
    refine V2_dup d_R_begins_20 rfl ?_
    refine V2_get (v := (2 : Int32)) d_R_begins_21 fl_R_227 (by decide) rfl (by decide) rfl rfl ?_
    refine V2_iconst (v := 1) d_R_begins_24 rfl ?_
    refine V2_iadd d_R_begins_25 ?_
    refine V2_lit (v := 3) (by decide) ?_
    refine V2_put d_R_begins_26 fl_R_227 (by decide) rfl (by decide) rfl ?_
    refine V2_return d_R_begins_29 rfl ?_
    refine V2.to (st' := []) ?_ rfl rfl rfl rfl
    refine V2_aload_n (i := 0) d_R_slipsAs_50 rfl rfl ?_
    refine V2_aload_n (i := 0) d_R_slipsAs_51 rfl rfl ?_
    refine V2_callV [] d_R_slipsAs_52 rfl rfl lk_R_239 mo_R_kindNow (by decide) rfl rfl rfl (Nat.le_of_ble_eq_true rfl) (Nat.le_of_ble_eq_true rfl) ?_
    refine c_R_kindNow (p := p) (by omega) rfl ?_
    refine V2_lit (v := 1) (show F 66 (12 + 2 * p) = 1 from (congrFun e66 _).trans ek) ?_
    refine V2_iload_n (i := 2) d_R_slipsAs_55 rfl rfl ?_
    refine V2_callV [.int (1 : Int32), .int (1 : Int32)] d_R_slipsAs_56 rfl rfl lk_R_236 mo_R_heavesAs (by decide) rfl rfl rfl (Nat.le_of_ble_eq_true rfl) (Nat.le_of_ble_eq_true rfl) ?_
    refine V2.to (l' := [some (.ref 65), some (.int (1 : Int32)), some (.int (1 : Int32))]) ?_ rfl rfl rfl rfl
    refine V2_iload_n (i := 1) d_R_heavesAs_0 rfl rfl ?_
    refine V2_tableIn (tgt := 57) (off := 56) d_R_heavesAs_1 (by decide) (by decide) (by decide) rfl ?_
    refine V2_aload_n (i := 0) d_R_heavesAs_57 rfl rfl ?_
    refine V2_bipush (v := 20) d_R_heavesAs_58 rfl ?_
    refine V2_callV [.int (20 : Int32)] d_R_heavesAs_60 rfl rfl lk_R_233 mo_R_begins (by decide) rfl rfl rfl (Nat.le_of_ble_eq_true rfl) (Nat.le_of_ble_eq_true rfl) ?_
    refine V2.to (l' := [some (.ref 65), some (.int (20 : Int32))]) ?_ rfl rfl rfl rfl
    refine V2_aload_n (i := 0) d_R_begins_0 rfl rfl ?_
    refine V2_get (v := (3 : Int32)) d_R_begins_1 fl_R_227 (by decide) rfl (by decide) rfl rfl ?_
    refine V2_bipush (v := 30) d_R_begins_4 rfl ?_
    refine V2_icmp_ge (tgt := 29) d_R_begins_6 rfl (fun c => (by first | exact absurd c (by decide) | exact absurd (by decide) c)) (fun _ => ?_)
    refine V2_aload_n (i := 0) d_R_begins_9 rfl rfl ?_
    refine V2_getr (a := 73) d_R_begins_10 fl_R_35 (by decide) rfl (by decide) rfl ?_
    refine V2_aload_n (i := 0) d_R_begins_13 rfl rfl ?_
    refine V2_get (v := (3 : Int32)) d_R_begins_14 fl_R_227 (by decide) rfl (by decide) rfl rfl ?_
    refine V2_iload_n (i := 1) d_R_begins_17 rfl rfl ?_
    refine V2_iastore (j := 3) d_R_begins_18 (by decide) rfl (xixA (n := 3) rfl (by decide) (by decide)) rfl ?_
    refine V2_aload_n (i := 0) d_R_begins_19 rfl rfl ?_
    refine V2_dup d_R_begins_20 rfl ?_
    refine V2_get (v := (3 : Int32)) d_R_begins_21 fl_R_227 (by decide) rfl (by decide) rfl rfl ?_
    refine V2_iconst (v := 1) d_R_begins_24 rfl ?_
    refine V2_iadd d_R_begins_25 ?_
    refine V2_lit (v := 4) (by decide) ?_
    refine V2_put d_R_begins_26 fl_R_227 (by decide) rfl (by decide) rfl ?_
    refine V2_return d_R_begins_29 rfl ?_
    refine V2.to (st' := []) ?_ rfl rfl rfl rfl
    refine V2_aload_n (i := 0) d_R_heavesAs_63 rfl rfl ?_
    refine V2_iconst (v := 1) d_R_heavesAs_64 rfl ?_
    refine V2_callS [.int (1 : Int32)] d_R_heavesAs_65 rfl rfl lk_R_174 mo_R_above (Nat.le_of_ble_eq_true rfl) (Nat.le_of_ble_eq_true rfl) ?_
    refine V2.to (l' := [some (.int (1 : Int32))]) ?_ rfl rfl rfl rfl
    refine V2_iload_n (i := 0) d_R_above_0 rfl rfl ?_
    refine V2_iconst (v := 4) d_R_above_1 rfl ?_
    refine V2_icmp_ne (tgt := 9) d_R_above_2 rfl (fun _ => ?_) (fun c => (by first | exact absurd c (by decide) | exact absurd (by decide) c))
    refine V2_iload_n (i := 0) d_R_above_9 rfl rfl ?_
    refine V2_iconst (v := 5) d_R_above_10 rfl ?_
    refine V2_icmp_ne (tgt := 18) d_R_above_11 rfl (fun _ => ?_) (fun c => (by first | exact absurd c (by decide) | exact absurd (by decide) c))
    refine V2_iconst (v := 0) d_R_above_18 rfl ?_
    refine V2_ireturn d_R_above_19 rfl ?_
    refine V2.to (st' := [.int (0 : Int32), .ref 65]) ?_ rfl rfl rfl rfl
    refine V2_iload_n (i := 2) d_R_heavesAs_68 rfl rfl ?_
    refine V2_callV [.int (0 : Int32), .int (1 : Int32)] d_R_heavesAs_69 rfl rfl lk_R_236 mo_R_heavesAs (by decide) rfl rfl rfl (Nat.le_of_ble_eq_true rfl) (Nat.le_of_ble_eq_true rfl) ?_
    refine V2.to (l' := [some (.ref 65), some (.int (0 : Int32)), some (.int (1 : Int32))]) ?_ rfl rfl rfl rfl
    refine V2_iload_n (i := 1) d_R_heavesAs_0 rfl rfl ?_
    refine V2_tableIn (tgt := 44) (off := 43) d_R_heavesAs_1 (by decide) (by decide) (by decide) rfl ?_
    refine V2_aload_n (i := 0) d_R_heavesAs_44 rfl rfl ?_
    refine V2_bipush (v := 10) d_R_heavesAs_45 rfl ?_
    refine V2_callV [.int (10 : Int32)] d_R_heavesAs_47 rfl rfl lk_R_233 mo_R_begins (by decide) rfl rfl rfl (Nat.le_of_ble_eq_true rfl) (Nat.le_of_ble_eq_true rfl) ?_
    refine V2.to (l' := [some (.ref 65), some (.int (10 : Int32))]) ?_ rfl rfl rfl rfl
    refine V2_aload_n (i := 0) d_R_begins_0 rfl rfl ?_
    refine V2_get (v := (4 : Int32)) d_R_begins_1 fl_R_227 (by decide) rfl (by decide) rfl rfl ?_
    refine V2_bipush (v := 30) d_R_begins_4 rfl ?_
    refine V2_icmp_ge (tgt := 29) d_R_begins_6 rfl (fun c => (by first | exact absurd c (by decide) | exact absurd (by decide) c)) (fun _ => ?_)
    refine V2_aload_n (i := 0) d_R_begins_9 rfl rfl ?_
    refine V2_getr (a := 73) d_R_begins_10 fl_R_35 (by decide) rfl (by decide) rfl ?_
    refine V2_aload_n (i := 0) d_R_begins_13 rfl rfl ?_
    refine V2_get (v := (4 : Int32)) d_R_begins_14 fl_R_227 (by decide) rfl (by decide) rfl rfl ?_
    refine V2_iload_n (i := 1) d_R_begins_17 rfl rfl ?_
    refine V2_iastore (j := 4) d_R_begins_18 (by decide) rfl (xixA (n := 4) rfl (by decide) (by decide)) rfl ?_
    refine V2_aload_n (i := 0) d_R_begins_19 rfl rfl ?_
    refine V2_dup d_R_begins_20 rfl ?_
    refine V2_get (v := (4 : Int32)) d_R_begins_21 fl_R_227 (by decide) rfl (by decide) rfl rfl ?_
    refine V2_iconst (v := 1) d_R_begins_24 rfl ?_
    refine V2_iadd d_R_begins_25 ?_
    refine V2_lit (v := 5) (by decide) ?_
    refine V2_put d_R_begins_26 fl_R_227 (by decide) rfl (by decide) rfl ?_
    refine V2_return d_R_begins_29 rfl ?_
    refine V2.to (st' := []) ?_ rfl rfl rfl rfl
    refine V2_iload_n (i := 2) d_R_heavesAs_50 rfl rfl ?_
    refine V2_aload_n (i := 0) d_R_heavesAs_51 rfl rfl ?_
    refine V2_get (v := nI p) d_R_heavesAs_52 fl_R_230 (by decide) rfl (by decide) rfl rfl ?_
    refine V2_topi (fun v10 ev10 => ?_)
    refine V2_iadd d_R_heavesAs_55 ?_
    refine V2_topi (fun v11 ev11 => ?_)
    refine V2_ireturn d_R_heavesAs_56 rfl ?_
    refine V2.to (st' := [.int v11]) ?_ rfl rfl rfl rfl
    refine V2_iconst (v := 4) d_R_heavesAs_72 rfl ?_
    refine V2_isub d_R_heavesAs_73 ?_
    refine V2_topi (fun v12 ev12 => ?_)
    refine V2_ireturn d_R_heavesAs_74 rfl ?_
    refine V2.to (st' := [.int v12]) ?_ rfl rfl rfl rfl
    refine V2_iconst (v := 2) d_R_slipsAs_59 rfl ?_
    refine V2_imul d_R_slipsAs_60 ?_
    refine V2_topi (fun v13 ev13 => ?_)
    refine V2_ireturn d_R_slipsAs_61 rfl ?_
    refine V2.to (st' := [.int v13]) ?_ rfl rfl rfl rfl
    refine V2_ireturn d_R_slipsAs_129 rfl ?_
    refine V2.to (st' := [.int v13, .int (x / (mm - nI p))]) ?_ rfl rfl rfl rfl
    refine V2_iadd d_R_partsAs_118 ?_
    refine V2_topi (fun v14 ev14 => ?_)
    refine V2_ireturn d_R_partsAs_119 rfl ?_
    refine V2.to (st' := [.int v14]) ?_ rfl rfl rfl rfl
    refine V2_istore (i := 5) (l' := [some (.ref 65), some (.int (nI p)), some (.int (3 : Int32)), some (.int x), some (.int (1 : Int32)), some (.int v14)]) d_R_voice_95 (xst_i (Nat.le_of_ble_eq_true rfl) rfl rfl) ?_
    refine V2_aload_n (i := 0) d_R_voice_97 rfl rfl ?_
    refine V2_get (v := (0 : Int32)) d_R_voice_98 fl_R_251 (by decide) rfl (by decide) rfl rfl ?_
    refine V2_if_eq (tgt := 113) d_R_voice_101 rfl (fun _ => ?_) (fun c => (by first | exact absurd c (by decide) | exact absurd (by decide) c))
    refine V2_iload (i := 5) d_R_voice_113 rfl ?_
    refine V2_ireturn d_R_voice_115 rfl ?_
    subst ev14 ev13 ev12 ev11 ev10 ev9 ev5 ev4 ev3 ev1
    refine xQi (hQ _ (rel_trace (n := 5) (b := (fun i => ([21, 13, 11, 20, 10] : List Int32).getD i 0)) hR (by decide) hM ?_ ?_ ?_ ?_ ?_)) ?_ rfl
    · intro a h1 h2
      repeat (first | rw [xp_row_ne h1] | rw [xp_row_ne h2])
      try rfl
    · rfl
    · rfl
    · rfl
    · exact (fun i hi => by rcases (show i = 0 ∨ i = 1 ∨ i = 2 ∨ i = 3 ∨ i = 4 by omega) with h9 | h9 | h9 | h9 | h9 <;> subst h9 <;> rfl)
    · first | rfl | decide
  · refine V2_iload_n (i := 2) d_R_partsAs_70 rfl rfl ?_
    refine V2_ineg d_R_partsAs_71 ?_
    refine V2_topi (fun v15 ev15 => ?_)
    refine V2_goto (tgt := 78) d_R_partsAs_72 rfl ?_
    have hq : v15 = x / (mm - nI p) := by
      have h9 := c8
      subst ev15 ev5 ev4 ev3 ev1
      rw [h9, i32_div_m1]
    rw [hq]
    refine V2_ireturn d_R_partsAs_78 rfl ?_
    refine V2.to (st' := [.int (x / (mm - nI p))]) ?_ rfl rfl rfl rfl
    refine V2_istore (i := 4) (l' := [some (.ref 65), some (.int (1 : Int32)), some (.int x), none, some (.int (x / (mm - nI p)))]) d_R_partsAs_94 (xst_0 (Nat.le_of_ble_eq_true rfl) rfl rfl) ?_
    refine V2_aload_n (i := 0) d_R_partsAs_96 rfl rfl ?_
    refine V2_get (v := (0 : Int32)) d_R_partsAs_97 fl_R_251 (by decide) rfl (by decide) rfl rfl ?_
    refine V2_if_eq (tgt := 107) d_R_partsAs_100 rfl (fun _ => ?_) (fun c => (by first | exact absurd c (by decide) | exact absurd (by decide) c))
    refine V2_iload (i := 4) d_R_partsAs_107 rfl ?_
    refine V2_aload_n (i := 0) d_R_partsAs_109 rfl rfl ?_
    refine V2_aload_n (i := 0) d_R_partsAs_110 rfl rfl ?_
    refine V2_callV [] d_R_partsAs_111 rfl rfl lk_R_239 mo_R_kindNow (by decide) rfl rfl rfl (Nat.le_of_ble_eq_true rfl) (Nat.le_of_ble_eq_true rfl) ?_
    refine c_R_kindNow (p := p) (by omega) rfl ?_
    refine V2_lit (v := 1) (show F 66 (12 + 2 * p) = 1 from (congrFun e66 _).trans ek) ?_
    refine V2_iconst (v := 1) d_R_partsAs_114 rfl ?_
    refine V2_callV [.int (1 : Int32), .int (1 : Int32)] d_R_partsAs_115 rfl rfl lk_R_242 mo_R_slipsAs (by decide) rfl rfl rfl (Nat.le_of_ble_eq_true rfl) (Nat.le_of_ble_eq_true rfl) ?_
    refine V2.to (l' := [some (.ref 65), some (.int (1 : Int32)), some (.int (1 : Int32))]) ?_ rfl rfl rfl rfl
    refine V2_iload_n (i := 1) d_R_slipsAs_0 rfl rfl ?_
    refine V2_tableIn (tgt := 120) (off := 119) d_R_slipsAs_1 (by decide) (by decide) (by decide) rfl ?_
    refine V2_aload_n (i := 0) d_R_slipsAs_120 rfl rfl ?_
    refine V2_iload_n (i := 1) d_R_slipsAs_121 rfl rfl ?_
    refine V2_callS [.int (1 : Int32)] d_R_slipsAs_122 rfl rfl lk_R_174 mo_R_above (Nat.le_of_ble_eq_true rfl) (Nat.le_of_ble_eq_true rfl) ?_
    refine V2.to (l' := [some (.int (1 : Int32))]) ?_ rfl rfl rfl rfl
    refine V2_iload_n (i := 0) d_R_above_0 rfl rfl ?_
    refine V2_iconst (v := 4) d_R_above_1 rfl ?_
    refine V2_icmp_ne (tgt := 9) d_R_above_2 rfl (fun _ => ?_) (fun c => (by first | exact absurd c (by decide) | exact absurd (by decide) c))
    refine V2_iload_n (i := 0) d_R_above_9 rfl rfl ?_
    refine V2_iconst (v := 5) d_R_above_10 rfl ?_
    refine V2_icmp_ne (tgt := 18) d_R_above_11 rfl (fun _ => ?_) (fun c => (by first | exact absurd c (by decide) | exact absurd (by decide) c))
    refine V2_iconst (v := 0) d_R_above_18 rfl ?_
    refine V2_ireturn d_R_above_19 rfl ?_
    refine V2.to (st' := [.int (0 : Int32), .ref 65]) ?_ rfl rfl rfl rfl
    refine V2_iload_n (i := 2) d_R_slipsAs_125 rfl rfl ?_
    refine V2_callV [.int (0 : Int32), .int (1 : Int32)] d_R_slipsAs_126 rfl rfl lk_R_242 mo_R_slipsAs (by decide) rfl rfl rfl (Nat.le_of_ble_eq_true rfl) (Nat.le_of_ble_eq_true rfl) ?_
    refine V2.to (l' := [some (.ref 65), some (.int (0 : Int32)), some (.int (1 : Int32))]) ?_ rfl rfl rfl rfl
    refine V2_iload_n (i := 1) d_R_slipsAs_0 rfl rfl ?_
    refine V2_tableIn (tgt := 44) (off := 43) d_R_slipsAs_1 (by decide) (by decide) (by decide) rfl ?_
    refine V2_aload_n (i := 0) d_R_slipsAs_44 rfl rfl ?_
    refine V2_bipush (v := 11) d_R_slipsAs_45 rfl ?_
    refine V2_callV [.int (11 : Int32)] d_R_slipsAs_47 rfl rfl lk_R_233 mo_R_begins (by decide) rfl rfl rfl (Nat.le_of_ble_eq_true rfl) (Nat.le_of_ble_eq_true rfl) ?_
    refine V2.to (l' := [some (.ref 65), some (.int (11 : Int32))]) ?_ rfl rfl rfl rfl
    refine V2_aload_n (i := 0) d_R_begins_0 rfl rfl ?_
    refine V2_get (v := (2 : Int32)) d_R_begins_1 fl_R_227 (by decide) rfl (by decide) rfl rfl ?_
    refine V2_bipush (v := 30) d_R_begins_4 rfl ?_
    refine V2_icmp_ge (tgt := 29) d_R_begins_6 rfl (fun c => (by first | exact absurd c (by decide) | exact absurd (by decide) c)) (fun _ => ?_)
    refine V2_aload_n (i := 0) d_R_begins_9 rfl rfl ?_
    refine V2_getr (a := 73) d_R_begins_10 fl_R_35 (by decide) rfl (by decide) rfl ?_
    refine V2_aload_n (i := 0) d_R_begins_13 rfl rfl ?_
    refine V2_get (v := (2 : Int32)) d_R_begins_14 fl_R_227 (by decide) rfl (by decide) rfl rfl ?_
    refine V2_iload_n (i := 1) d_R_begins_17 rfl rfl ?_
    refine V2_iastore (j := 2) d_R_begins_18 (by decide) rfl (xixA (n := 2) rfl (by decide) (by decide)) rfl ?_
    refine V2_aload_n (i := 0) d_R_begins_19 rfl rfl ?_
    refine V2_dup d_R_begins_20 rfl ?_
    refine V2_get (v := (2 : Int32)) d_R_begins_21 fl_R_227 (by decide) rfl (by decide) rfl rfl ?_
    refine V2_iconst (v := 1) d_R_begins_24 rfl ?_
    refine V2_iadd d_R_begins_25 ?_
    refine V2_lit (v := 3) (by decide) ?_
    refine V2_put d_R_begins_26 fl_R_227 (by decide) rfl (by decide) rfl ?_
    refine V2_return d_R_begins_29 rfl ?_
    refine V2.to (st' := []) ?_ rfl rfl rfl rfl
    refine V2_aload_n (i := 0) d_R_slipsAs_50 rfl rfl ?_
    refine V2_aload_n (i := 0) d_R_slipsAs_51 rfl rfl ?_
    refine V2_callV [] d_R_slipsAs_52 rfl rfl lk_R_239 mo_R_kindNow (by decide) rfl rfl rfl (Nat.le_of_ble_eq_true rfl) (Nat.le_of_ble_eq_true rfl) ?_
    refine c_R_kindNow (p := p) (by omega) rfl ?_
    refine V2_lit (v := 1) (show F 66 (12 + 2 * p) = 1 from (congrFun e66 _).trans ek) ?_
    refine V2_iload_n (i := 2) d_R_slipsAs_55 rfl rfl ?_
    refine V2_callV [.int (1 : Int32), .int (1 : Int32)] d_R_slipsAs_56 rfl rfl lk_R_236 mo_R_heavesAs (by decide) rfl rfl rfl (Nat.le_of_ble_eq_true rfl) (Nat.le_of_ble_eq_true rfl) ?_
    refine V2.to (l' := [some (.ref 65), some (.int (1 : Int32)), some (.int (1 : Int32))]) ?_ rfl rfl rfl rfl
    refine V2_iload_n (i := 1) d_R_heavesAs_0 rfl rfl ?_
    refine V2_tableIn (tgt := 57) (off := 56) d_R_heavesAs_1 (by decide) (by decide) (by decide) rfl ?_
    refine V2_aload_n (i := 0) d_R_heavesAs_57 rfl rfl ?_
    refine V2_bipush (v := 20) d_R_heavesAs_58 rfl ?_
    refine V2_callV [.int (20 : Int32)] d_R_heavesAs_60 rfl rfl lk_R_233 mo_R_begins (by decide) rfl rfl rfl (Nat.le_of_ble_eq_true rfl) (Nat.le_of_ble_eq_true rfl) ?_
    refine V2.to (l' := [some (.ref 65), some (.int (20 : Int32))]) ?_ rfl rfl rfl rfl
    refine V2_aload_n (i := 0) d_R_begins_0 rfl rfl ?_
    refine V2_get (v := (3 : Int32)) d_R_begins_1 fl_R_227 (by decide) rfl (by decide) rfl rfl ?_
    refine V2_bipush (v := 30) d_R_begins_4 rfl ?_
    refine V2_icmp_ge (tgt := 29) d_R_begins_6 rfl (fun c => (by first | exact absurd c (by decide) | exact absurd (by decide) c)) (fun _ => ?_)
    refine V2_aload_n (i := 0) d_R_begins_9 rfl rfl ?_
    refine V2_getr (a := 73) d_R_begins_10 fl_R_35 (by decide) rfl (by decide) rfl ?_
    refine V2_aload_n (i := 0) d_R_begins_13 rfl rfl ?_
    refine V2_get (v := (3 : Int32)) d_R_begins_14 fl_R_227 (by decide) rfl (by decide) rfl rfl ?_
    refine V2_iload_n (i := 1) d_R_begins_17 rfl rfl ?_
    refine V2_iastore (j := 3) d_R_begins_18 (by decide) rfl (xixA (n := 3) rfl (by decide) (by decide)) rfl ?_
    refine V2_aload_n (i := 0) d_R_begins_19 rfl rfl ?_
    refine V2_dup d_R_begins_20 rfl ?_
    refine V2_get (v := (3 : Int32)) d_R_begins_21 fl_R_227 (by decide) rfl (by decide) rfl rfl ?_
    refine V2_iconst (v := 1) d_R_begins_24 rfl ?_
    refine V2_iadd d_R_begins_25 ?_
    refine V2_lit (v := 4) (by decide) ?_
    refine V2_put d_R_begins_26 fl_R_227 (by decide) rfl (by decide) rfl ?_
    refine V2_return d_R_begins_29 rfl ?_
    refine V2.to (st' := []) ?_ rfl rfl rfl rfl
    refine V2_aload_n (i := 0) d_R_heavesAs_63 rfl rfl ?_
    refine V2_iconst (v := 1) d_R_heavesAs_64 rfl ?_
    refine V2_callS [.int (1 : Int32)] d_R_heavesAs_65 rfl rfl lk_R_174 mo_R_above (Nat.le_of_ble_eq_true rfl) (Nat.le_of_ble_eq_true rfl) ?_
    refine V2.to (l' := [some (.int (1 : Int32))]) ?_ rfl rfl rfl rfl
    refine V2_iload_n (i := 0) d_R_above_0 rfl rfl ?_
    refine V2_iconst (v := 4) d_R_above_1 rfl ?_
    refine V2_icmp_ne (tgt := 9) d_R_above_2 rfl (fun _ => ?_) (fun c => (by first | exact absurd c (by decide) | exact absurd (by decide) c))
    refine V2_iload_n (i := 0) d_R_above_9 rfl rfl ?_
    refine V2_iconst (v := 5) d_R_above_10 rfl ?_
    refine V2_icmp_ne (tgt := 18) d_R_above_11 rfl (fun _ => ?_) (fun c => (by first | exact absurd c (by decide) | exact absurd (by decide) c))
    refine V2_iconst (v := 0) d_R_above_18 rfl ?_
    refine V2_ireturn d_R_above_19 rfl ?_
    refine V2.to (st' := [.int (0 : Int32), .ref 65]) ?_ rfl rfl rfl rfl
    refine V2_iload_n (i := 2) d_R_heavesAs_68 rfl rfl ?_
    refine V2_callV [.int (0 : Int32), .int (1 : Int32)] d_R_heavesAs_69 rfl rfl lk_R_236 mo_R_heavesAs (by decide) rfl rfl rfl (Nat.le_of_ble_eq_true rfl) (Nat.le_of_ble_eq_true rfl) ?_
    refine V2.to (l' := [some (.ref 65), some (.int (0 : Int32)), some (.int (1 : Int32))]) ?_ rfl rfl rfl rfl
    refine V2_iload_n (i := 1) d_R_heavesAs_0 rfl rfl ?_
    refine V2_tableIn (tgt := 44) (off := 43) d_R_heavesAs_1 (by decide) (by decide) (by decide) rfl ?_
    refine V2_aload_n (i := 0) d_R_heavesAs_44 rfl rfl ?_
    refine V2_bipush (v := 10) d_R_heavesAs_45 rfl ?_
    refine V2_callV [.int (10 : Int32)] d_R_heavesAs_47 rfl rfl lk_R_233 mo_R_begins (by decide) rfl rfl rfl (Nat.le_of_ble_eq_true rfl) (Nat.le_of_ble_eq_true rfl) ?_
    refine V2.to (l' := [some (.ref 65), some (.int (10 : Int32))]) ?_ rfl rfl rfl rfl
    refine V2_aload_n (i := 0) d_R_begins_0 rfl rfl ?_
    refine V2_get (v := (4 : Int32)) d_R_begins_1 fl_R_227 (by decide) rfl (by decide) rfl rfl ?_
    refine V2_bipush (v := 30) d_R_begins_4 rfl ?_
    refine V2_icmp_ge (tgt := 29) d_R_begins_6 rfl (fun c => (by first | exact absurd c (by decide) | exact absurd (by decide) c)) (fun _ => ?_)
    refine V2_aload_n (i := 0) d_R_begins_9 rfl rfl ?_
    refine V2_getr (a := 73) d_R_begins_10 fl_R_35 (by decide) rfl (by decide) rfl ?_
    refine V2_aload_n (i := 0) d_R_begins_13 rfl rfl ?_
    refine V2_get (v := (4 : Int32)) d_R_begins_14 fl_R_227 (by decide) rfl (by decide) rfl rfl ?_
    refine V2_iload_n (i := 1) d_R_begins_17 rfl rfl ?_
    refine V2_iastore (j := 4) d_R_begins_18 (by decide) rfl (xixA (n := 4) rfl (by decide) (by decide)) rfl ?_
    refine V2_aload_n (i := 0) d_R_begins_19 rfl rfl ?_
    refine V2_dup d_R_begins_20 rfl ?_
    refine V2_get (v := (4 : Int32)) d_R_begins_21 fl_R_227 (by decide) rfl (by decide) rfl rfl ?_
    refine V2_iconst (v := 1) d_R_begins_24 rfl ?_
    refine V2_iadd d_R_begins_25 ?_
    refine V2_lit (v := 5) (by decide) ?_
    refine V2_put d_R_begins_26 fl_R_227 (by decide) rfl (by decide) rfl ?_
    refine V2_return d_R_begins_29 rfl ?_
    refine V2.to (st' := []) ?_ rfl rfl rfl rfl
    refine V2_iload_n (i := 2) d_R_heavesAs_50 rfl rfl ?_
    refine V2_aload_n (i := 0) d_R_heavesAs_51 rfl rfl ?_
    refine V2_get (v := nI p) d_R_heavesAs_52 fl_R_230 (by decide) rfl (by decide) rfl rfl ?_
    refine V2_topi (fun v16 ev16 => ?_)
    refine V2_iadd d_R_heavesAs_55 ?_
    refine V2_topi (fun v17 ev17 => ?_)
    refine V2_ireturn d_R_heavesAs_56 rfl ?_
    refine V2.to (st' := [.int v17]) ?_ rfl rfl rfl rfl
    refine V2_iconst (v := 4) d_R_heavesAs_72 rfl ?_
    refine V2_isub d_R_heavesAs_73 ?_
    refine V2_topi (fun v18 ev18 => ?_)
    refine V2_ireturn d_R_heavesAs_74 rfl ?_
    refine V2.to (st' := [.int v18]) ?_ rfl rfl rfl rfl
    refine V2_iconst (v := 2) d_R_slipsAs_59 rfl ?_
    refine V2_imul d_R_slipsAs_60 ?_
    refine V2_topi (fun v19 ev19 => ?_)
    refine V2_ireturn d_R_slipsAs_61 rfl ?_
    refine V2.to (st' := [.int v19]) ?_ rfl rfl rfl rfl
    refine V2_ireturn d_R_slipsAs_129 rfl ?_
    refine V2.to (st' := [.int v19, .int (x / (mm - nI p))]) ?_ rfl rfl rfl rfl
    refine V2_iadd d_R_partsAs_118 ?_
    refine V2_topi (fun v20 ev20 => ?_)
    refine V2_ireturn d_R_partsAs_119 rfl ?_
    refine V2.to (st' := [.int v20]) ?_ rfl rfl rfl rfl
    refine V2_istore (i := 5) (l' := [some (.ref 65), some (.int (nI p)), some (.int (3 : Int32)), some (.int x), some (.int (1 : Int32)), some (.int v20)]) d_R_voice_95 (xst_i (Nat.le_of_ble_eq_true rfl) rfl rfl) ?_
    refine V2_aload_n (i := 0) d_R_voice_97 rfl rfl ?_
    refine V2_get (v := (0 : Int32)) d_R_voice_98 fl_R_251 (by decide) rfl (by decide) rfl rfl ?_
    refine V2_if_eq (tgt := 113) d_R_voice_101 rfl (fun _ => ?_) (fun c => (by first | exact absurd c (by decide) | exact absurd (by decide) c))
    refine V2_iload (i := 5) d_R_voice_113 rfl ?_
    refine V2_ireturn d_R_voice_115 rfl ?_
    subst ev20 ev19 ev18 ev17 ev16 ev15 ev5 ev4 ev3 ev1
    refine xQi (hQ _ (rel_trace (n := 5) (b := (fun i => ([21, 13, 11, 20, 10] : List Int32).getD i 0)) hR (by decide) hM ?_ ?_ ?_ ?_ ?_)) ?_ rfl
    · intro a h1 h2
      repeat (first | rw [xp_row_ne h1] | rw [xp_row_ne h2])
      try rfl
    · rfl
    · rfl
    · rfl
    · exact (fun i hi => by rcases (show i = 0 ∨ i = 1 ∨ i = 2 ∨ i = 3 ∨ i = 4 by omega) with h9 | h9 | h9 | h9 | h9 <;> subst h9 <;> rfl)
    · first | rfl | decide
theorem c_cv_1_3z {L : Nat} {xs : Nat → Int32} {d : Nat} {Q : Option Value → xF → Prop} {F : xF} {p : Nat} {x mm : Int32} (hR : Rel F) (hp : p < PN (F 66)) (ek : F 66 (12 + 2 * p) = 1) (em : F 66 (12 + 2 * p + 1) = mm) (hz : mm - nI p = 0) (hQ : ∀ F1, Mid F F1 (errF (traceG F 2 (fun i => ([21, 13] : List Int32).getD i 0)) 6) → Q (some (.int (-1000000000 - 6))) F1) : V2 L xs (d + 40) m_P_voice 0 (xEntry [.ref 0, .int (nI p), .int (3 : Int32), .int x] 5) [] F Q := by
  obtain ⟨eP, hP6⟩ := inv_PN hR.2.1.2.2.1
  refine V2.to (l' := [some (.ref 0), some (.int (nI p)), some (.int (3 : Int32)), some (.int x), none]) ?_ rfl rfl rfl rfl
  refine V2_aload_n (i := 0) d_P_voice_0 rfl rfl ?_
  refine V2_getr (a := 1) d_P_voice_1 fl_P_10 (by decide) rfl (by decide) rfl ?_
  refine V2_getr (a := 3) d_P_voice_4 fl_P_70 (by decide) rfl (by decide) rfl ?_
  refine V2_iload_n (i := 1) d_P_voice_7 rfl rfl ?_
  refine V2_callV [.int (nI p)] d_P_voice_8 rfl rfl lk_P_84 mo_Push_has (by decide) rfl rfl rfl (Nat.le_of_ble_eq_true rfl) (Nat.le_of_ble_eq_true rfl) ?_
  refine c_Push_has (P := PN (F 66)) (hR.1.1.2.1.1.trans eP) hP6 ?_
  refine V2_topi (fun v1 ev1 => ?_)
  refine V2_if_eq (tgt := 21) d_P_voice_11 rfl (fun c2 => (by first | exact absurd c2 (show ¬ v1 = 0 from by subst ev1; exact xb_ne.mpr ⟨nI_pos' (by omega), by rw [hR.1.1.2.1.1, eP]; exact nI_lt hp (by omega)⟩) | exact absurd (show ¬ v1 = 0 from by subst ev1; exact xb_ne.mpr ⟨nI_pos' (by omega), by rw [hR.1.1.2.1.1, eP]; exact nI_lt hp (by omega)⟩) c2)) (fun c2 => ?_)
  refine V2_iload_n (i := 2) d_P_voice_14 rfl rfl ?_
  refine V2_callS [.int (3 : Int32)] d_P_voice_15 rfl rfl lk_P_290 mo_Voi_isVoice (Nat.le_of_ble_eq_true rfl) (Nat.le_of_ble_eq_true rfl) ?_
  refine V2.to (l' := [some (.int (3 : Int32))]) ?_ rfl rfl rfl rfl
  refine V2_iload_n (i := 0) d_Voi_isVoice_0 rfl rfl ?_
  refine V2_if_lt (tgt := 13) d_Voi_isVoice_1 rfl (fun c => (by first | exact absurd c (by decide) | exact absurd (by decide) c)) (fun _ => ?_)
  refine V2_iload_n (i := 0) d_Voi_isVoice_4 rfl rfl ?_
  refine V2_iconst (v := 4) d_Voi_isVoice_5 rfl ?_
  refine V2_icmp_ge (tgt := 13) d_Voi_isVoice_6 rfl (fun c => (by first | exact absurd c (by decide) | exact absurd (by decide) c)) (fun _ => ?_)
  refine V2_iconst (v := 1) d_Voi_isVoice_9 rfl ?_
  refine V2_goto (tgt := 14) d_Voi_isVoice_10 rfl ?_
  refine V2_zreturn d_Voi_isVoice_14 rfl (by decide) ?_
  refine V2.to (st' := [.int (1 : Int32)]) ?_ rfl rfl rfl rfl
  refine V2_if_ne (tgt := 27) d_P_voice_18 rfl (fun _ => ?_) (fun c => (by first | exact absurd c (by decide) | exact absurd (by decide) c))
  refine V2_aload_n (i := 0) d_P_voice_27 rfl rfl ?_
  refine V2_getr (a := 1) d_P_voice_28 fl_P_10 (by decide) rfl (by decide) rfl ?_
  refine V2_getr (a := 3) d_P_voice_31 fl_P_70 (by decide) rfl (by decide) rfl ?_
  refine V2_iload_n (i := 1) d_P_voice_34 rfl rfl ?_
  refine V2_callV [.int (nI p)] d_P_voice_35 rfl rfl lk_P_87 mo_Push_kindOf (by decide) rfl rfl rfl (Nat.le_of_ble_eq_true rfl) (Nat.le_of_ble_eq_true rfl) ?_
  refine c_Push_kindOf (P := PN (F 66)) (hR.1.1.2.1.1.trans eP) (hR.1.1.2.1.2.1.trans eP) hP6 hp ?_
  refine V2_lit (v := 1) (((rel_relP hR).2.2.2 p hp).1.trans ek) ?_
  refine V2_istore (i := 4) (l' := [some (.ref 0), some (.int (nI p)), some (.int (3 : Int32)), some (.int x), some (.int (1 : Int32))]) d_P_voice_38 (xst_i (Nat.le_of_ble_eq_true rfl) rfl rfl) ?_
  refine V2_aload_n (i := 0) d_P_voice_40 rfl rfl ?_
  refine V2_getr (a := 52) d_P_voice_41 fl_P_43 (by decide) rfl (by decide) rfl ?_
  refine V2_iload (i := 4) d_P_voice_44 rfl ?_
  refine V2_iload_n (i := 1) d_P_voice_46 rfl rfl ?_
  refine V2_aload_n (i := 0) d_P_voice_47 rfl rfl ?_
  refine V2_getr (a := 1) d_P_voice_48 fl_P_10 (by decide) rfl (by decide) rfl ?_
  refine V2_getr (a := 3) d_P_voice_51 fl_P_70 (by decide) rfl (by decide) rfl ?_
  refine V2_iload_n (i := 1) d_P_voice_54 rfl rfl ?_
  refine V2_callV [.int (nI p)] d_P_voice_55 rfl rfl lk_P_90 mo_Push_levelOf (by decide) rfl rfl rfl (Nat.le_of_ble_eq_true rfl) (Nat.le_of_ble_eq_true rfl) ?_
  refine c_Push_levelOf (P := PN (F 66)) (hR.1.1.2.1.1.trans eP) (hR.1.1.2.1.2.1.trans eP) hP6 hp ?_
  refine V2_lit (v := mm) (((rel_relP hR).2.2.2 p hp).2.trans em) ?_
  refine V2_iload_n (i := 2) d_P_voice_58 rfl rfl ?_
  refine V2_iload_n (i := 3) d_P_voice_59 rfl rfl ?_
  refine V2_callV [.int (1 : Int32), .int (nI p), .int mm, .int (3 : Int32), .int x] d_P_voice_60 rfl rfl lk_P_293 mo_Voi_speaks (by decide) rfl rfl rfl (Nat.le_of_ble_eq_true rfl) (Nat.le_of_ble_eq_true rfl) ?_
  refine V2.to (l' := [some (.ref 52), some (.int (1 : Int32)), some (.int (nI p)), some (.int mm), some (.int (3 : Int32)), some (.int x)]) ?_ rfl rfl rfl rfl
  refine V2_aload_n (i := 0) d_Voi_speaks_0 rfl rfl ?_
  refine V2_iload_n (i := 1) d_Voi_speaks_1 rfl rfl ?_
  refine V2_put d_Voi_speaks_2 fl_Voi_18 (by decide) rfl (by decide) rfl ?_
  refine V2_aload_n (i := 0) d_Voi_speaks_5 rfl rfl ?_
  refine V2_iload_n (i := 2) d_Voi_speaks_6 rfl rfl ?_
  refine V2_put d_Voi_speaks_7 fl_Voi_22 (by decide) rfl (by decide) rfl ?_
  refine V2_aload_n (i := 0) d_Voi_speaks_10 rfl rfl ?_
  refine V2_iload_n (i := 3) d_Voi_speaks_11 rfl rfl ?_
  refine V2_put d_Voi_speaks_12 fl_Voi_25 (by decide) rfl (by decide) rfl ?_
  refine V2_aload_n (i := 0) d_Voi_speaks_15 rfl rfl ?_
  refine V2_iconst (v := 0) d_Voi_speaks_16 rfl ?_
  refine V2_putz d_Voi_speaks_17 fl_Voi_31 (by decide) rfl (by decide) rfl (by decide) ?_
  refine V2_aload_n (i := 0) d_Voi_speaks_20 rfl rfl ?_
  refine V2_getr (a := 53) d_Voi_speaks_21 fl_Voi_14 (by decide) rfl (by decide) rfl ?_
  refine V2_callV [] d_Voi_speaks_24 rfl rfl lk_Voi_35 mo_Nums_empty (by decide) rfl rfl rfl (Nat.le_of_ble_eq_true rfl) (Nat.le_of_ble_eq_true rfl) ?_
  refine V2.to (l' := [some (.ref 53)]) ?_ rfl rfl rfl rfl
  refine V2_aload_n (i := 0) d_Nums_empty_0 rfl rfl ?_
  refine V2_iconst (v := 0) d_Nums_empty_1 rfl ?_
  refine V2_put d_Nums_empty_2 fl_Nums_7 (by decide) rfl (by decide) rfl ?_
  refine V2_return d_Nums_empty_5 rfl ?_
  refine V2.to (st' := []) ?_ rfl rfl rfl rfl
  refine V2_aload_n (i := 0) d_Voi_speaks_27 rfl rfl ?_
  refine V2_aload_n (i := 0) d_Voi_speaks_28 rfl rfl ?_
  refine V2_aload_n (i := 0) d_Voi_speaks_29 rfl rfl ?_
  refine V2_get (v := (1 : Int32)) d_Voi_speaks_30 fl_Voi_18 (by decide) rfl (by decide) rfl rfl ?_
  refine V2_iload (i := 4) d_Voi_speaks_33 rfl ?_
  refine V2_iload (i := 5) d_Voi_speaks_35 rfl ?_
  refine V2_iconst (v := 0) d_Voi_speaks_37 rfl ?_
  refine V2_callV [.int (1 : Int32), .int (3 : Int32), .int x, .int (0 : Int32)] d_Voi_speaks_38 rfl rfl lk_Voi_38 mo_Voi_says (by decide) rfl rfl rfl (Nat.le_of_ble_eq_true rfl) (Nat.le_of_ble_eq_true rfl) ?_
  refine V2.to (l' := [some (.ref 52), some (.int (1 : Int32)), some (.int (3 : Int32)), some (.int x), some (.int (0 : Int32)), none]) ?_ rfl rfl rfl rfl
  refine V2_iload_n (i := 1) d_Voi_says_0 rfl rfl ?_
  refine V2_iload_n (i := 2) d_Voi_says_1 rfl rfl ?_
  refine V2_callS [.int (1 : Int32), .int (3 : Int32)] d_Voi_says_2 rfl rfl lk_Voi_42 mo_Voi_bodyFrom (Nat.le_of_ble_eq_true rfl) (Nat.le_of_ble_eq_true rfl) ?_
  refine V2.to (l' := [some (.int (1 : Int32)), some (.int (3 : Int32)), none, none, none]) ?_ rfl rfl rfl rfl
  refine V2_iload_n (i := 0) d_Voi_bodyFrom_0 rfl rfl ?_
  refine V2_istore_n (i := 2) (l' := [some (.int (1 : Int32)), some (.int (3 : Int32)), some (.int (1 : Int32)), none, none]) d_Voi_bodyFrom_1 rfl (xst_i (Nat.le_of_ble_eq_true rfl) rfl rfl) ?_
  refine V2_iconst (v := 0) d_Voi_bodyFrom_2 rfl ?_
  refine V2_istore_n (i := 3) (l' := [some (.int (1 : Int32)), some (.int (3 : Int32)), some (.int (1 : Int32)), some (.int (0 : Int32)), none]) d_Voi_bodyFrom_3 rfl (xst_i (Nat.le_of_ble_eq_true rfl) rfl rfl) ?_
  refine V2_iload_n (i := 3) d_Voi_bodyFrom_4 rfl rfl ?_
  refine V2_getsB d_Voi_bodyFrom_5 gs_Voi_53 ?_
  refine V2_bodieslen d_Voi_bodyFrom_8 ?_
  refine V2_icmp_ge (tgt := 45) d_Voi_bodyFrom_9 rfl (fun c => (by first | exact absurd c (by decide) | exact absurd (by decide) c)) (fun _ => ?_)
  refine V2_iload_n (i := 2) d_Voi_bodyFrom_12 rfl rfl ?_
  refine V2_if_lt (tgt := 45) d_Voi_bodyFrom_13 rfl (fun c => (by first | exact absurd c (by decide) | exact absurd (by decide) c)) (fun _ => ?_)
  refine V2_iload_n (i := 2) d_Voi_bodyFrom_16 rfl rfl ?_
  refine V2_iconst (v := 4) d_Voi_bodyFrom_17 rfl ?_
  refine V2_imul d_Voi_bodyFrom_18 ?_
  refine V2_lit (v := 4) (by decide) ?_
  refine V2_iload_n (i := 1) d_Voi_bodyFrom_19 rfl rfl ?_
  refine V2_iadd d_Voi_bodyFrom_20 ?_
  refine V2_lit (v := 7) (by decide) ?_
  refine V2_callS [.int (7 : Int32)] d_Voi_bodyFrom_21 rfl rfl lk_Voi_57 mo_Voi_bodyAt (Nat.le_of_ble_eq_true rfl) (Nat.le_of_ble_eq_true rfl) ?_
  refine V2.to (l' := [some (.int (7 : Int32))]) ?_ rfl rfl rfl rfl
  refine V2_iload_n (i := 0) d_Voi_bodyAt_0 rfl rfl ?_
  refine V2_if_lt (tgt := 20) d_Voi_bodyAt_1 rfl (fun c => (by first | exact absurd c (by decide) | exact absurd (by decide) c)) (fun _ => ?_)
  refine V2_iload_n (i := 0) d_Voi_bodyAt_4 rfl rfl ?_
  refine V2_getsB d_Voi_bodyAt_5 gs_Voi_53 ?_
  refine V2_bodieslen d_Voi_bodyAt_8 ?_
  refine V2_icmp_ge (tgt := 20) d_Voi_bodyAt_9 rfl (fun c => (by first | exact absurd c (by decide) | exact absurd (by decide) c)) (fun _ => ?_)
  refine V2_getsB d_Voi_bodyAt_12 gs_Voi_53 ?_
  refine V2_iload_n (i := 0) d_Voi_bodyAt_15 rfl rfl ?_
  refine V2_bodies (v := 21) d_Voi_bodyAt_16 (xixA (n := 7) rfl (by decide) (by decide)) (by decide) ?_
  refine V2_goto (tgt := 21) d_Voi_bodyAt_17 rfl ?_
  refine V2_ireturn d_Voi_bodyAt_21 rfl ?_
  refine V2.to (st' := [.int (21 : Int32)]) ?_ rfl rfl rfl rfl
  refine V2_istore (i := 4) (l' := [some (.int (1 : Int32)), some (.int (3 : Int32)), some (.int (1 : Int32)), some (.int (0 : Int32)), some (.int (21 : Int32))]) d_Voi_bodyFrom_24 (xst_i (Nat.le_of_ble_eq_true rfl) rfl rfl) ?_
  refine V2_iload (i := 4) d_Voi_bodyFrom_26 rfl ?_
  refine V2_if_eq (tgt := 34) d_Voi_bodyFrom_28 rfl (fun c => (by first | exact absurd c (by decide) | exact absurd (by decide) c)) (fun _ => ?_)
  refine V2_iload (i := 4) d_Voi_bodyFrom_31 rfl ?_
  refine V2_ireturn d_Voi_bodyFrom_33 rfl ?_
  refine V2.to (st' := [.int (21 : Int32)]) ?_ rfl rfl rfl rfl
  refine V2_istore (i := 5) (l' := [some (.ref 52), some (.int (1 : Int32)), some (.int (3 : Int32)), some (.int x), some (.int (0 : Int32)), some (.int (21 : Int32))]) d_Voi_says_5 (xst_i (Nat.le_of_ble_eq_true rfl) rfl rfl) ?_
  refine V2_aload_n (i := 0) d_Voi_says_7 rfl rfl ?_
  refine V2_get (v := (0 : Int32)) d_Voi_says_8 fl_Voi_31 (by decide) rfl (by decide) rfl rfl ?_
  refine V2_if_ne (tgt := 26) d_Voi_says_11 rfl (fun c => (by first | exact absurd c (by decide) | exact absurd (by decide) c)) (fun _ => ?_)
  refine V2_iload (i := 5) d_Voi_says_14 rfl ?_
  refine V2_if_eq (tgt := 26) d_Voi_says_16 rfl (fun c => (by first | exact absurd c (by decide) | exact absurd (by decide) c)) (fun _ => ?_)
  refine V2_iload (i := 4) d_Voi_says_19 rfl ?_
  refine V2_bipush (v := 30) d_Voi_says_21 rfl ?_
  refine V2_icmp_lt (tgt := 28) d_Voi_says_23 rfl (fun _ => ?_) (fun c => (by first | exact absurd c (by decide) | exact absurd (by decide) c))
  refine V2_aload_n (i := 0) d_Voi_says_28 rfl rfl ?_
  refine V2_getr (a := 53) d_Voi_says_29 fl_Voi_14 (by decide) rfl (by decide) rfl ?_
  refine V2_iload (i := 5) d_Voi_says_32 rfl ?_
  refine V2_callV [.int (21 : Int32)] d_Voi_says_34 rfl rfl lk_Voi_46 mo_Nums_add (by decide) rfl rfl rfl (Nat.le_of_ble_eq_true rfl) (Nat.le_of_ble_eq_true rfl) ?_
  refine V2.to (l' := [some (.ref 53), some (.int (21 : Int32))]) ?_ rfl rfl rfl rfl
  refine V2_aload_n (i := 0) d_Nums_add_0 rfl rfl ?_
  refine V2_get (v := (0 : Int32)) d_Nums_add_1 fl_Nums_7 (by decide) rfl (by decide) rfl rfl ?_
  refine V2_if_lt (tgt := 39) d_Nums_add_4 rfl (fun c => (by first | exact absurd c (by decide) | exact absurd (by decide) c)) (fun _ => ?_)
  refine V2_aload_n (i := 0) d_Nums_add_7 rfl rfl ?_
  refine V2_get (v := (0 : Int32)) d_Nums_add_8 fl_Nums_7 (by decide) rfl (by decide) rfl rfl ?_
  refine V2_aload_n (i := 0) d_Nums_add_11 rfl rfl ?_
  refine V2_getr (a := 54) d_Nums_add_12 fl_Nums_19 (by decide) rfl (by decide) rfl ?_
  refine V2_alen (t := 0) (v := 30) d_Nums_add_15 (by decide) rfl (by decide) rfl ?_
  refine V2_icmp_ge (tgt := 39) d_Nums_add_16 rfl (fun c => (by first | exact absurd c (by decide) | exact absurd (by decide) c)) (fun _ => ?_)
  refine V2_aload_n (i := 0) d_Nums_add_19 rfl rfl ?_
  refine V2_getr (a := 54) d_Nums_add_20 fl_Nums_19 (by decide) rfl (by decide) rfl ?_
  refine V2_aload_n (i := 0) d_Nums_add_23 rfl rfl ?_
  refine V2_get (v := (0 : Int32)) d_Nums_add_24 fl_Nums_7 (by decide) rfl (by decide) rfl rfl ?_
  refine V2_iload_n (i := 1) d_Nums_add_27 rfl rfl ?_
  refine V2_iastore (j := 0) d_Nums_add_28 (by decide) rfl (xixA (n := 0) rfl (by decide) (by decide)) rfl ?_
  refine V2_aload_n (i := 0) d_Nums_add_29 rfl rfl ?_
  refine V2_dup d_Nums_add_30 rfl ?_
  refine V2_get (v := (0 : Int32)) d_Nums_add_31 fl_Nums_7 (by decide) rfl (by decide) rfl rfl ?_
  refine V2_iconst (v := 1) d_Nums_add_34 rfl ?_
  refine V2_iadd d_Nums_add_35 ?_
  refine V2_lit (v := 1) (by decide) ?_
  refine V2_put d_Nums_add_36 fl_Nums_7 (by decide) rfl (by decide) rfl ?_
  refine V2_return d_Nums_add_39 rfl ?_
  refine V2.to (st' := []) ?_ rfl rfl rfl rfl
  refine V2_aload_n (i := 0) d_Voi_says_37 rfl rfl ?_
  refine V2_iload (i := 5) d_Voi_says_38 rfl ?_
  refine V2_iload_n (i := 3) d_Voi_says_40 rfl rfl ?_
  refine V2_iload (i := 4) d_Voi_says_41 rfl ?_
  refine V2_iconst (v := 1) d_Voi_says_43 rfl ?_
  refine V2_iadd d_Voi_says_44 ?_
  refine V2_lit (v := 1) (by decide) ?_
  refine V2_callV [.int (21 : Int32), .int x, .int (1 : Int32)] d_Voi_says_45 rfl rfl lk_Voi_49 mo_Voi_worksOut (by decide) rfl rfl rfl (Nat.le_of_ble_eq_true rfl) (Nat.le_of_ble_eq_true rfl) ?_
  refine V2.to (l' := [some (.ref 52), some (.int (21 : Int32)), some (.int x), some (.int (1 : Int32))]) ?_ rfl rfl rfl rfl
  refine V2_iload_n (i := 1) d_Voi_worksOut_0 rfl rfl ?_
  refine V2_lookup (tgt := 180) (off := 179) d_Voi_worksOut_1 (by decide) (by decide +kernel) rfl ?_
  refine V2_aload_n (i := 0) d_Voi_worksOut_180 rfl rfl ?_
  refine V2_iconst (v := 0) d_Voi_worksOut_181 rfl ?_
  refine V2_iconst (v := 3) d_Voi_worksOut_182 rfl ?_
  refine V2_iload_n (i := 2) d_Voi_worksOut_183 rfl rfl ?_
  refine V2_iload_n (i := 3) d_Voi_worksOut_184 rfl rfl ?_
  refine V2_callV [.int (0 : Int32), .int (3 : Int32), .int x, .int (1 : Int32)] d_Voi_worksOut_185 rfl rfl lk_Voi_38 mo_Voi_says (by decide) rfl rfl rfl (Nat.le_of_ble_eq_true rfl) (Nat.le_of_ble_eq_true rfl) ?_
  refine V2.to (l' := [some (.ref 52), some (.int (0 : Int32)), some (.int (3 : Int32)), some (.int x), some (.int (1 : Int32)), none]) ?_ rfl rfl rfl rfl
  refine V2_iload_n (i := 1) d_Voi_says_0 rfl rfl ?_
  refine V2_iload_n (i := 2) d_Voi_says_1 rfl rfl ?_
  refine V2_callS [.int (0 : Int32), .int (3 : Int32)] d_Voi_says_2 rfl rfl lk_Voi_42 mo_Voi_bodyFrom (Nat.le_of_ble_eq_true rfl) (Nat.le_of_ble_eq_true rfl) ?_
  refine V2.to (l' := [some (.int (0 : Int32)), some (.int (3 : Int32)), none, none, none]) ?_ rfl rfl rfl rfl
  refine V2_iload_n (i := 0) d_Voi_bodyFrom_0 rfl rfl ?_
  refine V2_istore_n (i := 2) (l' := [some (.int (0 : Int32)), some (.int (3 : Int32)), some (.int (0 : Int32)), none, none]) d_Voi_bodyFrom_1 rfl (xst_i (Nat.le_of_ble_eq_true rfl) rfl rfl) ?_
  refine V2_iconst (v := 0) d_Voi_bodyFrom_2 rfl ?_
  refine V2_istore_n (i := 3) (l' := [some (.int (0 : Int32)), some (.int (3 : Int32)), some (.int (0 : Int32)), some (.int (0 : Int32)), none]) d_Voi_bodyFrom_3 rfl (xst_i (Nat.le_of_ble_eq_true rfl) rfl rfl) ?_
  refine V2_iload_n (i := 3) d_Voi_bodyFrom_4 rfl rfl ?_
  refine V2_getsB d_Voi_bodyFrom_5 gs_Voi_53 ?_
  refine V2_bodieslen d_Voi_bodyFrom_8 ?_
  refine V2_icmp_ge (tgt := 45) d_Voi_bodyFrom_9 rfl (fun c => (by first | exact absurd c (by decide) | exact absurd (by decide) c)) (fun _ => ?_)
  refine V2_iload_n (i := 2) d_Voi_bodyFrom_12 rfl rfl ?_
  refine V2_if_lt (tgt := 45) d_Voi_bodyFrom_13 rfl (fun c => (by first | exact absurd c (by decide) | exact absurd (by decide) c)) (fun _ => ?_)
  refine V2_iload_n (i := 2) d_Voi_bodyFrom_16 rfl rfl ?_
  refine V2_iconst (v := 4) d_Voi_bodyFrom_17 rfl ?_
  refine V2_imul d_Voi_bodyFrom_18 ?_
  refine V2_lit (v := 0) (by decide) ?_
  refine V2_iload_n (i := 1) d_Voi_bodyFrom_19 rfl rfl ?_
  refine V2_iadd d_Voi_bodyFrom_20 ?_
  refine V2_lit (v := 3) (by decide) ?_
  refine V2_callS [.int (3 : Int32)] d_Voi_bodyFrom_21 rfl rfl lk_Voi_57 mo_Voi_bodyAt (Nat.le_of_ble_eq_true rfl) (Nat.le_of_ble_eq_true rfl) ?_
  refine V2.to (l' := [some (.int (3 : Int32))]) ?_ rfl rfl rfl rfl
  refine V2_iload_n (i := 0) d_Voi_bodyAt_0 rfl rfl ?_
  refine V2_if_lt (tgt := 20) d_Voi_bodyAt_1 rfl (fun c => (by first | exact absurd c (by decide) | exact absurd (by decide) c)) (fun _ => ?_)
  refine V2_iload_n (i := 0) d_Voi_bodyAt_4 rfl rfl ?_
  refine V2_getsB d_Voi_bodyAt_5 gs_Voi_53 ?_
  refine V2_bodieslen d_Voi_bodyAt_8 ?_
  refine V2_icmp_ge (tgt := 20) d_Voi_bodyAt_9 rfl (fun c => (by first | exact absurd c (by decide) | exact absurd (by decide) c)) (fun _ => ?_)
  refine V2_getsB d_Voi_bodyAt_12 gs_Voi_53 ?_
  refine V2_iload_n (i := 0) d_Voi_bodyAt_15 rfl rfl ?_
  refine V2_bodies (v := 13) d_Voi_bodyAt_16 (xixA (n := 3) rfl (by decide) (by decide)) (by decide) ?_
  refine V2_goto (tgt := 21) d_Voi_bodyAt_17 rfl ?_
  refine V2_ireturn d_Voi_bodyAt_21 rfl ?_
  refine V2.to (st' := [.int (13 : Int32)]) ?_ rfl rfl rfl rfl
  refine V2_istore (i := 4) (l' := [some (.int (0 : Int32)), some (.int (3 : Int32)), some (.int (0 : Int32)), some (.int (0 : Int32)), some (.int (13 : Int32))]) d_Voi_bodyFrom_24 (xst_i (Nat.le_of_ble_eq_true rfl) rfl rfl) ?_
  refine V2_iload (i := 4) d_Voi_bodyFrom_26 rfl ?_
  refine V2_if_eq (tgt := 34) d_Voi_bodyFrom_28 rfl (fun c => (by first | exact absurd c (by decide) | exact absurd (by decide) c)) (fun _ => ?_)
  refine V2_iload (i := 4) d_Voi_bodyFrom_31 rfl ?_
  refine V2_ireturn d_Voi_bodyFrom_33 rfl ?_
  refine V2.to (st' := [.int (13 : Int32)]) ?_ rfl rfl rfl rfl
  refine V2_istore (i := 5) (l' := [some (.ref 52), some (.int (0 : Int32)), some (.int (3 : Int32)), some (.int x), some (.int (1 : Int32)), some (.int (13 : Int32))]) d_Voi_says_5 (xst_i (Nat.le_of_ble_eq_true rfl) rfl rfl) ?_
  refine V2_aload_n (i := 0) d_Voi_says_7 rfl rfl ?_
  refine V2_get (v := (0 : Int32)) d_Voi_says_8 fl_Voi_31 (by decide) rfl (by decide) rfl rfl ?_
  refine V2_if_ne (tgt := 26) d_Voi_says_11 rfl (fun c => (by first | exact absurd c (by decide) | exact absurd (by decide) c)) (fun _ => ?_)
  refine V2_iload (i := 5) d_Voi_says_14 rfl ?_
  refine V2_if_eq (tgt := 26) d_Voi_says_16 rfl (fun c => (by first | exact absurd c (by decide) | exact absurd (by decide) c)) (fun _ => ?_)
  refine V2_iload (i := 4) d_Voi_says_19 rfl ?_
  refine V2_bipush (v := 30) d_Voi_says_21 rfl ?_
  refine V2_icmp_lt (tgt := 28) d_Voi_says_23 rfl (fun _ => ?_) (fun c => (by first | exact absurd c (by decide) | exact absurd (by decide) c))
  refine V2_aload_n (i := 0) d_Voi_says_28 rfl rfl ?_
  refine V2_getr (a := 53) d_Voi_says_29 fl_Voi_14 (by decide) rfl (by decide) rfl ?_
  refine V2_iload (i := 5) d_Voi_says_32 rfl ?_
  refine V2_callV [.int (13 : Int32)] d_Voi_says_34 rfl rfl lk_Voi_46 mo_Nums_add (by decide) rfl rfl rfl (Nat.le_of_ble_eq_true rfl) (Nat.le_of_ble_eq_true rfl) ?_
  refine V2.to (l' := [some (.ref 53), some (.int (13 : Int32))]) ?_ rfl rfl rfl rfl
  refine V2_aload_n (i := 0) d_Nums_add_0 rfl rfl ?_
  refine V2_get (v := (1 : Int32)) d_Nums_add_1 fl_Nums_7 (by decide) rfl (by decide) rfl rfl ?_
  refine V2_if_lt (tgt := 39) d_Nums_add_4 rfl (fun c => (by first | exact absurd c (by decide) | exact absurd (by decide) c)) (fun _ => ?_)
  refine V2_aload_n (i := 0) d_Nums_add_7 rfl rfl ?_
  refine V2_get (v := (1 : Int32)) d_Nums_add_8 fl_Nums_7 (by decide) rfl (by decide) rfl rfl ?_
  refine V2_aload_n (i := 0) d_Nums_add_11 rfl rfl ?_
  refine V2_getr (a := 54) d_Nums_add_12 fl_Nums_19 (by decide) rfl (by decide) rfl ?_
  refine V2_alen (t := 0) (v := 30) d_Nums_add_15 (by decide) rfl (by decide) rfl ?_
  refine V2_icmp_ge (tgt := 39) d_Nums_add_16 rfl (fun c => (by first | exact absurd c (by decide) | exact absurd (by decide) c)) (fun _ => ?_)
  refine V2_aload_n (i := 0) d_Nums_add_19 rfl rfl ?_
  refine V2_getr (a := 54) d_Nums_add_20 fl_Nums_19 (by decide) rfl (by decide) rfl ?_
  refine V2_aload_n (i := 0) d_Nums_add_23 rfl rfl ?_
  refine V2_get (v := (1 : Int32)) d_Nums_add_24 fl_Nums_7 (by decide) rfl (by decide) rfl rfl ?_
  refine V2_iload_n (i := 1) d_Nums_add_27 rfl rfl ?_
  refine V2_iastore (j := 1) d_Nums_add_28 (by decide) rfl (xixA (n := 1) rfl (by decide) (by decide)) rfl ?_
  refine V2_aload_n (i := 0) d_Nums_add_29 rfl rfl ?_
  refine V2_dup d_Nums_add_30 rfl ?_
  refine V2_get (v := (1 : Int32)) d_Nums_add_31 fl_Nums_7 (by decide) rfl (by decide) rfl rfl ?_
  refine V2_iconst (v := 1) d_Nums_add_34 rfl ?_
  refine V2_iadd d_Nums_add_35 ?_
  refine V2_lit (v := 2) (by decide) ?_
  refine V2_put d_Nums_add_36 fl_Nums_7 (by decide) rfl (by decide) rfl ?_
  refine V2_return d_Nums_add_39 rfl ?_
  refine V2.to (st' := []) ?_ rfl rfl rfl rfl
  refine V2_aload_n (i := 0) d_Voi_says_37 rfl rfl ?_
  refine V2_iload (i := 5) d_Voi_says_38 rfl ?_
  refine V2_iload_n (i := 3) d_Voi_says_40 rfl rfl ?_
  refine V2_iload (i := 4) d_Voi_says_41 rfl ?_
  refine V2_iconst (v := 1) d_Voi_says_43 rfl ?_
  refine V2_iadd d_Voi_says_44 ?_
  refine V2_lit (v := 2) (by decide) ?_
  refine V2_callV [.int (13 : Int32), .int x, .int (2 : Int32)] d_Voi_says_45 rfl rfl lk_Voi_49 mo_Voi_worksOut (by decide) rfl rfl rfl (Nat.le_of_ble_eq_true rfl) (Nat.le_of_ble_eq_true rfl) ?_
  refine V2.to (l' := [some (.ref 52), some (.int (13 : Int32)), some (.int x), some (.int (2 : Int32))]) ?_ rfl rfl rfl rfl
  refine V2_iload_n (i := 1) d_Voi_worksOut_0 rfl rfl ?_
  refine V2_lookup (tgt := 154) (off := 153) d_Voi_worksOut_1 (by decide) (by decide +kernel) rfl ?_
  refine V2_aload_n (i := 0) d_Voi_worksOut_154 rfl rfl ?_
  refine V2_iload_n (i := 2) d_Voi_worksOut_155 rfl rfl ?_
  refine V2_aload_n (i := 0) d_Voi_worksOut_156 rfl rfl ?_
  refine V2_get (v := mm) d_Voi_worksOut_157 fl_Voi_25 (by decide) rfl (by decide) rfl rfl ?_
  refine V2_aload_n (i := 0) d_Voi_worksOut_160 rfl rfl ?_
  refine V2_get (v := nI p) d_Voi_worksOut_161 fl_Voi_22 (by decide) rfl (by decide) rfl rfl ?_
  refine V2_topi (fun v3 ev3 => ?_)
  refine V2_isub d_Voi_worksOut_164 ?_
  refine V2_topi (fun v4 ev4 => ?_)
  refine V2_callV [.int x, .int v4] d_Voi_worksOut_165 rfl rfl lk_Voi_66 mo_Voi_partsBy (by decide) rfl rfl rfl (Nat.le_of_ble_eq_true rfl) (Nat.le_of_ble_eq_true rfl) ?_
  refine V2.to (l' := [some (.ref 52), some (.int x), some (.int v4)]) ?_ rfl rfl rfl rfl
  refine V2_iload_n (i := 2) d_Voi_partsBy_0 rfl rfl ?_
  refine V2_if_ne (tgt := 11) d_Voi_partsBy_1 rfl (fun c5 => (by first | exact absurd c5 (show v4 = 0 from by subst ev4 ev3 ev1; exact hz) | exact absurd (show v4 = 0 from by subst ev4 ev3 ev1; exact hz) c5)) (fun c5 => ?_)
  refine V2_aload_n (i := 0) d_Voi_partsBy_4 rfl rfl ?_
  refine V2_iconst (v := 1) d_Voi_partsBy_5 rfl ?_
  refine V2_putz d_Voi_partsBy_6 fl_Voi_31 (by decide) rfl (by decide) rfl (by decide) ?_
  refine V2_iconst (v := 0) d_Voi_partsBy_9 rfl ?_
  refine V2_ireturn d_Voi_partsBy_10 rfl ?_
  refine V2.to (st' := [.int (0 : Int32)]) ?_ rfl rfl rfl rfl
  refine V2_ireturn d_Voi_worksOut_168 rfl ?_
  refine V2.to (st' := [.int (0 : Int32)]) ?_ rfl rfl rfl rfl
  refine V2_ireturn d_Voi_says_48 rfl ?_
  refine V2.to (st' := [.int (0 : Int32)]) ?_ rfl rfl rfl rfl
  refine V2_aload_n (i := 0) d_Voi_worksOut_188 rfl rfl ?_
  refine V2_aload_n (i := 0) d_Voi_worksOut_189 rfl rfl ?_
  refine V2_get (v := (1 : Int32)) d_Voi_worksOut_190 fl_Voi_18 (by decide) rfl (by decide) rfl rfl ?_
  refine V2_iconst (v := 1) d_Voi_worksOut_193 rfl ?_
  refine V2_iconst (v := 1) d_Voi_worksOut_194 rfl ?_
  refine V2_iload_n (i := 3) d_Voi_worksOut_195 rfl rfl ?_
  refine V2_callV [.int (1 : Int32), .int (1 : Int32), .int (1 : Int32), .int (1 : Int32)] d_Voi_worksOut_196 rfl rfl lk_Voi_38 mo_Voi_says (by decide) rfl rfl rfl (Nat.le_of_ble_eq_true rfl) (Nat.le_of_ble_eq_true rfl) ?_
  refine V2.to (l' := [some (.ref 52), some (.int (1 : Int32)), some (.int (1 : Int32)), some (.int (1 : Int32)), some (.int (1 : Int32)), none]) ?_ rfl rfl rfl rfl
  refine V2_iload_n (i := 1) d_Voi_says_0 rfl rfl ?_
  refine V2_iload_n (i := 2) d_Voi_says_1 rfl rfl ?_
  refine V2_callS [.int (1 : Int32), .int (1 : Int32)] d_Voi_says_2 rfl rfl lk_Voi_42 mo_Voi_bodyFrom (Nat.le_of_ble_eq_true rfl) (Nat.le_of_ble_eq_true rfl) ?_
  refine V2.to (l' := [some (.int (1 : Int32)), some (.int (1 : Int32)), none, none, none]) ?_ rfl rfl rfl rfl
  refine V2_iload_n (i := 0) d_Voi_bodyFrom_0 rfl rfl ?_
  refine V2_istore_n (i := 2) (l' := [some (.int (1 : Int32)), some (.int (1 : Int32)), some (.int (1 : Int32)), none, none]) d_Voi_bodyFrom_1 rfl (xst_i (Nat.le_of_ble_eq_true rfl) rfl rfl) ?_
  refine V2_iconst (v := 0) d_Voi_bodyFrom_2 rfl ?_
  refine V2_istore_n (i := 3) (l' := [some (.int (1 : Int32)), some (.int (1 : Int32)), some (.int (1 : Int32)), some (.int (0 : Int32)), none]) d_Voi_bodyFrom_3 rfl (xst_i (Nat.le_of_ble_eq_true rfl) rfl rfl) ?_
  refine V2_iload_n (i := 3) d_Voi_bodyFrom_4 rfl rfl ?_
  refine V2_getsB d_Voi_bodyFrom_5 gs_Voi_53 ?_
  refine V2_bodieslen d_Voi_bodyFrom_8 ?_
  refine V2_icmp_ge (tgt := 45) d_Voi_bodyFrom_9 rfl (fun c => (by first | exact absurd c (by decide) | exact absurd (by decide) c)) (fun _ => ?_)
  refine V2_iload_n (i := 2) d_Voi_bodyFrom_12 rfl rfl ?_
  refine V2_if_lt (tgt := 45) d_Voi_bodyFrom_13 rfl (fun c => (by first | exact absurd c (by decide) | exact absurd (by decide) c)) (fun _ => ?_)
  refine V2_iload_n (i := 2) d_Voi_bodyFrom_16 rfl rfl ?_
  refine V2_iconst (v := 4) d_Voi_bodyFrom_17 rfl ?_
  refine V2_imul d_Voi_bodyFrom_18 ?_
  refine V2_lit (v := 4) (by decide) ?_
  refine V2_iload_n (i := 1) d_Voi_bodyFrom_19 rfl rfl ?_
  refine V2_iadd d_Voi_bodyFrom_20 ?_
  refine V2_lit (v := 5) (by decide) ?_
  refine V2_callS [.int (5 : Int32)] d_Voi_bodyFrom_21 rfl rfl lk_Voi_57 mo_Voi_bodyAt (Nat.le_of_ble_eq_true rfl) (Nat.le_of_ble_eq_true rfl) ?_
  refine V2.to (l' := [some (.int (5 : Int32))]) ?_ rfl rfl rfl rfl
  refine V2_iload_n (i := 0) d_Voi_bodyAt_0 rfl rfl ?_
  refine V2_if_lt (tgt := 20) d_Voi_bodyAt_1 rfl (fun c => (by first | exact absurd c (by decide) | exact absurd (by decide) c)) (fun _ => ?_)
  refine V2_iload_n (i := 0) d_Voi_bodyAt_4 rfl rfl ?_
  refine V2_getsB d_Voi_bodyAt_5 gs_Voi_53 ?_
  refine V2_bodieslen d_Voi_bodyAt_8 ?_
  refine V2_icmp_ge (tgt := 20) d_Voi_bodyAt_9 rfl (fun c => (by first | exact absurd c (by decide) | exact absurd (by decide) c)) (fun _ => ?_)
  refine V2_getsB d_Voi_bodyAt_12 gs_Voi_53 ?_
  refine V2_iload_n (i := 0) d_Voi_bodyAt_15 rfl rfl ?_
  refine V2_bodies (v := 0) d_Voi_bodyAt_16 (xixA (n := 5) rfl (by decide) (by decide)) (by decide) ?_
  refine V2_goto (tgt := 21) d_Voi_bodyAt_17 rfl ?_
  refine V2_ireturn d_Voi_bodyAt_21 rfl ?_
  refine V2.to (st' := [.int (0 : Int32)]) ?_ rfl rfl rfl rfl
  refine V2_istore (i := 4) (l' := [some (.int (1 : Int32)), some (.int (1 : Int32)), some (.int (1 : Int32)), some (.int (0 : Int32)), some (.int (0 : Int32))]) d_Voi_bodyFrom_24 (xst_i (Nat.le_of_ble_eq_true rfl) rfl rfl) ?_
  refine V2_iload (i := 4) d_Voi_bodyFrom_26 rfl ?_
  refine V2_if_eq (tgt := 34) d_Voi_bodyFrom_28 rfl (fun _ => ?_) (fun c => (by first | exact absurd c (by decide) | exact absurd (by decide) c))
  refine V2_iload_n (i := 2) d_Voi_bodyFrom_34 rfl rfl ?_
  refine V2_callS [.int (1 : Int32)] d_Voi_bodyFrom_35 rfl rfl lk_Voi_61 mo_Kinds_above (Nat.le_of_ble_eq_true rfl) (Nat.le_of_ble_eq_true rfl) ?_
  refine V2.to (l' := [some (.int (1 : Int32))]) ?_ rfl rfl rfl rfl
  refine V2_iload_n (i := 0) d_Kinds_above_0 rfl rfl ?_
  refine V2_callS [.int (1 : Int32)] d_Kinds_above_1 rfl rfl lk_Kinds_13 mo_Kinds_isKind (Nat.le_of_ble_eq_true rfl) (Nat.le_of_ble_eq_true rfl) ?_
  refine V2.to (l' := [some (.int (1 : Int32))]) ?_ rfl rfl rfl rfl
  refine V2_iload_n (i := 0) d_Kinds_isKind_0 rfl rfl ?_
  refine V2_if_lt (tgt := 16) d_Kinds_isKind_1 rfl (fun c => (by first | exact absurd c (by decide) | exact absurd (by decide) c)) (fun _ => ?_)
  refine V2_iload_n (i := 0) d_Kinds_isKind_4 rfl rfl ?_
  refine V2_getsA d_Kinds_isKind_5 gs_Kinds_7 ?_
  refine V2_abovelen d_Kinds_isKind_8 ?_
  refine V2_icmp_ge (tgt := 16) d_Kinds_isKind_9 rfl (fun c => (by first | exact absurd c (by decide) | exact absurd (by decide) c)) (fun _ => ?_)
  refine V2_iconst (v := 1) d_Kinds_isKind_12 rfl ?_
  refine V2_goto (tgt := 17) d_Kinds_isKind_13 rfl ?_
  refine V2_zreturn d_Kinds_isKind_17 rfl (by decide) ?_
  refine V2.to (st' := [.int (1 : Int32)]) ?_ rfl rfl rfl rfl
  refine V2_if_eq (tgt := 15) d_Kinds_above_4 rfl (fun c => (by first | exact absurd c (by decide) | exact absurd (by decide) c)) (fun _ => ?_)
  refine V2_getsA d_Kinds_above_7 gs_Kinds_7 ?_
  refine V2_iload_n (i := 0) d_Kinds_above_10 rfl rfl ?_
  refine V2_above (v := 0) d_Kinds_above_11 (xixA (n := 1) rfl (by decide) (by decide)) (by decide) ?_
  refine V2_goto (tgt := 16) d_Kinds_above_12 rfl ?_
  refine V2_ireturn d_Kinds_above_16 rfl ?_
  refine V2.to (st' := [.int (0 : Int32)]) ?_ rfl rfl rfl rfl
  refine V2_istore_n (i := 2) (l' := [some (.int (1 : Int32)), some (.int (1 : Int32)), some (.int (0 : Int32)), some (.int (0 : Int32)), some (.int (0 : Int32))]) d_Voi_bodyFrom_38 rfl (xst_i (Nat.le_of_ble_eq_true rfl) rfl rfl) ?_
  refine V2_iinc (i := 3) (v := 1) (l' := [some (.int (1 : Int32)), some (.int (1 : Int32)), some (.int (0 : Int32)), some (.int (1 : Int32)), some (.int (0 : Int32))]) d_Voi_bodyFrom_39 rfl (by decide) (xst_i (Nat.le_of_ble_eq_true rfl) rfl rfl) ?_
  refine V2_goto (tgt := 4) d_Voi_bodyFrom_42 rfl ?_
  refine V2_iload_n (i := 3) d_Voi_bodyFrom_4 rfl rfl ?_
  refine V2_getsB d_Voi_bodyFrom_5 gs_Voi_53 ?_
  refine V2_bodieslen d_Voi_bodyFrom_8 ?_
  refine V2_icmp_ge (tgt := 45) d_Voi_bodyFrom_9 rfl (fun c => (by first | exact absurd c (by decide) | exact absurd (by decide) c)) (fun _ => ?_)
  refine V2_iload_n (i := 2) d_Voi_bodyFrom_12 rfl rfl ?_
  refine V2_if_lt (tgt := 45) d_Voi_bodyFrom_13 rfl (fun c => (by first | exact absurd c (by decide) | exact absurd (by decide) c)) (fun _ => ?_)
  refine V2_iload_n (i := 2) d_Voi_bodyFrom_16 rfl rfl ?_
  refine V2_iconst (v := 4) d_Voi_bodyFrom_17 rfl ?_
  refine V2_imul d_Voi_bodyFrom_18 ?_
  refine V2_lit (v := 0) (by decide) ?_
  refine V2_iload_n (i := 1) d_Voi_bodyFrom_19 rfl rfl ?_
  refine V2_iadd d_Voi_bodyFrom_20 ?_
  refine V2_lit (v := 1) (by decide) ?_
  refine V2_callS [.int (1 : Int32)] d_Voi_bodyFrom_21 rfl rfl lk_Voi_57 mo_Voi_bodyAt (Nat.le_of_ble_eq_true rfl) (Nat.le_of_ble_eq_true rfl) ?_
  refine V2.to (l' := [some (.int (1 : Int32))]) ?_ rfl rfl rfl rfl
  refine V2_iload_n (i := 0) d_Voi_bodyAt_0 rfl rfl ?_
  refine V2_if_lt (tgt := 20) d_Voi_bodyAt_1 rfl (fun c => (by first | exact absurd c (by decide) | exact absurd (by decide) c)) (fun _ => ?_)
  refine V2_iload_n (i := 0) d_Voi_bodyAt_4 rfl rfl ?_
  refine V2_getsB d_Voi_bodyAt_5 gs_Voi_53 ?_
  refine V2_bodieslen d_Voi_bodyAt_8 ?_
  refine V2_icmp_ge (tgt := 20) d_Voi_bodyAt_9 rfl (fun c => (by first | exact absurd c (by decide) | exact absurd (by decide) c)) (fun _ => ?_)
  refine V2_getsB d_Voi_bodyAt_12 gs_Voi_53 ?_
  refine V2_iload_n (i := 0) d_Voi_bodyAt_15 rfl rfl ?_
  refine V2_bodies (v := 11) d_Voi_bodyAt_16 (xixA (n := 1) rfl (by decide) (by decide)) (by decide) ?_
  refine V2_goto (tgt := 21) d_Voi_bodyAt_17 rfl ?_
  refine V2_ireturn d_Voi_bodyAt_21 rfl ?_
  refine V2.to (st' := [.int (11 : Int32)]) ?_ rfl rfl rfl rfl
  refine V2_istore (i := 4) (l' := [some (.int (1 : Int32)), some (.int (1 : Int32)), some (.int (0 : Int32)), some (.int (1 : Int32)), some (.int (11 : Int32))]) d_Voi_bodyFrom_24 (xst_i (Nat.le_of_ble_eq_true rfl) rfl rfl) ?_
  refine V2_iload (i := 4) d_Voi_bodyFrom_26 rfl ?_
  refine V2_if_eq (tgt := 34) d_Voi_bodyFrom_28 rfl (fun c => (by first | exact absurd c (by decide) | exact absurd (by decide) c)) (fun _ => ?_)
  refine V2_iload (i := 4) d_Voi_bodyFrom_31 rfl ?_
  refine V2_ireturn d_Voi_bodyFrom_33 rfl ?_
  refine V2.to (st' := [.int (11 : Int32)]) ?_ rfl rfl rfl rfl
  refine V2_istore (i := 5) (l' := [some (.ref 52), some (.int (1 : Int32)), some (.int (1 : Int32)), some (.int (1 : Int32)), some (.int (1 : Int32)), some (.int (11 : Int32))]) d_Voi_says_5 (xst_i (Nat.le_of_ble_eq_true rfl) rfl rfl) ?_
  refine V2_aload_n (i := 0) d_Voi_says_7 rfl rfl ?_
  refine V2_get (v := (1 : Int32)) d_Voi_says_8 fl_Voi_31 (by decide) rfl (by decide) rfl rfl ?_
  refine V2_if_ne (tgt := 26) d_Voi_says_11 rfl (fun _ => ?_) (fun c => (by first | exact absurd c (by decide) | exact absurd (by decide) c))
  refine V2_iconst (v := 0) d_Voi_says_26 rfl ?_
  refine V2_ireturn d_Voi_says_27 rfl ?_
  refine V2.to (st' := [.int (0 : Int32), .int (0 : Int32)]) ?_ rfl rfl rfl rfl
  refine V2_iadd d_Voi_worksOut_199 ?_
  refine V2_lit (v := 0) (by decide) ?_
  refine V2_ireturn d_Voi_worksOut_200 rfl ?_
  refine V2.to (st' := [.int (0 : Int32)]) ?_ rfl rfl rfl rfl
  refine V2_ireturn d_Voi_says_48 rfl ?_
  refine V2.to (st' := [.int (0 : Int32), .ref 52]) ?_ rfl rfl rfl rfl
  refine V2_put d_Voi_speaks_41 fl_Voi_28 (by decide) rfl (by decide) rfl ?_
  refine V2_aload_n (i := 0) d_Voi_speaks_44 rfl rfl ?_
  refine V2_get (v := (1 : Int32)) d_Voi_speaks_45 fl_Voi_31 (by decide) rfl (by decide) rfl rfl ?_
  refine V2_if_ne (tgt := 55) d_Voi_speaks_48 rfl (fun _ => ?_) (fun c => (by first | exact absurd c (by decide) | exact absurd (by decide) c))
  refine V2_iconst (v := 0) d_Voi_speaks_55 rfl ?_
  refine V2_zreturn d_Voi_speaks_56 rfl (by decide) ?_
  refine V2.to (st' := [.int (0 : Int32)]) ?_ rfl rfl rfl rfl
  refine V2_if_ne (tgt := 73) d_P_voice_63 rfl (fun c => (by first | exact absurd c (by decide) | exact absurd (by decide) c)) (fun _ => ?_)
  refine V2_aload_n (i := 0) d_P_voice_66 rfl rfl ?_
  refine V2_bipush (v := 6) d_P_voice_67 rfl ?_
  refine V2_callV [.int (6 : Int32)] d_P_voice_69 rfl rfl lk_P_66 mo_P_fails (by decide) rfl rfl rfl (Nat.le_of_ble_eq_true rfl) (Nat.le_of_ble_eq_true rfl) ?_
  refine c_P_fails6 ?_
  refine V2_topi (fun v7 ev7 => ?_)
  refine V2_ireturn d_P_voice_72 rfl ?_
  subst ev7 ev4 ev3 ev1
  exact xQi (hQ _ (mid_errG (mid_trace (n := 2) (b := (fun i => ([21, 13] : List Int32).getD i 0)) hR (by decide) (fun a h1 h2 h3 => by   repeat (first | rw [xp_row_ne h1] | rw [xp_row_ne h2] | rw [xp_row_ne h3]) ; try rfl) rfl (fun i hi => by rcases (show i = 0 ∨ i = 1 by omega) with h9 | h9 <;> subst h9 <;> rfl)) (by decide))) rfl rfl
theorem c_mv_1_3z {L : Nat} {xs : Nat → Int32} {d : Nat} {Q : Option Value → xF → Prop} {F : xF} {p : Nat} {x mm : Int32} {F0 : xF} (hR : Rel F0) (hp : p < PN (F0 66)) (ek : F0 66 (12 + 2 * p) = 1) (em : F0 66 (12 + 2 * p + 1) = mm) (hz : mm - nI p = 0) (hM : Mid F0 F (errF (traceG F0 2 (fun i => ([21, 13] : List Int32).getD i 0)) 6)) (hQ : ∀ F2, Rel F2 → Q (some (.int (-1000000000 - 6))) F2) : V2 L xs (d + 40) m_R_voice 0 (xEntry [.ref 65, .int (nI p), .int (3 : Int32), .int x] 6) [] F Q := by
  have e66 : F 66 = F0 66 := hM.1 66 (by decide)
  obtain ⟨eP, hP6⟩ := inv_PN hR.2.1.2.2.1
  have s1 : (F 66 11 - 1).toInt = (PN (F0 66) : Int) - 1 := sub_any (n := PN (F0 66)) ((congrFun e66 11).trans eP) (by omega) (by decide)
  refine V2.to (l' := [some (.ref 65), some (.int (nI p)), some (.int (3 : Int32)), some (.int x), none, none]) ?_ rfl rfl rfl rfl
  refine V2_aload_n (i := 0) d_R_voice_0 rfl rfl ?_
  refine V2_iload_n (i := 1) d_R_voice_1 rfl rfl ?_
  refine V2_callV [.int (nI p)] d_R_voice_2 rfl rfl lk_R_168 mo_R_isPusher (by decide) rfl rfl rfl (Nat.le_of_ble_eq_true rfl) (Nat.le_of_ble_eq_true rfl) ?_
  refine c_R_isPusher ?_
  refine V2_topi (fun v1 ev1 => ?_)
  refine V2_if_eq (tgt := 17) d_R_voice_5 rfl (fun c2 => (by first | exact absurd c2 (show ¬ v1 = 0 from by subst ev1; exact xb_ne.mpr (by rw [toI_le, toI_le, s1, nI_toInt (by omega)]; have q0 : (0 : Int32).toInt = 0 := (by decide); omega)) | exact absurd (show ¬ v1 = 0 from by subst ev1; exact xb_ne.mpr (by rw [toI_le, toI_le, s1, nI_toInt (by omega)]; have q0 : (0 : Int32).toInt = 0 := (by decide); omega)) c2)) (fun c2 => ?_)
  refine V2_iload_n (i := 2) d_R_voice_8 rfl rfl ?_
  refine V2_iconst (v := 0) d_R_voice_9 rfl ?_
  refine V2_iconst (v := 3) d_R_voice_10 rfl ?_
  refine V2_callS [.int (3 : Int32), .int (0 : Int32), .int (3 : Int32)] d_R_voice_11 rfl rfl lk_R_51 mo_R_in (Nat.le_of_ble_eq_true rfl) (Nat.le_of_ble_eq_true rfl) ?_
  refine V2.to (l' := [some (.int (3 : Int32)), some (.int (0 : Int32)), some (.int (3 : Int32))]) ?_ rfl rfl rfl rfl
  refine V2_iload_n (i := 0) d_R_in_0 rfl rfl ?_
  refine V2_iload_n (i := 1) d_R_in_1 rfl rfl ?_
  refine V2_icmp_lt (tgt := 14) d_R_in_2 rfl (fun c => (by first | exact absurd c (by decide) | exact absurd (by decide) c)) (fun _ => ?_)
  refine V2_iload_n (i := 0) d_R_in_5 rfl rfl ?_
  refine V2_iload_n (i := 2) d_R_in_6 rfl rfl ?_
  refine V2_icmp_gt (tgt := 14) d_R_in_7 rfl (fun c => (by first | exact absurd c (by decide) | exact absurd (by decide) c)) (fun _ => ?_)
  refine V2_iconst (v := 1) d_R_in_10 rfl ?_
  refine V2_goto (tgt := 15) d_R_in_11 rfl ?_
  refine V2_zreturn d_R_in_15 rfl (by decide) ?_
  refine V2.to (st' := [.int (1 : Int32)]) ?_ rfl rfl rfl rfl
  refine V2_if_ne (tgt := 23) d_R_voice_14 rfl (fun _ => ?_) (fun c => (by first | exact absurd c (by decide) | exact absurd (by decide) c))
  refine V2_aload_n (i := 0) d_R_voice_23 rfl rfl ?_
  refine V2_iconst (v := 0) d_R_voice_24 rfl ?_
  refine V2_put d_R_voice_25 fl_R_227 (by decide) rfl (by decide) rfl ?_
  refine V2_aload_n (i := 0) d_R_voice_28 rfl rfl ?_
  refine V2_iload_n (i := 1) d_R_voice_29 rfl rfl ?_
  refine V2_put d_R_voice_30 fl_R_230 (by decide) rfl (by decide) rfl ?_
  refine V2_aload_n (i := 0) d_R_voice_33 rfl rfl ?_
  refine V2_iconst (v := 0) d_R_voice_34 rfl ?_
  refine V2_putz d_R_voice_35 fl_R_251 (by decide) rfl (by decide) rfl (by decide) ?_
  refine V2_aload_n (i := 0) d_R_voice_38 rfl rfl ?_
  refine V2_callV [] d_R_voice_39 rfl rfl lk_R_239 mo_R_kindNow (by decide) rfl rfl rfl (Nat.le_of_ble_eq_true rfl) (Nat.le_of_ble_eq_true rfl) ?_
  refine c_R_kindNow (p := p) (by omega) rfl ?_
  refine V2_lit (v := 1) (show F 66 (12 + 2 * p) = 1 from (congrFun e66 _).trans ek) ?_
  refine V2_istore (i := 4) (l' := [some (.ref 65), some (.int (nI p)), some (.int (3 : Int32)), some (.int x), some (.int (1 : Int32)), none]) d_R_voice_42 (xst_i (Nat.le_of_ble_eq_true rfl) rfl rfl) ?_
  refine V2_iload_n (i := 2) d_R_voice_44 rfl rfl ?_
  refine V2_if_ne (tgt := 58) d_R_voice_45 rfl (fun _ => ?_) (fun c => (by first | exact absurd c (by decide) | exact absurd (by decide) c))
  refine V2_iload_n (i := 2) d_R_voice_58 rfl rfl ?_
  refine V2_iconst (v := 1) d_R_voice_59 rfl ?_
  refine V2_icmp_ne (tgt := 73) d_R_voice_60 rfl (fun _ => ?_) (fun c => (by first | exact absurd c (by decide) | exact absurd (by decide) c))
  refine V2_iload_n (i := 2) d_R_voice_73 rfl rfl ?_
  refine V2_iconst (v := 2) d_R_voice_74 rfl ?_
  refine V2_icmp_ne (tgt := 88) d_R_voice_75 rfl (fun _ => ?_) (fun c => (by first | exact absurd c (by decide) | exact absurd (by decide) c))
  refine V2_aload_n (i := 0) d_R_voice_88 rfl rfl ?_
  refine V2_iload (i := 4) d_R_voice_89 rfl ?_
  refine V2_iload_n (i := 3) d_R_voice_91 rfl rfl ?_
  refine V2_callV [.int (1 : Int32), .int x] d_R_voice_92 rfl rfl lk_R_255 mo_R_partsAs (by decide) rfl rfl rfl (Nat.le_of_ble_eq_true rfl) (Nat.le_of_ble_eq_true rfl) ?_
  refine V2.to (l' := [some (.ref 65), some (.int (1 : Int32)), some (.int x), none, none]) ?_ rfl rfl rfl rfl
  refine V2_iload_n (i := 1) d_R_partsAs_0 rfl rfl ?_
  refine V2_lookup (tgt := 79) (off := 78) d_R_partsAs_1 (by decide) (by decide +kernel) rfl ?_
  refine V2_aload_n (i := 0) d_R_partsAs_79 rfl rfl ?_
  refine V2_bipush (v := 21) d_R_partsAs_80 rfl ?_
  refine V2_callV [.int (21 : Int32)] d_R_partsAs_82 rfl rfl lk_R_233 mo_R_begins (by decide) rfl rfl rfl (Nat.le_of_ble_eq_true rfl) (Nat.le_of_ble_eq_true rfl) ?_
  refine V2.to (l' := [some (.ref 65), some (.int (21 : Int32))]) ?_ rfl rfl rfl rfl
  refine V2_aload_n (i := 0) d_R_begins_0 rfl rfl ?_
  refine V2_get (v := (0 : Int32)) d_R_begins_1 fl_R_227 (by decide) rfl (by decide) rfl rfl ?_
  refine V2_bipush (v := 30) d_R_begins_4 rfl ?_
  refine V2_icmp_ge (tgt := 29) d_R_begins_6 rfl (fun c => (by first | exact absurd c (by decide) | exact absurd (by decide) c)) (fun _ => ?_)
  refine V2_aload_n (i := 0) d_R_begins_9 rfl rfl ?_
  refine V2_getr (a := 73) d_R_begins_10 fl_R_35 (by decide) rfl (by decide) rfl ?_
  refine V2_aload_n (i := 0) d_R_begins_13 rfl rfl ?_
  refine V2_get (v := (0 : Int32)) d_R_begins_14 fl_R_227 (by decide) rfl (by decide) rfl rfl ?_
  refine V2_iload_n (i := 1) d_R_begins_17 rfl rfl ?_
  refine V2_iastore (j := 0) d_R_begins_18 (by decide) rfl (xixA (n := 0) rfl (by decide) (by decide)) rfl ?_
  refine V2_aload_n (i := 0) d_R_begins_19 rfl rfl ?_
  refine V2_dup d_R_begins_20 rfl ?_
  refine V2_get (v := (0 : Int32)) d_R_begins_21 fl_R_227 (by decide) rfl (by decide) rfl rfl ?_
  refine V2_iconst (v := 1) d_R_begins_24 rfl ?_
  refine V2_iadd d_R_begins_25 ?_
  refine V2_lit (v := 1) (by decide) ?_
  refine V2_put d_R_begins_26 fl_R_227 (by decide) rfl (by decide) rfl ?_
  refine V2_return d_R_begins_29 rfl ?_
  refine V2.to (st' := []) ?_ rfl rfl rfl rfl
  refine V2_aload_n (i := 0) d_R_partsAs_85 rfl rfl ?_
  refine V2_iconst (v := 1) d_R_partsAs_86 rfl ?_
  refine V2_callS [.int (1 : Int32)] d_R_partsAs_87 rfl rfl lk_R_174 mo_R_above (Nat.le_of_ble_eq_true rfl) (Nat.le_of_ble_eq_true rfl) ?_
  refine V2.to (l' := [some (.int (1 : Int32))]) ?_ rfl rfl rfl rfl
  refine V2_iload_n (i := 0) d_R_above_0 rfl rfl ?_
  refine V2_iconst (v := 4) d_R_above_1 rfl ?_
  refine V2_icmp_ne (tgt := 9) d_R_above_2 rfl (fun _ => ?_) (fun c => (by first | exact absurd c (by decide) | exact absurd (by decide) c))
  refine V2_iload_n (i := 0) d_R_above_9 rfl rfl ?_
  refine V2_iconst (v := 5) d_R_above_10 rfl ?_
  refine V2_icmp_ne (tgt := 18) d_R_above_11 rfl (fun _ => ?_) (fun c => (by first | exact absurd c (by decide) | exact absurd (by decide) c))
  refine V2_iconst (v := 0) d_R_above_18 rfl ?_
  refine V2_ireturn d_R_above_19 rfl ?_
  refine V2.to (st' := [.int (0 : Int32), .ref 65]) ?_ rfl rfl rfl rfl
  refine V2_iload_n (i := 2) d_R_partsAs_90 rfl rfl ?_
  refine V2_callV [.int (0 : Int32), .int x] d_R_partsAs_91 rfl rfl lk_R_255 mo_R_partsAs (by decide) rfl rfl rfl (Nat.le_of_ble_eq_true rfl) (Nat.le_of_ble_eq_true rfl) ?_
  refine V2.to (l' := [some (.ref 65), some (.int (0 : Int32)), some (.int x), none, none]) ?_ rfl rfl rfl rfl
  refine V2_iload_n (i := 1) d_R_partsAs_0 rfl rfl ?_
  refine V2_lookup (tgt := 28) (off := 27) d_R_partsAs_1 (by decide) (by decide +kernel) rfl ?_
  refine V2_aload_n (i := 0) d_R_partsAs_28 rfl rfl ?_
  refine V2_bipush (v := 13) d_R_partsAs_29 rfl ?_
  refine V2_callV [.int (13 : Int32)] d_R_partsAs_31 rfl rfl lk_R_233 mo_R_begins (by decide) rfl rfl rfl (Nat.le_of_ble_eq_true rfl) (Nat.le_of_ble_eq_true rfl) ?_
  refine V2.to (l' := [some (.ref 65), some (.int (13 : Int32))]) ?_ rfl rfl rfl rfl
  refine V2_aload_n (i := 0) d_R_begins_0 rfl rfl ?_
  refine V2_get (v := (1 : Int32)) d_R_begins_1 fl_R_227 (by decide) rfl (by decide) rfl rfl ?_
  refine V2_bipush (v := 30) d_R_begins_4 rfl ?_
  refine V2_icmp_ge (tgt := 29) d_R_begins_6 rfl (fun c => (by first | exact absurd c (by decide) | exact absurd (by decide) c)) (fun _ => ?_)
  refine V2_aload_n (i := 0) d_R_begins_9 rfl rfl ?_
  refine V2_getr (a := 73) d_R_begins_10 fl_R_35 (by decide) rfl (by decide) rfl ?_
  refine V2_aload_n (i := 0) d_R_begins_13 rfl rfl ?_
  refine V2_get (v := (1 : Int32)) d_R_begins_14 fl_R_227 (by decide) rfl (by decide) rfl rfl ?_
  refine V2_iload_n (i := 1) d_R_begins_17 rfl rfl ?_
  refine V2_iastore (j := 1) d_R_begins_18 (by decide) rfl (xixA (n := 1) rfl (by decide) (by decide)) rfl ?_
  refine V2_aload_n (i := 0) d_R_begins_19 rfl rfl ?_
  refine V2_dup d_R_begins_20 rfl ?_
  refine V2_get (v := (1 : Int32)) d_R_begins_21 fl_R_227 (by decide) rfl (by decide) rfl rfl ?_
  refine V2_iconst (v := 1) d_R_begins_24 rfl ?_
  refine V2_iadd d_R_begins_25 ?_
  refine V2_lit (v := 2) (by decide) ?_
  refine V2_put d_R_begins_26 fl_R_227 (by decide) rfl (by decide) rfl ?_
  refine V2_return d_R_begins_29 rfl ?_
  refine V2.to (st' := []) ?_ rfl rfl rfl rfl
  refine V2_aload_n (i := 0) d_R_partsAs_34 rfl rfl ?_
  refine V2_callV [] d_R_partsAs_35 rfl rfl lk_R_245 mo_R_mNow (by decide) rfl rfl rfl (Nat.le_of_ble_eq_true rfl) (Nat.le_of_ble_eq_true rfl) ?_
  refine V2.to (l' := [some (.ref 65)]) ?_ rfl rfl rfl rfl
  refine V2_aload_n (i := 0) d_R_mNow_0 rfl rfl ?_
  refine V2_aload_n (i := 0) d_R_mNow_1 rfl rfl ?_
  refine V2_get (v := nI p) d_R_mNow_2 fl_R_230 (by decide) rfl (by decide) rfl rfl ?_
  refine V2_topi (fun v3 ev3 => ?_)
  refine V2_iconst (v := 1) d_R_mNow_5 rfl ?_
  refine V2_callV [.int v3, .int (1 : Int32)] d_R_mNow_6 rfl rfl lk_R_114 mo_R_its (by decide) rfl rfl rfl (Nat.le_of_ble_eq_true rfl) (Nat.le_of_ble_eq_true rfl) ?_
  rw [ev3]
  refine c_R_its1 (p := p) (by omega) ?_
  refine V2_lit (v := mm) (show F 66 (12 + 2 * p + 1) = mm from (congrFun e66 _).trans em) ?_
  refine V2_ireturn d_R_mNow_9 rfl ?_
  refine V2.to (st' := [.int mm]) ?_ rfl rfl rfl rfl
  refine V2_aload_n (i := 0) d_R_partsAs_38 rfl rfl ?_
  refine V2_get (v := nI p) d_R_partsAs_39 fl_R_230 (by decide) rfl (by decide) rfl rfl ?_
  refine V2_topi (fun v4 ev4 => ?_)
  refine V2_isub d_R_partsAs_42 ?_
  refine V2_topi (fun v5 ev5 => ?_)
  refine V2_istore_n (i := 3) (l' := [some (.ref 65), some (.int (0 : Int32)), some (.int x), some (.int v5), none]) d_R_partsAs_43 rfl (xst_i (Nat.le_of_ble_eq_true rfl) rfl rfl) ?_
  refine V2_aload_n (i := 0) d_R_partsAs_44 rfl rfl ?_
  refine V2_iload_n (i := 3) d_R_partsAs_45 rfl rfl ?_
  refine V2_if_ne (tgt := 53) d_R_partsAs_46 rfl (fun c6 => (by first | exact absurd c6 (show v5 = 0 from by subst ev5 ev4 ev3 ev1; exact hz) | exact absurd (show v5 = 0 from by subst ev5 ev4 ev3 ev1; exact hz) c6)) (fun c6 => ?_)
  refine V2_iconst (v := 1) d_R_partsAs_49 rfl ?_
  refine V2_goto (tgt := 54) d_R_partsAs_50 rfl ?_
  refine V2_putz d_R_partsAs_54 fl_R_251 (by decide) rfl (by decide) rfl (by decide) ?_
  refine V2_iload_n (i := 3) d_R_partsAs_57 rfl rfl ?_
  refine V2_if_ne (tgt := 65) d_R_partsAs_58 rfl (fun c7 => (by first | exact absurd c7 (show v5 = 0 from by subst ev5 ev4 ev3 ev1; exact hz) | exact absurd (show v5 = 0 from by subst ev5 ev4 ev3 ev1; exact hz) c7)) (fun c7 => ?_)
  refine V2_iconst (v := 0) d_R_partsAs_61 rfl ?_
  refine V2_goto (tgt := 78) d_R_partsAs_62 rfl ?_
  refine V2_ireturn d_R_partsAs_78 rfl ?_
  refine V2.to (st' := [.int (0 : Int32)]) ?_ rfl rfl rfl rfl
  refine V2_istore (i := 4) (l' := [some (.ref 65), some (.int (1 : Int32)), some (.int x), none, some (.int (0 : Int32))]) d_R_partsAs_94 (xst_0 (Nat.le_of_ble_eq_true rfl) rfl rfl) ?_
  refine V2_aload_n (i := 0) d_R_partsAs_96 rfl rfl ?_
  refine V2_get (v := (1 : Int32)) d_R_partsAs_97 fl_R_251 (by decide) rfl (by decide) rfl rfl ?_
  refine V2_if_eq (tgt := 107) d_R_partsAs_100 rfl (fun c => (by first | exact absurd c (by decide) | exact absurd (by decide) c)) (fun _ => ?_)
  refine V2_iconst (v := 0) d_R_partsAs_103 rfl ?_
  refine V2_goto (tgt := 119) d_R_partsAs_104 rfl ?_
  refine V2_ireturn d_R_partsAs_119 rfl ?_
  refine V2.to (st' := [.int (0 : Int32)]) ?_ rfl rfl rfl rfl
  refine V2_istore (i := 5) (l' := [some (.ref 65), some (.int (nI p)), some (.int (3 : Int32)), some (.int x), some (.int (1 : Int32)), some (.int (0 : Int32))]) d_R_voice_95 (xst_i (Nat.le_of_ble_eq_true rfl) rfl rfl) ?_
  refine V2_aload_n (i := 0) d_R_voice_97 rfl rfl ?_
  refine V2_get (v := (1 : Int32)) d_R_voice_98 fl_R_251 (by decide) rfl (by decide) rfl rfl ?_
  refine V2_if_eq (tgt := 113) d_R_voice_101 rfl (fun c => (by first | exact absurd c (by decide) | exact absurd (by decide) c)) (fun _ => ?_)
  refine V2_aload_n (i := 0) d_R_voice_104 rfl rfl ?_
  refine V2_bipush (v := 6) d_R_voice_105 rfl ?_
  refine V2_callV [.int (6 : Int32)] d_R_voice_107 rfl rfl lk_R_55 mo_R_error (by decide) rfl rfl rfl (Nat.le_of_ble_eq_true rfl) (Nat.le_of_ble_eq_true rfl) ?_
  refine c_R_error6 ?_
  refine V2_topi (fun v8 ev8 => ?_)
  refine V2_goto (tgt := 115) d_R_voice_110 rfl ?_
  refine V2_ireturn d_R_voice_115 rfl ?_
  subst ev8 ev5 ev4 ev3 ev1
  refine xQi (hQ _ (rel_trace_err (n := 2) (b := (fun i => ([21, 13] : List Int32).getD i 0)) hR (by decide) hM ?_ ?_ ?_ ?_ ?_)) rfl rfl
  · intro a h1 h2
    repeat (first | rw [xp_row_ne h1] | rw [xp_row_ne h2])
    try rfl
  · rfl
  · rfl
  · rfl
  · exact (fun i hi => by rcases (show i = 0 ∨ i = 1 by omega) with h9 | h9 <;> subst h9 <;> rfl)
