/-! as, pusherIs, untell -/
theorem c_Kinds_isUnder_0 {L : Nat} {xs : Nat → Int32} {d : Nat} {Q : Option Value → xF → Prop} {F : xF} {o : Int32}  (hQ : Q (some (.int (xb (o = (0 : Int32) ∨ o = 0 ∨ ((0 : Int32) = 4 ∧ o = 1) ∨ ((0 : Int32) = 5 ∧ o = 2))))) F) : V2 L xs (d + 2) m_Kinds_isUnder 0 (xEntry [.int (0 : Int32), .int o] 4) [] F Q := by
  have q0 : (0 : Int32).toInt = 0 := by decide
  have q1 : (1 : Int32).toInt = 1 := by decide
  have q2 : (2 : Int32).toInt = 2 := by decide
  have q3 : (3 : Int32).toInt = 3 := by decide
  have q4 : (4 : Int32).toInt = 4 := by decide
  have q5 : (5 : Int32).toInt = 5 := by decide
  have q6 : (6 : Int32).toInt = 6 := by decide
  have q7 : (7 : Int32).toInt = 7 := by decide
  have q8 : (8 : Int32).toInt = 8 := by decide
  have q9 : (9 : Int32).toInt = 9 := by decide
  have q10 : (10 : Int32).toInt = 10 := by decide
  have q12 : (12 : Int32).toInt = 12 := by decide
  have q16 : (16 : Int32).toInt = 16 := by decide
  have q20 : (20 : Int32).toInt = 20 := by decide
  have q24 : (24 : Int32).toInt = 24 := by decide
  have q30 : (30 : Int32).toInt = 30 := by decide
  have q32 : (32 : Int32).toInt = 32 := by decide
  have q40 : (40 : Int32).toInt = 40 := by decide
  have q60 : (60 : Int32).toInt = 60 := by decide
  have q69 : (69 : Int32).toInt = 69 := by decide
  have q99 : (99 : Int32).toInt = 99 := by decide
  have q9999 : (9999 : Int32).toInt = 9999 := by decide
  have q274 : (274 : Int32).toInt = 274 := by decide
  have q334 : (334 : Int32).toInt = 334 := by decide
  refine V2.to (l' := [some (.int (0 : Int32)), some (.int o), none, none]) ?_ rfl rfl rfl rfl
  refine V2_iload_n (i := 0) d_Kinds_isUnder_0 rfl rfl ?_
  refine V2_istore_n (i := 2) (l' := [some (.int (0 : Int32)), some (.int o), some (.int (0 : Int32)), none]) d_Kinds_isUnder_1 rfl (xst_i (Nat.le_of_ble_eq_true rfl) rfl rfl) ?_
  refine V2_iconst (v := 0) d_Kinds_isUnder_2 rfl ?_
  refine V2_istore_n (i := 3) (l' := [some (.int (0 : Int32)), some (.int o), some (.int (0 : Int32)), some (.int (0 : Int32))]) d_Kinds_isUnder_3 rfl (xst_i (Nat.le_of_ble_eq_true rfl) rfl rfl) ?_
  refine V2_iload_n (i := 3) d_Kinds_isUnder_4 rfl rfl ?_
  refine V2_getsA d_Kinds_isUnder_5 gs_Kinds_7 ?_
  refine V2_abovelen d_Kinds_isUnder_8 ?_
  refine V2_icmp_ge (tgt := 34) d_Kinds_isUnder_9 rfl (fun c => (by first | exact absurd c (by decide) | exact absurd (by decide) c)) (fun _ => ?_)
  refine V2_iload_n (i := 2) d_Kinds_isUnder_12 rfl rfl ?_
  refine V2_if_lt (tgt := 34) d_Kinds_isUnder_13 rfl (fun c => (by first | exact absurd c (by decide) | exact absurd (by decide) c)) (fun _ => ?_)
  refine V2_iload_n (i := 2) d_Kinds_isUnder_16 rfl rfl ?_
  refine V2_iload_n (i := 1) d_Kinds_isUnder_17 rfl rfl ?_
  refine V2_icmp_ne (tgt := 23) d_Kinds_isUnder_18 rfl (fun c1 => ?_) (fun c1 => ?_)
  · refine V2_iload_n (i := 2) d_Kinds_isUnder_23 rfl rfl ?_
    refine V2_callS [.int (0 : Int32)] d_Kinds_isUnder_24 rfl rfl lk_Kinds_17 mo_Kinds_above (Nat.le_of_ble_eq_true rfl) (Nat.le_of_ble_eq_true rfl) ?_
    refine V2.to (l' := [some (.int (0 : Int32))]) ?_ rfl rfl rfl rfl
    refine V2_iload_n (i := 0) d_Kinds_above_0 rfl rfl ?_
    refine V2_callS [.int (0 : Int32)] d_Kinds_above_1 rfl rfl lk_Kinds_13 mo_Kinds_isKind (Nat.le_of_ble_eq_true rfl) (Nat.le_of_ble_eq_true rfl) ?_
    refine V2.to (l' := [some (.int (0 : Int32))]) ?_ rfl rfl rfl rfl
    refine V2_iload_n (i := 0) d_Kinds_isKind_0 rfl rfl ?_
    refine V2_if_lt (tgt := 16) d_Kinds_isKind_1 rfl (fun c => (by first | exact absurd c (by decide) | exact absurd (by decide) c)) (fun _ => ?_)
    refine V2_iload_n (i := 0) d_Kinds_isKind_4 rfl rfl ?_
    refine V2_getsA d_Kinds_isKind_5 gs_Kinds_7 ?_
    refine V2_abovelen d_Kinds_isKind_8 ?_
    refine V2_icmp_ge (tgt := 16) d_Kinds_isKind_9 rfl (fun c => (by first | exact absurd c (by decide) | exact absurd (by decide) c)) (fun _ => ?_)
    refine V2_iconst (v := 1) d_Kinds_isKind_12 rfl ?_
    refine V2_goto (tgt := 17) d_Kinds_isKind_13 rfl ?_
    refine V2_zreturn d_Kinds_isKind_17 rfl (by decide) ?_
    refine V2.to (st' := [.int (1 : Int32)]) ?_ rfl rfl rfl rfl
    refine V2_if_eq (tgt := 15) d_Kinds_above_4 rfl (fun c => (by first | exact absurd c (by decide) | exact absurd (by decide) c)) (fun _ => ?_)
    refine V2_getsA d_Kinds_above_7 gs_Kinds_7 ?_
    refine V2_iload_n (i := 0) d_Kinds_above_10 rfl rfl ?_
    refine V2_above (v := -1) d_Kinds_above_11 (xixA (n := 0) rfl (by decide) (by decide)) (by decide) ?_
    refine V2_goto (tgt := 16) d_Kinds_above_12 rfl ?_
    refine V2_ireturn d_Kinds_above_16 rfl ?_
    refine V2.to (st' := [.int (-1 : Int32)]) ?_ rfl rfl rfl rfl
    refine V2_istore_n (i := 2) (l' := [some (.int (0 : Int32)), some (.int o), some (.int (-1 : Int32)), some (.int (0 : Int32))]) d_Kinds_isUnder_27 rfl (xst_i (Nat.le_of_ble_eq_true rfl) rfl rfl) ?_
    refine V2_iinc (i := 3) (v := 1) (l' := [some (.int (0 : Int32)), some (.int o), some (.int (-1 : Int32)), some (.int (1 : Int32))]) d_Kinds_isUnder_28 rfl (by decide) (xst_i (Nat.le_of_ble_eq_true rfl) rfl rfl) ?_
    refine V2_goto (tgt := 4) d_Kinds_isUnder_31 rfl ?_
    refine V2_iload_n (i := 3) d_Kinds_isUnder_4 rfl rfl ?_
    refine V2_getsA d_Kinds_isUnder_5 gs_Kinds_7 ?_
    refine V2_abovelen d_Kinds_isUnder_8 ?_
    refine V2_icmp_ge (tgt := 34) d_Kinds_isUnder_9 rfl (fun c => (by first | exact absurd c (by decide) | exact absurd (by decide) c)) (fun _ => ?_)
    refine V2_iload_n (i := 2) d_Kinds_isUnder_12 rfl rfl ?_
    refine V2_if_lt (tgt := 34) d_Kinds_isUnder_13 rfl (fun _ => ?_) (fun c => (by first | exact absurd c (by decide) | exact absurd (by decide) c))
    refine V2_iconst (v := 0) d_Kinds_isUnder_34 rfl ?_
    refine V2_zreturn d_Kinds_isUnder_35 rfl (by decide) ?_
    exact xQi hQ (by clear hQ; first | exact (xb_1 (by skip; (simp only [← Int32.toInt_inj, true_and, false_and, or_false, false_or, or_true, true_or, and_true, and_false] at *) <;> omega)).symm | exact (xb_0 (by skip; (simp only [← Int32.toInt_inj, true_and, false_and, or_false, false_or, or_true, true_or, and_true, and_false] at *) <;> omega)).symm) rfl
  · refine V2_iconst (v := 1) d_Kinds_isUnder_21 rfl ?_
    refine V2_zreturn d_Kinds_isUnder_22 rfl (by decide) ?_
    exact xQi hQ (by clear hQ; first | exact (xb_1 (by skip; (simp only [← Int32.toInt_inj, true_and, false_and, or_false, false_or, or_true, true_or, and_true, and_false] at *) <;> omega)).symm | exact (xb_0 (by skip; (simp only [← Int32.toInt_inj, true_and, false_and, or_false, false_or, or_true, true_or, and_true, and_false] at *) <;> omega)).symm) rfl
theorem c_Kinds_isUnder_1 {L : Nat} {xs : Nat → Int32} {d : Nat} {Q : Option Value → xF → Prop} {F : xF} {o : Int32}  (hQ : Q (some (.int (xb (o = (1 : Int32) ∨ o = 0 ∨ ((1 : Int32) = 4 ∧ o = 1) ∨ ((1 : Int32) = 5 ∧ o = 2))))) F) : V2 L xs (d + 2) m_Kinds_isUnder 0 (xEntry [.int (1 : Int32), .int o] 4) [] F Q := by
  have q0 : (0 : Int32).toInt = 0 := by decide
  have q1 : (1 : Int32).toInt = 1 := by decide
  have q2 : (2 : Int32).toInt = 2 := by decide
  have q3 : (3 : Int32).toInt = 3 := by decide
  have q4 : (4 : Int32).toInt = 4 := by decide
  have q5 : (5 : Int32).toInt = 5 := by decide
  have q6 : (6 : Int32).toInt = 6 := by decide
  have q7 : (7 : Int32).toInt = 7 := by decide
  have q8 : (8 : Int32).toInt = 8 := by decide
  have q9 : (9 : Int32).toInt = 9 := by decide
  have q10 : (10 : Int32).toInt = 10 := by decide
  have q12 : (12 : Int32).toInt = 12 := by decide
  have q16 : (16 : Int32).toInt = 16 := by decide
  have q20 : (20 : Int32).toInt = 20 := by decide
  have q24 : (24 : Int32).toInt = 24 := by decide
  have q30 : (30 : Int32).toInt = 30 := by decide
  have q32 : (32 : Int32).toInt = 32 := by decide
  have q40 : (40 : Int32).toInt = 40 := by decide
  have q60 : (60 : Int32).toInt = 60 := by decide
  have q69 : (69 : Int32).toInt = 69 := by decide
  have q99 : (99 : Int32).toInt = 99 := by decide
  have q9999 : (9999 : Int32).toInt = 9999 := by decide
  have q274 : (274 : Int32).toInt = 274 := by decide
  have q334 : (334 : Int32).toInt = 334 := by decide
  refine V2.to (l' := [some (.int (1 : Int32)), some (.int o), none, none]) ?_ rfl rfl rfl rfl
  refine V2_iload_n (i := 0) d_Kinds_isUnder_0 rfl rfl ?_
  refine V2_istore_n (i := 2) (l' := [some (.int (1 : Int32)), some (.int o), some (.int (1 : Int32)), none]) d_Kinds_isUnder_1 rfl (xst_i (Nat.le_of_ble_eq_true rfl) rfl rfl) ?_
  refine V2_iconst (v := 0) d_Kinds_isUnder_2 rfl ?_
  refine V2_istore_n (i := 3) (l' := [some (.int (1 : Int32)), some (.int o), some (.int (1 : Int32)), some (.int (0 : Int32))]) d_Kinds_isUnder_3 rfl (xst_i (Nat.le_of_ble_eq_true rfl) rfl rfl) ?_
  refine V2_iload_n (i := 3) d_Kinds_isUnder_4 rfl rfl ?_
  refine V2_getsA d_Kinds_isUnder_5 gs_Kinds_7 ?_
  refine V2_abovelen d_Kinds_isUnder_8 ?_
  refine V2_icmp_ge (tgt := 34) d_Kinds_isUnder_9 rfl (fun c => (by first | exact absurd c (by decide) | exact absurd (by decide) c)) (fun _ => ?_)
  refine V2_iload_n (i := 2) d_Kinds_isUnder_12 rfl rfl ?_
  refine V2_if_lt (tgt := 34) d_Kinds_isUnder_13 rfl (fun c => (by first | exact absurd c (by decide) | exact absurd (by decide) c)) (fun _ => ?_)
  refine V2_iload_n (i := 2) d_Kinds_isUnder_16 rfl rfl ?_
  refine V2_iload_n (i := 1) d_Kinds_isUnder_17 rfl rfl ?_
  refine V2_icmp_ne (tgt := 23) d_Kinds_isUnder_18 rfl (fun c1 => ?_) (fun c1 => ?_)
  · refine V2_iload_n (i := 2) d_Kinds_isUnder_23 rfl rfl ?_
    refine V2_callS [.int (1 : Int32)] d_Kinds_isUnder_24 rfl rfl lk_Kinds_17 mo_Kinds_above (Nat.le_of_ble_eq_true rfl) (Nat.le_of_ble_eq_true rfl) ?_
    refine V2.to (l' := [some (.int (1 : Int32))]) ?_ rfl rfl rfl rfl
    refine V2_iload_n (i := 0) d_Kinds_above_0 rfl rfl ?_
    refine V2_callS [.int (1 : Int32)] d_Kinds_above_1 rfl rfl lk_Kinds_13 mo_Kinds_isKind (Nat.le_of_ble_eq_true rfl) (Nat.le_of_ble_eq_true rfl) ?_
    refine V2.to (l' := [some (.int (1 : Int32))]) ?_ rfl rfl rfl rfl
    refine V2_iload_n (i := 0) d_Kinds_isKind_0 rfl rfl ?_
    refine V2_if_lt (tgt := 16) d_Kinds_isKind_1 rfl (fun c => (by first | exact absurd c (by decide) | exact absurd (by decide) c)) (fun _ => ?_)
    refine V2_iload_n (i := 0) d_Kinds_isKind_4 rfl rfl ?_
    refine V2_getsA d_Kinds_isKind_5 gs_Kinds_7 ?_
    refine V2_abovelen d_Kinds_isKind_8 ?_
    refine V2_icmp_ge (tgt := 16) d_Kinds_isKind_9 rfl (fun c => (by first | exact absurd c (by decide) | exact absurd (by decide) c)) (fun _ => ?_)
    refine V2_iconst (v := 1) d_Kinds_isKind_12 rfl ?_
    refine V2_goto (tgt := 17) d_Kinds_isKind_13 rfl ?_
    refine V2_zreturn d_Kinds_isKind_17 rfl (by decide) ?_
    refine V2.to (st' := [.int (1 : Int32)]) ?_ rfl rfl rfl rfl
    refine V2_if_eq (tgt := 15) d_Kinds_above_4 rfl (fun c => (by first | exact absurd c (by decide) | exact absurd (by decide) c)) (fun _ => ?_)
    refine V2_getsA d_Kinds_above_7 gs_Kinds_7 ?_
    refine V2_iload_n (i := 0) d_Kinds_above_10 rfl rfl ?_
    refine V2_above (v := 0) d_Kinds_above_11 (xixA (n := 1) rfl (by decide) (by decide)) (by decide) ?_
    refine V2_goto (tgt := 16) d_Kinds_above_12 rfl ?_
    refine V2_ireturn d_Kinds_above_16 rfl ?_
    refine V2.to (st' := [.int (0 : Int32)]) ?_ rfl rfl rfl rfl
    refine V2_istore_n (i := 2) (l' := [some (.int (1 : Int32)), some (.int o), some (.int (0 : Int32)), some (.int (0 : Int32))]) d_Kinds_isUnder_27 rfl (xst_i (Nat.le_of_ble_eq_true rfl) rfl rfl) ?_
    refine V2_iinc (i := 3) (v := 1) (l' := [some (.int (1 : Int32)), some (.int o), some (.int (0 : Int32)), some (.int (1 : Int32))]) d_Kinds_isUnder_28 rfl (by decide) (xst_i (Nat.le_of_ble_eq_true rfl) rfl rfl) ?_
    refine V2_goto (tgt := 4) d_Kinds_isUnder_31 rfl ?_
    refine V2_iload_n (i := 3) d_Kinds_isUnder_4 rfl rfl ?_
    refine V2_getsA d_Kinds_isUnder_5 gs_Kinds_7 ?_
    refine V2_abovelen d_Kinds_isUnder_8 ?_
    refine V2_icmp_ge (tgt := 34) d_Kinds_isUnder_9 rfl (fun c => (by first | exact absurd c (by decide) | exact absurd (by decide) c)) (fun _ => ?_)
    refine V2_iload_n (i := 2) d_Kinds_isUnder_12 rfl rfl ?_
    refine V2_if_lt (tgt := 34) d_Kinds_isUnder_13 rfl (fun c => (by first | exact absurd c (by decide) | exact absurd (by decide) c)) (fun _ => ?_)
    refine V2_iload_n (i := 2) d_Kinds_isUnder_16 rfl rfl ?_
    refine V2_iload_n (i := 1) d_Kinds_isUnder_17 rfl rfl ?_
    refine V2_icmp_ne (tgt := 23) d_Kinds_isUnder_18 rfl (fun c3 => ?_) (fun c3 => ?_)
    · refine V2_iload_n (i := 2) d_Kinds_isUnder_23 rfl rfl ?_
      refine V2_callS [.int (0 : Int32)] d_Kinds_isUnder_24 rfl rfl lk_Kinds_17 mo_Kinds_above (Nat.le_of_ble_eq_true rfl) (Nat.le_of_ble_eq_true rfl) ?_
      refine V2.to (l' := [some (.int (0 : Int32))]) ?_ rfl rfl rfl rfl
      refine V2_iload_n (i := 0) d_Kinds_above_0 rfl rfl ?_
      refine V2_callS [.int (0 : Int32)] d_Kinds_above_1 rfl rfl lk_Kinds_13 mo_Kinds_isKind (Nat.le_of_ble_eq_true rfl) (Nat.le_of_ble_eq_true rfl) ?_
      refine V2.to (l' := [some (.int (0 : Int32))]) ?_ rfl rfl rfl rfl
      refine V2_iload_n (i := 0) d_Kinds_isKind_0 rfl rfl ?_
      refine V2_if_lt (tgt := 16) d_Kinds_isKind_1 rfl (fun c => (by first | exact absurd c (by decide) | exact absurd (by decide) c)) (fun _ => ?_)
      refine V2_iload_n (i := 0) d_Kinds_isKind_4 rfl rfl ?_
      refine V2_getsA d_Kinds_isKind_5 gs_Kinds_7 ?_
      refine V2_abovelen d_Kinds_isKind_8 ?_
      refine V2_icmp_ge (tgt := 16) d_Kinds_isKind_9 rfl (fun c => (by first | exact absurd c (by decide) | exact absurd (by decide) c)) (fun _ => ?_)
      refine V2_iconst (v := 1) d_Kinds_isKind_12 rfl ?_
      refine V2_goto (tgt := 17) d_Kinds_isKind_13 rfl ?_
      refine V2_zreturn d_Kinds_isKind_17 rfl (by decide) ?_
      refine V2.to (st' := [.int (1 : Int32)]) ?_ rfl rfl rfl rfl
      refine V2_if_eq (tgt := 15) d_Kinds_above_4 rfl (fun c => (by first | exact absurd c (by decide) | exact absurd (by decide) c)) (fun _ => ?_)
      refine V2_getsA d_Kinds_above_7 gs_Kinds_7 ?_
      refine V2_iload_n (i := 0) d_Kinds_above_10 rfl rfl ?_
      refine V2_above (v := -1) d_Kinds_above_11 (xixA (n := 0) rfl (by decide) (by decide)) (by decide) ?_
      refine V2_goto (tgt := 16) d_Kinds_above_12 rfl ?_
      refine V2_ireturn d_Kinds_above_16 rfl ?_
      refine V2.to (st' := [.int (-1 : Int32)]) ?_ rfl rfl rfl rfl
      refine V2_istore_n (i := 2) (l' := [some (.int (1 : Int32)), some (.int o), some (.int (-1 : Int32)), some (.int (1 : Int32))]) d_Kinds_isUnder_27 rfl (xst_i (Nat.le_of_ble_eq_true rfl) rfl rfl) ?_
      refine V2_iinc (i := 3) (v := 2) (l' := [some (.int (1 : Int32)), some (.int o), some (.int (-1 : Int32)), some (.int (2 : Int32))]) d_Kinds_isUnder_28 rfl (by decide) (xst_i (Nat.le_of_ble_eq_true rfl) rfl rfl) ?_
      refine V2_goto (tgt := 4) d_Kinds_isUnder_31 rfl ?_
      refine V2_iload_n (i := 3) d_Kinds_isUnder_4 rfl rfl ?_
      refine V2_getsA d_Kinds_isUnder_5 gs_Kinds_7 ?_
      refine V2_abovelen d_Kinds_isUnder_8 ?_
      refine V2_icmp_ge (tgt := 34) d_Kinds_isUnder_9 rfl (fun c => (by first | exact absurd c (by decide) | exact absurd (by decide) c)) (fun _ => ?_)
      refine V2_iload_n (i := 2) d_Kinds_isUnder_12 rfl rfl ?_
      refine V2_if_lt (tgt := 34) d_Kinds_isUnder_13 rfl (fun _ => ?_) (fun c => (by first | exact absurd c (by decide) | exact absurd (by decide) c))
      refine V2_iconst (v := 0) d_Kinds_isUnder_34 rfl ?_
      refine V2_zreturn d_Kinds_isUnder_35 rfl (by decide) ?_
      exact xQi hQ (by clear hQ; first | exact (xb_1 (by skip; (simp only [← Int32.toInt_inj, true_and, false_and, or_false, false_or, or_true, true_or, and_true, and_false] at *) <;> omega)).symm | exact (xb_0 (by skip; (simp only [← Int32.toInt_inj, true_and, false_and, or_false, false_or, or_true, true_or, and_true, and_false] at *) <;> omega)).symm) rfl
    · refine V2_iconst (v := 1) d_Kinds_isUnder_21 rfl ?_
      refine V2_zreturn d_Kinds_isUnder_22 rfl (by decide) ?_
      exact xQi hQ (by clear hQ; first | exact (xb_1 (by skip; (simp only [← Int32.toInt_inj, true_and, false_and, or_false, false_or, or_true, true_or, and_true, and_false] at *) <;> omega)).symm | exact (xb_0 (by skip; (simp only [← Int32.toInt_inj, true_and, false_and, or_false, false_or, or_true, true_or, and_true, and_false] at *) <;> omega)).symm) rfl
  · refine V2_iconst (v := 1) d_Kinds_isUnder_21 rfl ?_
    refine V2_zreturn d_Kinds_isUnder_22 rfl (by decide) ?_
    exact xQi hQ (by clear hQ; first | exact (xb_1 (by skip; (simp only [← Int32.toInt_inj, true_and, false_and, or_false, false_or, or_true, true_or, and_true, and_false] at *) <;> omega)).symm | exact (xb_0 (by skip; (simp only [← Int32.toInt_inj, true_and, false_and, or_false, false_or, or_true, true_or, and_true, and_false] at *) <;> omega)).symm) rfl
theorem c_Kinds_isUnder_2 {L : Nat} {xs : Nat → Int32} {d : Nat} {Q : Option Value → xF → Prop} {F : xF} {o : Int32}  (hQ : Q (some (.int (xb (o = (2 : Int32) ∨ o = 0 ∨ ((2 : Int32) = 4 ∧ o = 1) ∨ ((2 : Int32) = 5 ∧ o = 2))))) F) : V2 L xs (d + 2) m_Kinds_isUnder 0 (xEntry [.int (2 : Int32), .int o] 4) [] F Q := by
  have q0 : (0 : Int32).toInt = 0 := by decide
  have q1 : (1 : Int32).toInt = 1 := by decide
  have q2 : (2 : Int32).toInt = 2 := by decide
  have q3 : (3 : Int32).toInt = 3 := by decide
  have q4 : (4 : Int32).toInt = 4 := by decide
  have q5 : (5 : Int32).toInt = 5 := by decide
  have q6 : (6 : Int32).toInt = 6 := by decide
  have q7 : (7 : Int32).toInt = 7 := by decide
  have q8 : (8 : Int32).toInt = 8 := by decide
  have q9 : (9 : Int32).toInt = 9 := by decide
  have q10 : (10 : Int32).toInt = 10 := by decide
  have q12 : (12 : Int32).toInt = 12 := by decide
  have q16 : (16 : Int32).toInt = 16 := by decide
  have q20 : (20 : Int32).toInt = 20 := by decide
  have q24 : (24 : Int32).toInt = 24 := by decide
  have q30 : (30 : Int32).toInt = 30 := by decide
  have q32 : (32 : Int32).toInt = 32 := by decide
  have q40 : (40 : Int32).toInt = 40 := by decide
  have q60 : (60 : Int32).toInt = 60 := by decide
  have q69 : (69 : Int32).toInt = 69 := by decide
  have q99 : (99 : Int32).toInt = 99 := by decide
  have q9999 : (9999 : Int32).toInt = 9999 := by decide
  have q274 : (274 : Int32).toInt = 274 := by decide
  have q334 : (334 : Int32).toInt = 334 := by decide
  refine V2.to (l' := [some (.int (2 : Int32)), some (.int o), none, none]) ?_ rfl rfl rfl rfl
  refine V2_iload_n (i := 0) d_Kinds_isUnder_0 rfl rfl ?_
  refine V2_istore_n (i := 2) (l' := [some (.int (2 : Int32)), some (.int o), some (.int (2 : Int32)), none]) d_Kinds_isUnder_1 rfl (xst_i (Nat.le_of_ble_eq_true rfl) rfl rfl) ?_
  refine V2_iconst (v := 0) d_Kinds_isUnder_2 rfl ?_
  refine V2_istore_n (i := 3) (l' := [some (.int (2 : Int32)), some (.int o), some (.int (2 : Int32)), some (.int (0 : Int32))]) d_Kinds_isUnder_3 rfl (xst_i (Nat.le_of_ble_eq_true rfl) rfl rfl) ?_
  refine V2_iload_n (i := 3) d_Kinds_isUnder_4 rfl rfl ?_
  refine V2_getsA d_Kinds_isUnder_5 gs_Kinds_7 ?_
  refine V2_abovelen d_Kinds_isUnder_8 ?_
  refine V2_icmp_ge (tgt := 34) d_Kinds_isUnder_9 rfl (fun c => (by first | exact absurd c (by decide) | exact absurd (by decide) c)) (fun _ => ?_)
  refine V2_iload_n (i := 2) d_Kinds_isUnder_12 rfl rfl ?_
  refine V2_if_lt (tgt := 34) d_Kinds_isUnder_13 rfl (fun c => (by first | exact absurd c (by decide) | exact absurd (by decide) c)) (fun _ => ?_)
  refine V2_iload_n (i := 2) d_Kinds_isUnder_16 rfl rfl ?_
  refine V2_iload_n (i := 1) d_Kinds_isUnder_17 rfl rfl ?_
  refine V2_icmp_ne (tgt := 23) d_Kinds_isUnder_18 rfl (fun c1 => ?_) (fun c1 => ?_)
  · refine V2_iload_n (i := 2) d_Kinds_isUnder_23 rfl rfl ?_
    refine V2_callS [.int (2 : Int32)] d_Kinds_isUnder_24 rfl rfl lk_Kinds_17 mo_Kinds_above (Nat.le_of_ble_eq_true rfl) (Nat.le_of_ble_eq_true rfl) ?_
    refine V2.to (l' := [some (.int (2 : Int32))]) ?_ rfl rfl rfl rfl
    refine V2_iload_n (i := 0) d_Kinds_above_0 rfl rfl ?_
    refine V2_callS [.int (2 : Int32)] d_Kinds_above_1 rfl rfl lk_Kinds_13 mo_Kinds_isKind (Nat.le_of_ble_eq_true rfl) (Nat.le_of_ble_eq_true rfl) ?_
    refine V2.to (l' := [some (.int (2 : Int32))]) ?_ rfl rfl rfl rfl
    refine V2_iload_n (i := 0) d_Kinds_isKind_0 rfl rfl ?_
    refine V2_if_lt (tgt := 16) d_Kinds_isKind_1 rfl (fun c => (by first | exact absurd c (by decide) | exact absurd (by decide) c)) (fun _ => ?_)
    refine V2_iload_n (i := 0) d_Kinds_isKind_4 rfl rfl ?_
    refine V2_getsA d_Kinds_isKind_5 gs_Kinds_7 ?_
    refine V2_abovelen d_Kinds_isKind_8 ?_
    refine V2_icmp_ge (tgt := 16) d_Kinds_isKind_9 rfl (fun c => (by first | exact absurd c (by decide) | exact absurd (by decide) c)) (fun _ => ?_)
    refine V2_iconst (v := 1) d_Kinds_isKind_12 rfl ?_
    refine V2_goto (tgt := 17) d_Kinds_isKind_13 rfl ?_
    refine V2_zreturn d_Kinds_isKind_17 rfl (by decide) ?_
    refine V2.to (st' := [.int (1 : Int32)]) ?_ rfl rfl rfl rfl
    refine V2_if_eq (tgt := 15) d_Kinds_above_4 rfl (fun c => (by first | exact absurd c (by decide) | exact absurd (by decide) c)) (fun _ => ?_)
    refine V2_getsA d_Kinds_above_7 gs_Kinds_7 ?_
    refine V2_iload_n (i := 0) d_Kinds_above_10 rfl rfl ?_
    refine V2_above (v := 0) d_Kinds_above_11 (xixA (n := 2) rfl (by decide) (by decide)) (by decide) ?_
    refine V2_goto (tgt := 16) d_Kinds_above_12 rfl ?_
    refine V2_ireturn d_Kinds_above_16 rfl ?_
    refine V2.to (st' := [.int (0 : Int32)]) ?_ rfl rfl rfl rfl
    refine V2_istore_n (i := 2) (l' := [some (.int (2 : Int32)), some (.int o), some (.int (0 : Int32)), some (.int (0 : Int32))]) d_Kinds_isUnder_27 rfl (xst_i (Nat.le_of_ble_eq_true rfl) rfl rfl) ?_
    refine V2_iinc (i := 3) (v := 1) (l' := [some (.int (2 : Int32)), some (.int o), some (.int (0 : Int32)), some (.int (1 : Int32))]) d_Kinds_isUnder_28 rfl (by decide) (xst_i (Nat.le_of_ble_eq_true rfl) rfl rfl) ?_
    refine V2_goto (tgt := 4) d_Kinds_isUnder_31 rfl ?_
    refine V2_iload_n (i := 3) d_Kinds_isUnder_4 rfl rfl ?_
    refine V2_getsA d_Kinds_isUnder_5 gs_Kinds_7 ?_
    refine V2_abovelen d_Kinds_isUnder_8 ?_
    refine V2_icmp_ge (tgt := 34) d_Kinds_isUnder_9 rfl (fun c => (by first | exact absurd c (by decide) | exact absurd (by decide) c)) (fun _ => ?_)
    refine V2_iload_n (i := 2) d_Kinds_isUnder_12 rfl rfl ?_
    refine V2_if_lt (tgt := 34) d_Kinds_isUnder_13 rfl (fun c => (by first | exact absurd c (by decide) | exact absurd (by decide) c)) (fun _ => ?_)
    refine V2_iload_n (i := 2) d_Kinds_isUnder_16 rfl rfl ?_
    refine V2_iload_n (i := 1) d_Kinds_isUnder_17 rfl rfl ?_
    refine V2_icmp_ne (tgt := 23) d_Kinds_isUnder_18 rfl (fun c3 => ?_) (fun c3 => ?_)
    · refine V2_iload_n (i := 2) d_Kinds_isUnder_23 rfl rfl ?_
      refine V2_callS [.int (0 : Int32)] d_Kinds_isUnder_24 rfl rfl lk_Kinds_17 mo_Kinds_above (Nat.le_of_ble_eq_true rfl) (Nat.le_of_ble_eq_true rfl) ?_
      refine V2.to (l' := [some (.int (0 : Int32))]) ?_ rfl rfl rfl rfl
      refine V2_iload_n (i := 0) d_Kinds_above_0 rfl rfl ?_
      refine V2_callS [.int (0 : Int32)] d_Kinds_above_1 rfl rfl lk_Kinds_13 mo_Kinds_isKind (Nat.le_of_ble_eq_true rfl) (Nat.le_of_ble_eq_true rfl) ?_
      refine V2.to (l' := [some (.int (0 : Int32))]) ?_ rfl rfl rfl rfl
      refine V2_iload_n (i := 0) d_Kinds_isKind_0 rfl rfl ?_
      refine V2_if_lt (tgt := 16) d_Kinds_isKind_1 rfl (fun c => (by first | exact absurd c (by decide) | exact absurd (by decide) c)) (fun _ => ?_)
      refine V2_iload_n (i := 0) d_Kinds_isKind_4 rfl rfl ?_
      refine V2_getsA d_Kinds_isKind_5 gs_Kinds_7 ?_
      refine V2_abovelen d_Kinds_isKind_8 ?_
      refine V2_icmp_ge (tgt := 16) d_Kinds_isKind_9 rfl (fun c => (by first | exact absurd c (by decide) | exact absurd (by decide) c)) (fun _ => ?_)
      refine V2_iconst (v := 1) d_Kinds_isKind_12 rfl ?_
      refine V2_goto (tgt := 17) d_Kinds_isKind_13 rfl ?_
      refine V2_zreturn d_Kinds_isKind_17 rfl (by decide) ?_
      refine V2.to (st' := [.int (1 : Int32)]) ?_ rfl rfl rfl rfl
      refine V2_if_eq (tgt := 15) d_Kinds_above_4 rfl (fun c => (by first | exact absurd c (by decide) | exact absurd (by decide) c)) (fun _ => ?_)
      refine V2_getsA d_Kinds_above_7 gs_Kinds_7 ?_
      refine V2_iload_n (i := 0) d_Kinds_above_10 rfl rfl ?_
      refine V2_above (v := -1) d_Kinds_above_11 (xixA (n := 0) rfl (by decide) (by decide)) (by decide) ?_
      refine V2_goto (tgt := 16) d_Kinds_above_12 rfl ?_
      refine V2_ireturn d_Kinds_above_16 rfl ?_
      refine V2.to (st' := [.int (-1 : Int32)]) ?_ rfl rfl rfl rfl
      refine V2_istore_n (i := 2) (l' := [some (.int (2 : Int32)), some (.int o), some (.int (-1 : Int32)), some (.int (1 : Int32))]) d_Kinds_isUnder_27 rfl (xst_i (Nat.le_of_ble_eq_true rfl) rfl rfl) ?_
      refine V2_iinc (i := 3) (v := 2) (l' := [some (.int (2 : Int32)), some (.int o), some (.int (-1 : Int32)), some (.int (2 : Int32))]) d_Kinds_isUnder_28 rfl (by decide) (xst_i (Nat.le_of_ble_eq_true rfl) rfl rfl) ?_
      refine V2_goto (tgt := 4) d_Kinds_isUnder_31 rfl ?_
      refine V2_iload_n (i := 3) d_Kinds_isUnder_4 rfl rfl ?_
      refine V2_getsA d_Kinds_isUnder_5 gs_Kinds_7 ?_
      refine V2_abovelen d_Kinds_isUnder_8 ?_
      refine V2_icmp_ge (tgt := 34) d_Kinds_isUnder_9 rfl (fun c => (by first | exact absurd c (by decide) | exact absurd (by decide) c)) (fun _ => ?_)
      refine V2_iload_n (i := 2) d_Kinds_isUnder_12 rfl rfl ?_
      refine V2_if_lt (tgt := 34) d_Kinds_isUnder_13 rfl (fun _ => ?_) (fun c => (by first | exact absurd c (by decide) | exact absurd (by decide) c))
      refine V2_iconst (v := 0) d_Kinds_isUnder_34 rfl ?_
      refine V2_zreturn d_Kinds_isUnder_35 rfl (by decide) ?_
      exact xQi hQ (by clear hQ; first | exact (xb_1 (by skip; (simp only [← Int32.toInt_inj, true_and, false_and, or_false, false_or, or_true, true_or, and_true, and_false] at *) <;> omega)).symm | exact (xb_0 (by skip; (simp only [← Int32.toInt_inj, true_and, false_and, or_false, false_or, or_true, true_or, and_true, and_false] at *) <;> omega)).symm) rfl
    · refine V2_iconst (v := 1) d_Kinds_isUnder_21 rfl ?_
      refine V2_zreturn d_Kinds_isUnder_22 rfl (by decide) ?_
      exact xQi hQ (by clear hQ; first | exact (xb_1 (by skip; (simp only [← Int32.toInt_inj, true_and, false_and, or_false, false_or, or_true, true_or, and_true, and_false] at *) <;> omega)).symm | exact (xb_0 (by skip; (simp only [← Int32.toInt_inj, true_and, false_and, or_false, false_or, or_true, true_or, and_true, and_false] at *) <;> omega)).symm) rfl
  · refine V2_iconst (v := 1) d_Kinds_isUnder_21 rfl ?_
    refine V2_zreturn d_Kinds_isUnder_22 rfl (by decide) ?_
    exact xQi hQ (by clear hQ; first | exact (xb_1 (by skip; (simp only [← Int32.toInt_inj, true_and, false_and, or_false, false_or, or_true, true_or, and_true, and_false] at *) <;> omega)).symm | exact (xb_0 (by skip; (simp only [← Int32.toInt_inj, true_and, false_and, or_false, false_or, or_true, true_or, and_true, and_false] at *) <;> omega)).symm) rfl
theorem c_Kinds_isUnder_3 {L : Nat} {xs : Nat → Int32} {d : Nat} {Q : Option Value → xF → Prop} {F : xF} {o : Int32}  (hQ : Q (some (.int (xb (o = (3 : Int32) ∨ o = 0 ∨ ((3 : Int32) = 4 ∧ o = 1) ∨ ((3 : Int32) = 5 ∧ o = 2))))) F) : V2 L xs (d + 2) m_Kinds_isUnder 0 (xEntry [.int (3 : Int32), .int o] 4) [] F Q := by
  have q0 : (0 : Int32).toInt = 0 := by decide
  have q1 : (1 : Int32).toInt = 1 := by decide
  have q2 : (2 : Int32).toInt = 2 := by decide
  have q3 : (3 : Int32).toInt = 3 := by decide
  have q4 : (4 : Int32).toInt = 4 := by decide
  have q5 : (5 : Int32).toInt = 5 := by decide
  have q6 : (6 : Int32).toInt = 6 := by decide
  have q7 : (7 : Int32).toInt = 7 := by decide
  have q8 : (8 : Int32).toInt = 8 := by decide
  have q9 : (9 : Int32).toInt = 9 := by decide
  have q10 : (10 : Int32).toInt = 10 := by decide
  have q12 : (12 : Int32).toInt = 12 := by decide
  have q16 : (16 : Int32).toInt = 16 := by decide
  have q20 : (20 : Int32).toInt = 20 := by decide
  have q24 : (24 : Int32).toInt = 24 := by decide
  have q30 : (30 : Int32).toInt = 30 := by decide
  have q32 : (32 : Int32).toInt = 32 := by decide
  have q40 : (40 : Int32).toInt = 40 := by decide
  have q60 : (60 : Int32).toInt = 60 := by decide
  have q69 : (69 : Int32).toInt = 69 := by decide
  have q99 : (99 : Int32).toInt = 99 := by decide
  have q9999 : (9999 : Int32).toInt = 9999 := by decide
  have q274 : (274 : Int32).toInt = 274 := by decide
  have q334 : (334 : Int32).toInt = 334 := by decide
  refine V2.to (l' := [some (.int (3 : Int32)), some (.int o), none, none]) ?_ rfl rfl rfl rfl
  refine V2_iload_n (i := 0) d_Kinds_isUnder_0 rfl rfl ?_
  refine V2_istore_n (i := 2) (l' := [some (.int (3 : Int32)), some (.int o), some (.int (3 : Int32)), none]) d_Kinds_isUnder_1 rfl (xst_i (Nat.le_of_ble_eq_true rfl) rfl rfl) ?_
  refine V2_iconst (v := 0) d_Kinds_isUnder_2 rfl ?_
  refine V2_istore_n (i := 3) (l' := [some (.int (3 : Int32)), some (.int o), some (.int (3 : Int32)), some (.int (0 : Int32))]) d_Kinds_isUnder_3 rfl (xst_i (Nat.le_of_ble_eq_true rfl) rfl rfl) ?_
  refine V2_iload_n (i := 3) d_Kinds_isUnder_4 rfl rfl ?_
  refine V2_getsA d_Kinds_isUnder_5 gs_Kinds_7 ?_
  refine V2_abovelen d_Kinds_isUnder_8 ?_
  refine V2_icmp_ge (tgt := 34) d_Kinds_isUnder_9 rfl (fun c => (by first | exact absurd c (by decide) | exact absurd (by decide) c)) (fun _ => ?_)
  refine V2_iload_n (i := 2) d_Kinds_isUnder_12 rfl rfl ?_
  refine V2_if_lt (tgt := 34) d_Kinds_isUnder_13 rfl (fun c => (by first | exact absurd c (by decide) | exact absurd (by decide) c)) (fun _ => ?_)
  refine V2_iload_n (i := 2) d_Kinds_isUnder_16 rfl rfl ?_
  refine V2_iload_n (i := 1) d_Kinds_isUnder_17 rfl rfl ?_
  refine V2_icmp_ne (tgt := 23) d_Kinds_isUnder_18 rfl (fun c1 => ?_) (fun c1 => ?_)
  · refine V2_iload_n (i := 2) d_Kinds_isUnder_23 rfl rfl ?_
    refine V2_callS [.int (3 : Int32)] d_Kinds_isUnder_24 rfl rfl lk_Kinds_17 mo_Kinds_above (Nat.le_of_ble_eq_true rfl) (Nat.le_of_ble_eq_true rfl) ?_
    refine V2.to (l' := [some (.int (3 : Int32))]) ?_ rfl rfl rfl rfl
    refine V2_iload_n (i := 0) d_Kinds_above_0 rfl rfl ?_
    refine V2_callS [.int (3 : Int32)] d_Kinds_above_1 rfl rfl lk_Kinds_13 mo_Kinds_isKind (Nat.le_of_ble_eq_true rfl) (Nat.le_of_ble_eq_true rfl) ?_
    refine V2.to (l' := [some (.int (3 : Int32))]) ?_ rfl rfl rfl rfl
    refine V2_iload_n (i := 0) d_Kinds_isKind_0 rfl rfl ?_
    refine V2_if_lt (tgt := 16) d_Kinds_isKind_1 rfl (fun c => (by first | exact absurd c (by decide) | exact absurd (by decide) c)) (fun _ => ?_)
    refine V2_iload_n (i := 0) d_Kinds_isKind_4 rfl rfl ?_
    refine V2_getsA d_Kinds_isKind_5 gs_Kinds_7 ?_
    refine V2_abovelen d_Kinds_isKind_8 ?_
    refine V2_icmp_ge (tgt := 16) d_Kinds_isKind_9 rfl (fun c => (by first | exact absurd c (by decide) | exact absurd (by decide) c)) (fun _ => ?_)
    refine V2_iconst (v := 1) d_Kinds_isKind_12 rfl ?_
    refine V2_goto (tgt := 17) d_Kinds_isKind_13 rfl ?_
    refine V2_zreturn d_Kinds_isKind_17 rfl (by decide) ?_
    refine V2.to (st' := [.int (1 : Int32)]) ?_ rfl rfl rfl rfl
    refine V2_if_eq (tgt := 15) d_Kinds_above_4 rfl (fun c => (by first | exact absurd c (by decide) | exact absurd (by decide) c)) (fun _ => ?_)
    refine V2_getsA d_Kinds_above_7 gs_Kinds_7 ?_
    refine V2_iload_n (i := 0) d_Kinds_above_10 rfl rfl ?_
    refine V2_above (v := 0) d_Kinds_above_11 (xixA (n := 3) rfl (by decide) (by decide)) (by decide) ?_
    refine V2_goto (tgt := 16) d_Kinds_above_12 rfl ?_
    refine V2_ireturn d_Kinds_above_16 rfl ?_
    refine V2.to (st' := [.int (0 : Int32)]) ?_ rfl rfl rfl rfl
    refine V2_istore_n (i := 2) (l' := [some (.int (3 : Int32)), some (.int o), some (.int (0 : Int32)), some (.int (0 : Int32))]) d_Kinds_isUnder_27 rfl (xst_i (Nat.le_of_ble_eq_true rfl) rfl rfl) ?_
    refine V2_iinc (i := 3) (v := 1) (l' := [some (.int (3 : Int32)), some (.int o), some (.int (0 : Int32)), some (.int (1 : Int32))]) d_Kinds_isUnder_28 rfl (by decide) (xst_i (Nat.le_of_ble_eq_true rfl) rfl rfl) ?_
    refine V2_goto (tgt := 4) d_Kinds_isUnder_31 rfl ?_
    refine V2_iload_n (i := 3) d_Kinds_isUnder_4 rfl rfl ?_
    refine V2_getsA d_Kinds_isUnder_5 gs_Kinds_7 ?_
    refine V2_abovelen d_Kinds_isUnder_8 ?_
    refine V2_icmp_ge (tgt := 34) d_Kinds_isUnder_9 rfl (fun c => (by first | exact absurd c (by decide) | exact absurd (by decide) c)) (fun _ => ?_)
    refine V2_iload_n (i := 2) d_Kinds_isUnder_12 rfl rfl ?_
    refine V2_if_lt (tgt := 34) d_Kinds_isUnder_13 rfl (fun c => (by first | exact absurd c (by decide) | exact absurd (by decide) c)) (fun _ => ?_)
    refine V2_iload_n (i := 2) d_Kinds_isUnder_16 rfl rfl ?_
    refine V2_iload_n (i := 1) d_Kinds_isUnder_17 rfl rfl ?_
    refine V2_icmp_ne (tgt := 23) d_Kinds_isUnder_18 rfl (fun c3 => ?_) (fun c3 => ?_)
    · refine V2_iload_n (i := 2) d_Kinds_isUnder_23 rfl rfl ?_
      refine V2_callS [.int (0 : Int32)] d_Kinds_isUnder_24 rfl rfl lk_Kinds_17 mo_Kinds_above (Nat.le_of_ble_eq_true rfl) (Nat.le_of_ble_eq_true rfl) ?_
      refine V2.to (l' := [some (.int (0 : Int32))]) ?_ rfl rfl rfl rfl
      refine V2_iload_n (i := 0) d_Kinds_above_0 rfl rfl ?_
      refine V2_callS [.int (0 : Int32)] d_Kinds_above_1 rfl rfl lk_Kinds_13 mo_Kinds_isKind (Nat.le_of_ble_eq_true rfl) (Nat.le_of_ble_eq_true rfl) ?_
      refine V2.to (l' := [some (.int (0 : Int32))]) ?_ rfl rfl rfl rfl
      refine V2_iload_n (i := 0) d_Kinds_isKind_0 rfl rfl ?_
      refine V2_if_lt (tgt := 16) d_Kinds_isKind_1 rfl (fun c => (by first | exact absurd c (by decide) | exact absurd (by decide) c)) (fun _ => ?_)
      refine V2_iload_n (i := 0) d_Kinds_isKind_4 rfl rfl ?_
      refine V2_getsA d_Kinds_isKind_5 gs_Kinds_7 ?_
      refine V2_abovelen d_Kinds_isKind_8 ?_
      refine V2_icmp_ge (tgt := 16) d_Kinds_isKind_9 rfl (fun c => (by first | exact absurd c (by decide) | exact absurd (by decide) c)) (fun _ => ?_)
      refine V2_iconst (v := 1) d_Kinds_isKind_12 rfl ?_
      refine V2_goto (tgt := 17) d_Kinds_isKind_13 rfl ?_
      refine V2_zreturn d_Kinds_isKind_17 rfl (by decide) ?_
      refine V2.to (st' := [.int (1 : Int32)]) ?_ rfl rfl rfl rfl
      refine V2_if_eq (tgt := 15) d_Kinds_above_4 rfl (fun c => (by first | exact absurd c (by decide) | exact absurd (by decide) c)) (fun _ => ?_)
      refine V2_getsA d_Kinds_above_7 gs_Kinds_7 ?_
      refine V2_iload_n (i := 0) d_Kinds_above_10 rfl rfl ?_
      refine V2_above (v := -1) d_Kinds_above_11 (xixA (n := 0) rfl (by decide) (by decide)) (by decide) ?_
      refine V2_goto (tgt := 16) d_Kinds_above_12 rfl ?_
      refine V2_ireturn d_Kinds_above_16 rfl ?_
      refine V2.to (st' := [.int (-1 : Int32)]) ?_ rfl rfl rfl rfl
      refine V2_istore_n (i := 2) (l' := [some (.int (3 : Int32)), some (.int o), some (.int (-1 : Int32)), some (.int (1 : Int32))]) d_Kinds_isUnder_27 rfl (xst_i (Nat.le_of_ble_eq_true rfl) rfl rfl) ?_
      refine V2_iinc (i := 3) (v := 2) (l' := [some (.int (3 : Int32)), some (.int o), some (.int (-1 : Int32)), some (.int (2 : Int32))]) d_Kinds_isUnder_28 rfl (by decide) (xst_i (Nat.le_of_ble_eq_true rfl) rfl rfl) ?_
      refine V2_goto (tgt := 4) d_Kinds_isUnder_31 rfl ?_
      refine V2_iload_n (i := 3) d_Kinds_isUnder_4 rfl rfl ?_
      refine V2_getsA d_Kinds_isUnder_5 gs_Kinds_7 ?_
      refine V2_abovelen d_Kinds_isUnder_8 ?_
      refine V2_icmp_ge (tgt := 34) d_Kinds_isUnder_9 rfl (fun c => (by first | exact absurd c (by decide) | exact absurd (by decide) c)) (fun _ => ?_)
      refine V2_iload_n (i := 2) d_Kinds_isUnder_12 rfl rfl ?_
      refine V2_if_lt (tgt := 34) d_Kinds_isUnder_13 rfl (fun _ => ?_) (fun c => (by first | exact absurd c (by decide) | exact absurd (by decide) c))
      refine V2_iconst (v := 0) d_Kinds_isUnder_34 rfl ?_
      refine V2_zreturn d_Kinds_isUnder_35 rfl (by decide) ?_
      exact xQi hQ (by clear hQ; first | exact (xb_1 (by skip; (simp only [← Int32.toInt_inj, true_and, false_and, or_false, false_or, or_true, true_or, and_true, and_false] at *) <;> omega)).symm | exact (xb_0 (by skip; (simp only [← Int32.toInt_inj, true_and, false_and, or_false, false_or, or_true, true_or, and_true, and_false] at *) <;> omega)).symm) rfl
    · refine V2_iconst (v := 1) d_Kinds_isUnder_21 rfl ?_
      refine V2_zreturn d_Kinds_isUnder_22 rfl (by decide) ?_
      exact xQi hQ (by clear hQ; first | exact (xb_1 (by skip; (simp only [← Int32.toInt_inj, true_and, false_and, or_false, false_or, or_true, true_or, and_true, and_false] at *) <;> omega)).symm | exact (xb_0 (by skip; (simp only [← Int32.toInt_inj, true_and, false_and, or_false, false_or, or_true, true_or, and_true, and_false] at *) <;> omega)).symm) rfl
  · refine V2_iconst (v := 1) d_Kinds_isUnder_21 rfl ?_
    refine V2_zreturn d_Kinds_isUnder_22 rfl (by decide) ?_
    exact xQi hQ (by clear hQ; first | exact (xb_1 (by skip; (simp only [← Int32.toInt_inj, true_and, false_and, or_false, false_or, or_true, true_or, and_true, and_false] at *) <;> omega)).symm | exact (xb_0 (by skip; (simp only [← Int32.toInt_inj, true_and, false_and, or_false, false_or, or_true, true_or, and_true, and_false] at *) <;> omega)).symm) rfl
theorem c_Kinds_isUnder_4 {L : Nat} {xs : Nat → Int32} {d : Nat} {Q : Option Value → xF → Prop} {F : xF} {o : Int32}  (hQ : Q (some (.int (xb (o = (4 : Int32) ∨ o = 0 ∨ ((4 : Int32) = 4 ∧ o = 1) ∨ ((4 : Int32) = 5 ∧ o = 2))))) F) : V2 L xs (d + 2) m_Kinds_isUnder 0 (xEntry [.int (4 : Int32), .int o] 4) [] F Q := by
  have q0 : (0 : Int32).toInt = 0 := by decide
  have q1 : (1 : Int32).toInt = 1 := by decide
  have q2 : (2 : Int32).toInt = 2 := by decide
  have q3 : (3 : Int32).toInt = 3 := by decide
  have q4 : (4 : Int32).toInt = 4 := by decide
  have q5 : (5 : Int32).toInt = 5 := by decide
  have q6 : (6 : Int32).toInt = 6 := by decide
  have q7 : (7 : Int32).toInt = 7 := by decide
  have q8 : (8 : Int32).toInt = 8 := by decide
  have q9 : (9 : Int32).toInt = 9 := by decide
  have q10 : (10 : Int32).toInt = 10 := by decide
  have q12 : (12 : Int32).toInt = 12 := by decide
  have q16 : (16 : Int32).toInt = 16 := by decide
  have q20 : (20 : Int32).toInt = 20 := by decide
  have q24 : (24 : Int32).toInt = 24 := by decide
  have q30 : (30 : Int32).toInt = 30 := by decide
  have q32 : (32 : Int32).toInt = 32 := by decide
  have q40 : (40 : Int32).toInt = 40 := by decide
  have q60 : (60 : Int32).toInt = 60 := by decide
  have q69 : (69 : Int32).toInt = 69 := by decide
  have q99 : (99 : Int32).toInt = 99 := by decide
  have q9999 : (9999 : Int32).toInt = 9999 := by decide
  have q274 : (274 : Int32).toInt = 274 := by decide
  have q334 : (334 : Int32).toInt = 334 := by decide
  refine V2.to (l' := [some (.int (4 : Int32)), some (.int o), none, none]) ?_ rfl rfl rfl rfl
  refine V2_iload_n (i := 0) d_Kinds_isUnder_0 rfl rfl ?_
  refine V2_istore_n (i := 2) (l' := [some (.int (4 : Int32)), some (.int o), some (.int (4 : Int32)), none]) d_Kinds_isUnder_1 rfl (xst_i (Nat.le_of_ble_eq_true rfl) rfl rfl) ?_
  refine V2_iconst (v := 0) d_Kinds_isUnder_2 rfl ?_
  refine V2_istore_n (i := 3) (l' := [some (.int (4 : Int32)), some (.int o), some (.int (4 : Int32)), some (.int (0 : Int32))]) d_Kinds_isUnder_3 rfl (xst_i (Nat.le_of_ble_eq_true rfl) rfl rfl) ?_
  refine V2_iload_n (i := 3) d_Kinds_isUnder_4 rfl rfl ?_
  refine V2_getsA d_Kinds_isUnder_5 gs_Kinds_7 ?_
  refine V2_abovelen d_Kinds_isUnder_8 ?_
  refine V2_icmp_ge (tgt := 34) d_Kinds_isUnder_9 rfl (fun c => (by first | exact absurd c (by decide) | exact absurd (by decide) c)) (fun _ => ?_)
  refine V2_iload_n (i := 2) d_Kinds_isUnder_12 rfl rfl ?_
  refine V2_if_lt (tgt := 34) d_Kinds_isUnder_13 rfl (fun c => (by first | exact absurd c (by decide) | exact absurd (by decide) c)) (fun _ => ?_)
  refine V2_iload_n (i := 2) d_Kinds_isUnder_16 rfl rfl ?_
  refine V2_iload_n (i := 1) d_Kinds_isUnder_17 rfl rfl ?_
  refine V2_icmp_ne (tgt := 23) d_Kinds_isUnder_18 rfl (fun c1 => ?_) (fun c1 => ?_)
  · refine V2_iload_n (i := 2) d_Kinds_isUnder_23 rfl rfl ?_
    refine V2_callS [.int (4 : Int32)] d_Kinds_isUnder_24 rfl rfl lk_Kinds_17 mo_Kinds_above (Nat.le_of_ble_eq_true rfl) (Nat.le_of_ble_eq_true rfl) ?_
    refine V2.to (l' := [some (.int (4 : Int32))]) ?_ rfl rfl rfl rfl
    refine V2_iload_n (i := 0) d_Kinds_above_0 rfl rfl ?_
    refine V2_callS [.int (4 : Int32)] d_Kinds_above_1 rfl rfl lk_Kinds_13 mo_Kinds_isKind (Nat.le_of_ble_eq_true rfl) (Nat.le_of_ble_eq_true rfl) ?_
    refine V2.to (l' := [some (.int (4 : Int32))]) ?_ rfl rfl rfl rfl
    refine V2_iload_n (i := 0) d_Kinds_isKind_0 rfl rfl ?_
    refine V2_if_lt (tgt := 16) d_Kinds_isKind_1 rfl (fun c => (by first | exact absurd c (by decide) | exact absurd (by decide) c)) (fun _ => ?_)
    refine V2_iload_n (i := 0) d_Kinds_isKind_4 rfl rfl ?_
    refine V2_getsA d_Kinds_isKind_5 gs_Kinds_7 ?_
    refine V2_abovelen d_Kinds_isKind_8 ?_
    refine V2_icmp_ge (tgt := 16) d_Kinds_isKind_9 rfl (fun c => (by first | exact absurd c (by decide) | exact absurd (by decide) c)) (fun _ => ?_)
    refine V2_iconst (v := 1) d_Kinds_isKind_12 rfl ?_
    refine V2_goto (tgt := 17) d_Kinds_isKind_13 rfl ?_
    refine V2_zreturn d_Kinds_isKind_17 rfl (by decide) ?_
    refine V2.to (st' := [.int (1 : Int32)]) ?_ rfl rfl rfl rfl
    refine V2_if_eq (tgt := 15) d_Kinds_above_4 rfl (fun c => (by first | exact absurd c (by decide) | exact absurd (by decide) c)) (fun _ => ?_)
    refine V2_getsA d_Kinds_above_7 gs_Kinds_7 ?_
    refine V2_iload_n (i := 0) d_Kinds_above_10 rfl rfl ?_
    refine V2_above (v := 1) d_Kinds_above_11 (xixA (n := 4) rfl (by decide) (by decide)) (by decide) ?_
    refine V2_goto (tgt := 16) d_Kinds_above_12 rfl ?_
    refine V2_ireturn d_Kinds_above_16 rfl ?_
    refine V2.to (st' := [.int (1 : Int32)]) ?_ rfl rfl rfl rfl
    refine V2_istore_n (i := 2) (l' := [some (.int (4 : Int32)), some (.int o), some (.int (1 : Int32)), some (.int (0 : Int32))]) d_Kinds_isUnder_27 rfl (xst_i (Nat.le_of_ble_eq_true rfl) rfl rfl) ?_
    refine V2_iinc (i := 3) (v := 1) (l' := [some (.int (4 : Int32)), some (.int o), some (.int (1 : Int32)), some (.int (1 : Int32))]) d_Kinds_isUnder_28 rfl (by decide) (xst_i (Nat.le_of_ble_eq_true rfl) rfl rfl) ?_
    refine V2_goto (tgt := 4) d_Kinds_isUnder_31 rfl ?_
    refine V2_iload_n (i := 3) d_Kinds_isUnder_4 rfl rfl ?_
    refine V2_getsA d_Kinds_isUnder_5 gs_Kinds_7 ?_
    refine V2_abovelen d_Kinds_isUnder_8 ?_
    refine V2_icmp_ge (tgt := 34) d_Kinds_isUnder_9 rfl (fun c => (by first | exact absurd c (by decide) | exact absurd (by decide) c)) (fun _ => ?_)
    refine V2_iload_n (i := 2) d_Kinds_isUnder_12 rfl rfl ?_
    refine V2_if_lt (tgt := 34) d_Kinds_isUnder_13 rfl (fun c => (by first | exact absurd c (by decide) | exact absurd (by decide) c)) (fun _ => ?_)
    refine V2_iload_n (i := 2) d_Kinds_isUnder_16 rfl rfl ?_
    refine V2_iload_n (i := 1) d_Kinds_isUnder_17 rfl rfl ?_
    refine V2_icmp_ne (tgt := 23) d_Kinds_isUnder_18 rfl (fun c3 => ?_) (fun c3 => ?_)
    · refine V2_iload_n (i := 2) d_Kinds_isUnder_23 rfl rfl ?_
      refine V2_callS [.int (1 : Int32)] d_Kinds_isUnder_24 rfl rfl lk_Kinds_17 mo_Kinds_above (Nat.le_of_ble_eq_true rfl) (Nat.le_of_ble_eq_true rfl) ?_
      refine V2.to (l' := [some (.int (1 : Int32))]) ?_ rfl rfl rfl rfl
      refine V2_iload_n (i := 0) d_Kinds_above_0 rfl rfl ?_
      refine V2_callS [.int (1 : Int32)] d_Kinds_above_1 rfl rfl lk_Kinds_13 mo_Kinds_isKind (Nat.le_of_ble_eq_true rfl) (Nat.le_of_ble_eq_true rfl) ?_
      refine V2.to (l' := [some (.int (1 : Int32))]) ?_ rfl rfl rfl rfl
      refine V2_iload_n (i := 0) d_Kinds_isKind_0 rfl rfl ?_
      refine V2_if_lt (tgt := 16) d_Kinds_isKind_1 rfl (fun c => (by first | exact absurd c (by decide) | exact absurd (by decide) c)) (fun _ => ?_)
      refine V2_iload_n (i := 0) d_Kinds_isKind_4 rfl rfl ?_
      refine V2_getsA d_Kinds_isKind_5 gs_Kinds_7 ?_
      refine V2_abovelen d_Kinds_isKind_8 ?_
      refine V2_icmp_ge (tgt := 16) d_Kinds_isKind_9 rfl (fun c => (by first | exact absurd c (by decide) | exact absurd (by decide) c)) (fun _ => ?_)
      refine V2_iconst (v := 1) d_Kinds_isKind_12 rfl ?_
      refine V2_goto (tgt := 17) d_Kinds_isKind_13 rfl ?_
      refine V2_zreturn d_Kinds_isKind_17 rfl (by decide) ?_
      refine V2.to (st' := [.int (1 : Int32)]) ?_ rfl rfl rfl rfl
      refine V2_if_eq (tgt := 15) d_Kinds_above_4 rfl (fun c => (by first | exact absurd c (by decide) | exact absurd (by decide) c)) (fun _ => ?_)
      refine V2_getsA d_Kinds_above_7 gs_Kinds_7 ?_
      refine V2_iload_n (i := 0) d_Kinds_above_10 rfl rfl ?_
      refine V2_above (v := 0) d_Kinds_above_11 (xixA (n := 1) rfl (by decide) (by decide)) (by decide) ?_
      refine V2_goto (tgt := 16) d_Kinds_above_12 rfl ?_
      refine V2_ireturn d_Kinds_above_16 rfl ?_
      refine V2.to (st' := [.int (0 : Int32)]) ?_ rfl rfl rfl rfl
      refine V2_istore_n (i := 2) (l' := [some (.int (4 : Int32)), some (.int o), some (.int (0 : Int32)), some (.int (1 : Int32))]) d_Kinds_isUnder_27 rfl (xst_i (Nat.le_of_ble_eq_true rfl) rfl rfl) ?_
      refine V2_iinc (i := 3) (v := 2) (l' := [some (.int (4 : Int32)), some (.int o), some (.int (0 : Int32)), some (.int (2 : Int32))]) d_Kinds_isUnder_28 rfl (by decide) (xst_i (Nat.le_of_ble_eq_true rfl) rfl rfl) ?_
      refine V2_goto (tgt := 4) d_Kinds_isUnder_31 rfl ?_
      refine V2_iload_n (i := 3) d_Kinds_isUnder_4 rfl rfl ?_
      refine V2_getsA d_Kinds_isUnder_5 gs_Kinds_7 ?_
      refine V2_abovelen d_Kinds_isUnder_8 ?_
      refine V2_icmp_ge (tgt := 34) d_Kinds_isUnder_9 rfl (fun c => (by first | exact absurd c (by decide) | exact absurd (by decide) c)) (fun _ => ?_)
      refine V2_iload_n (i := 2) d_Kinds_isUnder_12 rfl rfl ?_
      refine V2_if_lt (tgt := 34) d_Kinds_isUnder_13 rfl (fun c => (by first | exact absurd c (by decide) | exact absurd (by decide) c)) (fun _ => ?_)
      refine V2_iload_n (i := 2) d_Kinds_isUnder_16 rfl rfl ?_
      refine V2_iload_n (i := 1) d_Kinds_isUnder_17 rfl rfl ?_
      refine V2_icmp_ne (tgt := 23) d_Kinds_isUnder_18 rfl (fun c5 => ?_) (fun c5 => ?_)
      · refine V2_iload_n (i := 2) d_Kinds_isUnder_23 rfl rfl ?_
        refine V2_callS [.int (0 : Int32)] d_Kinds_isUnder_24 rfl rfl lk_Kinds_17 mo_Kinds_above (Nat.le_of_ble_eq_true rfl) (Nat.le_of_ble_eq_true rfl) ?_
        refine V2.to (l' := [some (.int (0 : Int32))]) ?_ rfl rfl rfl rfl
        refine V2_iload_n (i := 0) d_Kinds_above_0 rfl rfl ?_
        refine V2_callS [.int (0 : Int32)] d_Kinds_above_1 rfl rfl lk_Kinds_13 mo_Kinds_isKind (Nat.le_of_ble_eq_true rfl) (Nat.le_of_ble_eq_true rfl) ?_
        refine V2.to (l' := [some (.int (0 : Int32))]) ?_ rfl rfl rfl rfl
        refine V2_iload_n (i := 0) d_Kinds_isKind_0 rfl rfl ?_
        refine V2_if_lt (tgt := 16) d_Kinds_isKind_1 rfl (fun c => (by first | exact absurd c (by decide) | exact absurd (by decide) c)) (fun _ => ?_)
        refine V2_iload_n (i := 0) d_Kinds_isKind_4 rfl rfl ?_
        refine V2_getsA d_Kinds_isKind_5 gs_Kinds_7 ?_
        refine V2_abovelen d_Kinds_isKind_8 ?_
        refine V2_icmp_ge (tgt := 16) d_Kinds_isKind_9 rfl (fun c => (by first | exact absurd c (by decide) | exact absurd (by decide) c)) (fun _ => ?_)
        refine V2_iconst (v := 1) d_Kinds_isKind_12 rfl ?_
        refine V2_goto (tgt := 17) d_Kinds_isKind_13 rfl ?_
        refine V2_zreturn d_Kinds_isKind_17 rfl (by decide) ?_
        refine V2.to (st' := [.int (1 : Int32)]) ?_ rfl rfl rfl rfl
        refine V2_if_eq (tgt := 15) d_Kinds_above_4 rfl (fun c => (by first | exact absurd c (by decide) | exact absurd (by decide) c)) (fun _ => ?_)
        refine V2_getsA d_Kinds_above_7 gs_Kinds_7 ?_
        refine V2_iload_n (i := 0) d_Kinds_above_10 rfl rfl ?_
        refine V2_above (v := -1) d_Kinds_above_11 (xixA (n := 0) rfl (by decide) (by decide)) (by decide) ?_
        refine V2_goto (tgt := 16) d_Kinds_above_12 rfl ?_
        refine V2_ireturn d_Kinds_above_16 rfl ?_
        refine V2.to (st' := [.int (-1 : Int32)]) ?_ rfl rfl rfl rfl
        refine V2_istore_n (i := 2) (l' := [some (.int (4 : Int32)), some (.int o), some (.int (-1 : Int32)), some (.int (2 : Int32))]) d_Kinds_isUnder_27 rfl (xst_i (Nat.le_of_ble_eq_true rfl) rfl rfl) ?_
        refine V2_iinc (i := 3) (v := 3) (l' := [some (.int (4 : Int32)), some (.int o), some (.int (-1 : Int32)), some (.int (3 : Int32))]) d_Kinds_isUnder_28 rfl (by decide) (xst_i (Nat.le_of_ble_eq_true rfl) rfl rfl) ?_
        refine V2_goto (tgt := 4) d_Kinds_isUnder_31 rfl ?_
        refine V2_iload_n (i := 3) d_Kinds_isUnder_4 rfl rfl ?_
        refine V2_getsA d_Kinds_isUnder_5 gs_Kinds_7 ?_
        refine V2_abovelen d_Kinds_isUnder_8 ?_
        refine V2_icmp_ge (tgt := 34) d_Kinds_isUnder_9 rfl (fun c => (by first | exact absurd c (by decide) | exact absurd (by decide) c)) (fun _ => ?_)
        refine V2_iload_n (i := 2) d_Kinds_isUnder_12 rfl rfl ?_
        refine V2_if_lt (tgt := 34) d_Kinds_isUnder_13 rfl (fun _ => ?_) (fun c => (by first | exact absurd c (by decide) | exact absurd (by decide) c))
        refine V2_iconst (v := 0) d_Kinds_isUnder_34 rfl ?_
        refine V2_zreturn d_Kinds_isUnder_35 rfl (by decide) ?_
        exact xQi hQ (by clear hQ; first | exact (xb_1 (by skip; (simp only [← Int32.toInt_inj, true_and, false_and, or_false, false_or, or_true, true_or, and_true, and_false] at *) <;> omega)).symm | exact (xb_0 (by skip; (simp only [← Int32.toInt_inj, true_and, false_and, or_false, false_or, or_true, true_or, and_true, and_false] at *) <;> omega)).symm) rfl
      · refine V2_iconst (v := 1) d_Kinds_isUnder_21 rfl ?_
        refine V2_zreturn d_Kinds_isUnder_22 rfl (by decide) ?_
        exact xQi hQ (by clear hQ; first | exact (xb_1 (by skip; (simp only [← Int32.toInt_inj, true_and, false_and, or_false, false_or, or_true, true_or, and_true, and_false] at *) <;> omega)).symm | exact (xb_0 (by skip; (simp only [← Int32.toInt_inj, true_and, false_and, or_false, false_or, or_true, true_or, and_true, and_false] at *) <;> omega)).symm) rfl
    · refine V2_iconst (v := 1) d_Kinds_isUnder_21 rfl ?_
      refine V2_zreturn d_Kinds_isUnder_22 rfl (by decide) ?_
      exact xQi hQ (by clear hQ; first | exact (xb_1 (by skip; (simp only [← Int32.toInt_inj, true_and, false_and, or_false, false_or, or_true, true_or, and_true, and_false] at *) <;> omega)).symm | exact (xb_0 (by skip; (simp only [← Int32.toInt_inj, true_and, false_and, or_false, false_or, or_true, true_or, and_true, and_false] at *) <;> omega)).symm) rfl
  · refine V2_iconst (v := 1) d_Kinds_isUnder_21 rfl ?_
    refine V2_zreturn d_Kinds_isUnder_22 rfl (by decide) ?_
    exact xQi hQ (by clear hQ; first | exact (xb_1 (by skip; (simp only [← Int32.toInt_inj, true_and, false_and, or_false, false_or, or_true, true_or, and_true, and_false] at *) <;> omega)).symm | exact (xb_0 (by skip; (simp only [← Int32.toInt_inj, true_and, false_and, or_false, false_or, or_true, true_or, and_true, and_false] at *) <;> omega)).symm) rfl
theorem c_Kinds_isUnder_5 {L : Nat} {xs : Nat → Int32} {d : Nat} {Q : Option Value → xF → Prop} {F : xF} {o : Int32}  (hQ : Q (some (.int (xb (o = (5 : Int32) ∨ o = 0 ∨ ((5 : Int32) = 4 ∧ o = 1) ∨ ((5 : Int32) = 5 ∧ o = 2))))) F) : V2 L xs (d + 2) m_Kinds_isUnder 0 (xEntry [.int (5 : Int32), .int o] 4) [] F Q := by
  have q0 : (0 : Int32).toInt = 0 := by decide
  have q1 : (1 : Int32).toInt = 1 := by decide
  have q2 : (2 : Int32).toInt = 2 := by decide
  have q3 : (3 : Int32).toInt = 3 := by decide
  have q4 : (4 : Int32).toInt = 4 := by decide
  have q5 : (5 : Int32).toInt = 5 := by decide
  have q6 : (6 : Int32).toInt = 6 := by decide
  have q7 : (7 : Int32).toInt = 7 := by decide
  have q8 : (8 : Int32).toInt = 8 := by decide
  have q9 : (9 : Int32).toInt = 9 := by decide
  have q10 : (10 : Int32).toInt = 10 := by decide
  have q12 : (12 : Int32).toInt = 12 := by decide
  have q16 : (16 : Int32).toInt = 16 := by decide
  have q20 : (20 : Int32).toInt = 20 := by decide
  have q24 : (24 : Int32).toInt = 24 := by decide
  have q30 : (30 : Int32).toInt = 30 := by decide
  have q32 : (32 : Int32).toInt = 32 := by decide
  have q40 : (40 : Int32).toInt = 40 := by decide
  have q60 : (60 : Int32).toInt = 60 := by decide
  have q69 : (69 : Int32).toInt = 69 := by decide
  have q99 : (99 : Int32).toInt = 99 := by decide
  have q9999 : (9999 : Int32).toInt = 9999 := by decide
  have q274 : (274 : Int32).toInt = 274 := by decide
  have q334 : (334 : Int32).toInt = 334 := by decide
  refine V2.to (l' := [some (.int (5 : Int32)), some (.int o), none, none]) ?_ rfl rfl rfl rfl
  refine V2_iload_n (i := 0) d_Kinds_isUnder_0 rfl rfl ?_
  refine V2_istore_n (i := 2) (l' := [some (.int (5 : Int32)), some (.int o), some (.int (5 : Int32)), none]) d_Kinds_isUnder_1 rfl (xst_i (Nat.le_of_ble_eq_true rfl) rfl rfl) ?_
  refine V2_iconst (v := 0) d_Kinds_isUnder_2 rfl ?_
  refine V2_istore_n (i := 3) (l' := [some (.int (5 : Int32)), some (.int o), some (.int (5 : Int32)), some (.int (0 : Int32))]) d_Kinds_isUnder_3 rfl (xst_i (Nat.le_of_ble_eq_true rfl) rfl rfl) ?_
  refine V2_iload_n (i := 3) d_Kinds_isUnder_4 rfl rfl ?_
  refine V2_getsA d_Kinds_isUnder_5 gs_Kinds_7 ?_
  refine V2_abovelen d_Kinds_isUnder_8 ?_
  refine V2_icmp_ge (tgt := 34) d_Kinds_isUnder_9 rfl (fun c => (by first | exact absurd c (by decide) | exact absurd (by decide) c)) (fun _ => ?_)
  refine V2_iload_n (i := 2) d_Kinds_isUnder_12 rfl rfl ?_
  refine V2_if_lt (tgt := 34) d_Kinds_isUnder_13 rfl (fun c => (by first | exact absurd c (by decide) | exact absurd (by decide) c)) (fun _ => ?_)
  refine V2_iload_n (i := 2) d_Kinds_isUnder_16 rfl rfl ?_
  refine V2_iload_n (i := 1) d_Kinds_isUnder_17 rfl rfl ?_
  refine V2_icmp_ne (tgt := 23) d_Kinds_isUnder_18 rfl (fun c1 => ?_) (fun c1 => ?_)
  · refine V2_iload_n (i := 2) d_Kinds_isUnder_23 rfl rfl ?_
    refine V2_callS [.int (5 : Int32)] d_Kinds_isUnder_24 rfl rfl lk_Kinds_17 mo_Kinds_above (Nat.le_of_ble_eq_true rfl) (Nat.le_of_ble_eq_true rfl) ?_
    refine V2.to (l' := [some (.int (5 : Int32))]) ?_ rfl rfl rfl rfl
    refine V2_iload_n (i := 0) d_Kinds_above_0 rfl rfl ?_
    refine V2_callS [.int (5 : Int32)] d_Kinds_above_1 rfl rfl lk_Kinds_13 mo_Kinds_isKind (Nat.le_of_ble_eq_true rfl) (Nat.le_of_ble_eq_true rfl) ?_
    refine V2.to (l' := [some (.int (5 : Int32))]) ?_ rfl rfl rfl rfl
    refine V2_iload_n (i := 0) d_Kinds_isKind_0 rfl rfl ?_
    refine V2_if_lt (tgt := 16) d_Kinds_isKind_1 rfl (fun c => (by first | exact absurd c (by decide) | exact absurd (by decide) c)) (fun _ => ?_)
    refine V2_iload_n (i := 0) d_Kinds_isKind_4 rfl rfl ?_
    refine V2_getsA d_Kinds_isKind_5 gs_Kinds_7 ?_
    refine V2_abovelen d_Kinds_isKind_8 ?_
    refine V2_icmp_ge (tgt := 16) d_Kinds_isKind_9 rfl (fun c => (by first | exact absurd c (by decide) | exact absurd (by decide) c)) (fun _ => ?_)
    refine V2_iconst (v := 1) d_Kinds_isKind_12 rfl ?_
    refine V2_goto (tgt := 17) d_Kinds_isKind_13 rfl ?_
    refine V2_zreturn d_Kinds_isKind_17 rfl (by decide) ?_
    refine V2.to (st' := [.int (1 : Int32)]) ?_ rfl rfl rfl rfl
    refine V2_if_eq (tgt := 15) d_Kinds_above_4 rfl (fun c => (by first | exact absurd c (by decide) | exact absurd (by decide) c)) (fun _ => ?_)
    refine V2_getsA d_Kinds_above_7 gs_Kinds_7 ?_
    refine V2_iload_n (i := 0) d_Kinds_above_10 rfl rfl ?_
    refine V2_above (v := 2) d_Kinds_above_11 (xixA (n := 5) rfl (by decide) (by decide)) (by decide) ?_
    refine V2_goto (tgt := 16) d_Kinds_above_12 rfl ?_
    refine V2_ireturn d_Kinds_above_16 rfl ?_
    refine V2.to (st' := [.int (2 : Int32)]) ?_ rfl rfl rfl rfl
    refine V2_istore_n (i := 2) (l' := [some (.int (5 : Int32)), some (.int o), some (.int (2 : Int32)), some (.int (0 : Int32))]) d_Kinds_isUnder_27 rfl (xst_i (Nat.le_of_ble_eq_true rfl) rfl rfl) ?_
    refine V2_iinc (i := 3) (v := 1) (l' := [some (.int (5 : Int32)), some (.int o), some (.int (2 : Int32)), some (.int (1 : Int32))]) d_Kinds_isUnder_28 rfl (by decide) (xst_i (Nat.le_of_ble_eq_true rfl) rfl rfl) ?_
    refine V2_goto (tgt := 4) d_Kinds_isUnder_31 rfl ?_
    refine V2_iload_n (i := 3) d_Kinds_isUnder_4 rfl rfl ?_
    refine V2_getsA d_Kinds_isUnder_5 gs_Kinds_7 ?_
    refine V2_abovelen d_Kinds_isUnder_8 ?_
    refine V2_icmp_ge (tgt := 34) d_Kinds_isUnder_9 rfl (fun c => (by first | exact absurd c (by decide) | exact absurd (by decide) c)) (fun _ => ?_)
    refine V2_iload_n (i := 2) d_Kinds_isUnder_12 rfl rfl ?_
    refine V2_if_lt (tgt := 34) d_Kinds_isUnder_13 rfl (fun c => (by first | exact absurd c (by decide) | exact absurd (by decide) c)) (fun _ => ?_)
    refine V2_iload_n (i := 2) d_Kinds_isUnder_16 rfl rfl ?_
    refine V2_iload_n (i := 1) d_Kinds_isUnder_17 rfl rfl ?_
    refine V2_icmp_ne (tgt := 23) d_Kinds_isUnder_18 rfl (fun c3 => ?_) (fun c3 => ?_)
    · refine V2_iload_n (i := 2) d_Kinds_isUnder_23 rfl rfl ?_
      refine V2_callS [.int (2 : Int32)] d_Kinds_isUnder_24 rfl rfl lk_Kinds_17 mo_Kinds_above (Nat.le_of_ble_eq_true rfl) (Nat.le_of_ble_eq_true rfl) ?_
      refine V2.to (l' := [some (.int (2 : Int32))]) ?_ rfl rfl rfl rfl
      refine V2_iload_n (i := 0) d_Kinds_above_0 rfl rfl ?_
      refine V2_callS [.int (2 : Int32)] d_Kinds_above_1 rfl rfl lk_Kinds_13 mo_Kinds_isKind (Nat.le_of_ble_eq_true rfl) (Nat.le_of_ble_eq_true rfl) ?_
      refine V2.to (l' := [some (.int (2 : Int32))]) ?_ rfl rfl rfl rfl
      refine V2_iload_n (i := 0) d_Kinds_isKind_0 rfl rfl ?_
      refine V2_if_lt (tgt := 16) d_Kinds_isKind_1 rfl (fun c => (by first | exact absurd c (by decide) | exact absurd (by decide) c)) (fun _ => ?_)
      refine V2_iload_n (i := 0) d_Kinds_isKind_4 rfl rfl ?_
      refine V2_getsA d_Kinds_isKind_5 gs_Kinds_7 ?_
      refine V2_abovelen d_Kinds_isKind_8 ?_
      refine V2_icmp_ge (tgt := 16) d_Kinds_isKind_9 rfl (fun c => (by first | exact absurd c (by decide) | exact absurd (by decide) c)) (fun _ => ?_)
      refine V2_iconst (v := 1) d_Kinds_isKind_12 rfl ?_
      refine V2_goto (tgt := 17) d_Kinds_isKind_13 rfl ?_
      refine V2_zreturn d_Kinds_isKind_17 rfl (by decide) ?_
      refine V2.to (st' := [.int (1 : Int32)]) ?_ rfl rfl rfl rfl
      refine V2_if_eq (tgt := 15) d_Kinds_above_4 rfl (fun c => (by first | exact absurd c (by decide) | exact absurd (by decide) c)) (fun _ => ?_)
      refine V2_getsA d_Kinds_above_7 gs_Kinds_7 ?_
      refine V2_iload_n (i := 0) d_Kinds_above_10 rfl rfl ?_
      refine V2_above (v := 0) d_Kinds_above_11 (xixA (n := 2) rfl (by decide) (by decide)) (by decide) ?_
      refine V2_goto (tgt := 16) d_Kinds_above_12 rfl ?_
      refine V2_ireturn d_Kinds_above_16 rfl ?_
      refine V2.to (st' := [.int (0 : Int32)]) ?_ rfl rfl rfl rfl
      refine V2_istore_n (i := 2) (l' := [some (.int (5 : Int32)), some (.int o), some (.int (0 : Int32)), some (.int (1 : Int32))]) d_Kinds_isUnder_27 rfl (xst_i (Nat.le_of_ble_eq_true rfl) rfl rfl) ?_
      refine V2_iinc (i := 3) (v := 2) (l' := [some (.int (5 : Int32)), some (.int o), some (.int (0 : Int32)), some (.int (2 : Int32))]) d_Kinds_isUnder_28 rfl (by decide) (xst_i (Nat.le_of_ble_eq_true rfl) rfl rfl) ?_
      refine V2_goto (tgt := 4) d_Kinds_isUnder_31 rfl ?_
      refine V2_iload_n (i := 3) d_Kinds_isUnder_4 rfl rfl ?_
      refine V2_getsA d_Kinds_isUnder_5 gs_Kinds_7 ?_
      refine V2_abovelen d_Kinds_isUnder_8 ?_
      refine V2_icmp_ge (tgt := 34) d_Kinds_isUnder_9 rfl (fun c => (by first | exact absurd c (by decide) | exact absurd (by decide) c)) (fun _ => ?_)
      refine V2_iload_n (i := 2) d_Kinds_isUnder_12 rfl rfl ?_
      refine V2_if_lt (tgt := 34) d_Kinds_isUnder_13 rfl (fun c => (by first | exact absurd c (by decide) | exact absurd (by decide) c)) (fun _ => ?_)
      refine V2_iload_n (i := 2) d_Kinds_isUnder_16 rfl rfl ?_
      refine V2_iload_n (i := 1) d_Kinds_isUnder_17 rfl rfl ?_
      refine V2_icmp_ne (tgt := 23) d_Kinds_isUnder_18 rfl (fun c5 => ?_) (fun c5 => ?_)
      · refine V2_iload_n (i := 2) d_Kinds_isUnder_23 rfl rfl ?_
        refine V2_callS [.int (0 : Int32)] d_Kinds_isUnder_24 rfl rfl lk_Kinds_17 mo_Kinds_above (Nat.le_of_ble_eq_true rfl) (Nat.le_of_ble_eq_true rfl) ?_
        refine V2.to (l' := [some (.int (0 : Int32))]) ?_ rfl rfl rfl rfl
        refine V2_iload_n (i := 0) d_Kinds_above_0 rfl rfl ?_
        refine V2_callS [.int (0 : Int32)] d_Kinds_above_1 rfl rfl lk_Kinds_13 mo_Kinds_isKind (Nat.le_of_ble_eq_true rfl) (Nat.le_of_ble_eq_true rfl) ?_
        refine V2.to (l' := [some (.int (0 : Int32))]) ?_ rfl rfl rfl rfl
        refine V2_iload_n (i := 0) d_Kinds_isKind_0 rfl rfl ?_
        refine V2_if_lt (tgt := 16) d_Kinds_isKind_1 rfl (fun c => (by first | exact absurd c (by decide) | exact absurd (by decide) c)) (fun _ => ?_)
        refine V2_iload_n (i := 0) d_Kinds_isKind_4 rfl rfl ?_
        refine V2_getsA d_Kinds_isKind_5 gs_Kinds_7 ?_
        refine V2_abovelen d_Kinds_isKind_8 ?_
        refine V2_icmp_ge (tgt := 16) d_Kinds_isKind_9 rfl (fun c => (by first | exact absurd c (by decide) | exact absurd (by decide) c)) (fun _ => ?_)
        refine V2_iconst (v := 1) d_Kinds_isKind_12 rfl ?_
        refine V2_goto (tgt := 17) d_Kinds_isKind_13 rfl ?_
        refine V2_zreturn d_Kinds_isKind_17 rfl (by decide) ?_
        refine V2.to (st' := [.int (1 : Int32)]) ?_ rfl rfl rfl rfl
        refine V2_if_eq (tgt := 15) d_Kinds_above_4 rfl (fun c => (by first | exact absurd c (by decide) | exact absurd (by decide) c)) (fun _ => ?_)
        refine V2_getsA d_Kinds_above_7 gs_Kinds_7 ?_
        refine V2_iload_n (i := 0) d_Kinds_above_10 rfl rfl ?_
        refine V2_above (v := -1) d_Kinds_above_11 (xixA (n := 0) rfl (by decide) (by decide)) (by decide) ?_
        refine V2_goto (tgt := 16) d_Kinds_above_12 rfl ?_
        refine V2_ireturn d_Kinds_above_16 rfl ?_
        refine V2.to (st' := [.int (-1 : Int32)]) ?_ rfl rfl rfl rfl
        refine V2_istore_n (i := 2) (l' := [some (.int (5 : Int32)), some (.int o), some (.int (-1 : Int32)), some (.int (2 : Int32))]) d_Kinds_isUnder_27 rfl (xst_i (Nat.le_of_ble_eq_true rfl) rfl rfl) ?_
        refine V2_iinc (i := 3) (v := 3) (l' := [some (.int (5 : Int32)), some (.int o), some (.int (-1 : Int32)), some (.int (3 : Int32))]) d_Kinds_isUnder_28 rfl (by decide) (xst_i (Nat.le_of_ble_eq_true rfl) rfl rfl) ?_
        refine V2_goto (tgt := 4) d_Kinds_isUnder_31 rfl ?_
        refine V2_iload_n (i := 3) d_Kinds_isUnder_4 rfl rfl ?_
        refine V2_getsA d_Kinds_isUnder_5 gs_Kinds_7 ?_
        refine V2_abovelen d_Kinds_isUnder_8 ?_
        refine V2_icmp_ge (tgt := 34) d_Kinds_isUnder_9 rfl (fun c => (by first | exact absurd c (by decide) | exact absurd (by decide) c)) (fun _ => ?_)
        refine V2_iload_n (i := 2) d_Kinds_isUnder_12 rfl rfl ?_
        refine V2_if_lt (tgt := 34) d_Kinds_isUnder_13 rfl (fun _ => ?_) (fun c => (by first | exact absurd c (by decide) | exact absurd (by decide) c))
        refine V2_iconst (v := 0) d_Kinds_isUnder_34 rfl ?_
        refine V2_zreturn d_Kinds_isUnder_35 rfl (by decide) ?_
        exact xQi hQ (by clear hQ; first | exact (xb_1 (by skip; (simp only [← Int32.toInt_inj, true_and, false_and, or_false, false_or, or_true, true_or, and_true, and_false] at *) <;> omega)).symm | exact (xb_0 (by skip; (simp only [← Int32.toInt_inj, true_and, false_and, or_false, false_or, or_true, true_or, and_true, and_false] at *) <;> omega)).symm) rfl
      · refine V2_iconst (v := 1) d_Kinds_isUnder_21 rfl ?_
        refine V2_zreturn d_Kinds_isUnder_22 rfl (by decide) ?_
        exact xQi hQ (by clear hQ; first | exact (xb_1 (by skip; (simp only [← Int32.toInt_inj, true_and, false_and, or_false, false_or, or_true, true_or, and_true, and_false] at *) <;> omega)).symm | exact (xb_0 (by skip; (simp only [← Int32.toInt_inj, true_and, false_and, or_false, false_or, or_true, true_or, and_true, and_false] at *) <;> omega)).symm) rfl
    · refine V2_iconst (v := 1) d_Kinds_isUnder_21 rfl ?_
      refine V2_zreturn d_Kinds_isUnder_22 rfl (by decide) ?_
      exact xQi hQ (by clear hQ; first | exact (xb_1 (by skip; (simp only [← Int32.toInt_inj, true_and, false_and, or_false, false_or, or_true, true_or, and_true, and_false] at *) <;> omega)).symm | exact (xb_0 (by skip; (simp only [← Int32.toInt_inj, true_and, false_and, or_false, false_or, or_true, true_or, and_true, and_false] at *) <;> omega)).symm) rfl
  · refine V2_iconst (v := 1) d_Kinds_isUnder_21 rfl ?_
    refine V2_zreturn d_Kinds_isUnder_22 rfl (by decide) ?_
    exact xQi hQ (by clear hQ; first | exact (xb_1 (by skip; (simp only [← Int32.toInt_inj, true_and, false_and, or_false, false_or, or_true, true_or, and_true, and_false] at *) <;> omega)).symm | exact (xb_0 (by skip; (simp only [← Int32.toInt_inj, true_and, false_and, or_false, false_or, or_true, true_or, and_true, and_false] at *) <;> omega)).symm) rfl
theorem c_Kinds_isUnder_6 {L : Nat} {xs : Nat → Int32} {d : Nat} {Q : Option Value → xF → Prop} {F : xF} {o : Int32}  (hQ : Q (some (.int (xb (o = (6 : Int32) ∨ o = 0 ∨ ((6 : Int32) = 4 ∧ o = 1) ∨ ((6 : Int32) = 5 ∧ o = 2))))) F) : V2 L xs (d + 2) m_Kinds_isUnder 0 (xEntry [.int (6 : Int32), .int o] 4) [] F Q := by
  have q0 : (0 : Int32).toInt = 0 := by decide
  have q1 : (1 : Int32).toInt = 1 := by decide
  have q2 : (2 : Int32).toInt = 2 := by decide
  have q3 : (3 : Int32).toInt = 3 := by decide
  have q4 : (4 : Int32).toInt = 4 := by decide
  have q5 : (5 : Int32).toInt = 5 := by decide
  have q6 : (6 : Int32).toInt = 6 := by decide
  have q7 : (7 : Int32).toInt = 7 := by decide
  have q8 : (8 : Int32).toInt = 8 := by decide
  have q9 : (9 : Int32).toInt = 9 := by decide
  have q10 : (10 : Int32).toInt = 10 := by decide
  have q12 : (12 : Int32).toInt = 12 := by decide
  have q16 : (16 : Int32).toInt = 16 := by decide
  have q20 : (20 : Int32).toInt = 20 := by decide
  have q24 : (24 : Int32).toInt = 24 := by decide
  have q30 : (30 : Int32).toInt = 30 := by decide
  have q32 : (32 : Int32).toInt = 32 := by decide
  have q40 : (40 : Int32).toInt = 40 := by decide
  have q60 : (60 : Int32).toInt = 60 := by decide
  have q69 : (69 : Int32).toInt = 69 := by decide
  have q99 : (99 : Int32).toInt = 99 := by decide
  have q9999 : (9999 : Int32).toInt = 9999 := by decide
  have q274 : (274 : Int32).toInt = 274 := by decide
  have q334 : (334 : Int32).toInt = 334 := by decide
  refine V2.to (l' := [some (.int (6 : Int32)), some (.int o), none, none]) ?_ rfl rfl rfl rfl
  refine V2_iload_n (i := 0) d_Kinds_isUnder_0 rfl rfl ?_
  refine V2_istore_n (i := 2) (l' := [some (.int (6 : Int32)), some (.int o), some (.int (6 : Int32)), none]) d_Kinds_isUnder_1 rfl (xst_i (Nat.le_of_ble_eq_true rfl) rfl rfl) ?_
  refine V2_iconst (v := 0) d_Kinds_isUnder_2 rfl ?_
  refine V2_istore_n (i := 3) (l' := [some (.int (6 : Int32)), some (.int o), some (.int (6 : Int32)), some (.int (0 : Int32))]) d_Kinds_isUnder_3 rfl (xst_i (Nat.le_of_ble_eq_true rfl) rfl rfl) ?_
  refine V2_iload_n (i := 3) d_Kinds_isUnder_4 rfl rfl ?_
  refine V2_getsA d_Kinds_isUnder_5 gs_Kinds_7 ?_
  refine V2_abovelen d_Kinds_isUnder_8 ?_
  refine V2_icmp_ge (tgt := 34) d_Kinds_isUnder_9 rfl (fun c => (by first | exact absurd c (by decide) | exact absurd (by decide) c)) (fun _ => ?_)
  refine V2_iload_n (i := 2) d_Kinds_isUnder_12 rfl rfl ?_
  refine V2_if_lt (tgt := 34) d_Kinds_isUnder_13 rfl (fun c => (by first | exact absurd c (by decide) | exact absurd (by decide) c)) (fun _ => ?_)
  refine V2_iload_n (i := 2) d_Kinds_isUnder_16 rfl rfl ?_
  refine V2_iload_n (i := 1) d_Kinds_isUnder_17 rfl rfl ?_
  refine V2_icmp_ne (tgt := 23) d_Kinds_isUnder_18 rfl (fun c1 => ?_) (fun c1 => ?_)
  · refine V2_iload_n (i := 2) d_Kinds_isUnder_23 rfl rfl ?_
    refine V2_callS [.int (6 : Int32)] d_Kinds_isUnder_24 rfl rfl lk_Kinds_17 mo_Kinds_above (Nat.le_of_ble_eq_true rfl) (Nat.le_of_ble_eq_true rfl) ?_
    refine V2.to (l' := [some (.int (6 : Int32))]) ?_ rfl rfl rfl rfl
    refine V2_iload_n (i := 0) d_Kinds_above_0 rfl rfl ?_
    refine V2_callS [.int (6 : Int32)] d_Kinds_above_1 rfl rfl lk_Kinds_13 mo_Kinds_isKind (Nat.le_of_ble_eq_true rfl) (Nat.le_of_ble_eq_true rfl) ?_
    refine V2.to (l' := [some (.int (6 : Int32))]) ?_ rfl rfl rfl rfl
    refine V2_iload_n (i := 0) d_Kinds_isKind_0 rfl rfl ?_
    refine V2_if_lt (tgt := 16) d_Kinds_isKind_1 rfl (fun c => (by first | exact absurd c (by decide) | exact absurd (by decide) c)) (fun _ => ?_)
    refine V2_iload_n (i := 0) d_Kinds_isKind_4 rfl rfl ?_
    refine V2_getsA d_Kinds_isKind_5 gs_Kinds_7 ?_
    refine V2_abovelen d_Kinds_isKind_8 ?_
    refine V2_icmp_ge (tgt := 16) d_Kinds_isKind_9 rfl (fun c => (by first | exact absurd c (by decide) | exact absurd (by decide) c)) (fun _ => ?_)
    refine V2_iconst (v := 1) d_Kinds_isKind_12 rfl ?_
    refine V2_goto (tgt := 17) d_Kinds_isKind_13 rfl ?_
    refine V2_zreturn d_Kinds_isKind_17 rfl (by decide) ?_
    refine V2.to (st' := [.int (1 : Int32)]) ?_ rfl rfl rfl rfl
    refine V2_if_eq (tgt := 15) d_Kinds_above_4 rfl (fun c => (by first | exact absurd c (by decide) | exact absurd (by decide) c)) (fun _ => ?_)
    refine V2_getsA d_Kinds_above_7 gs_Kinds_7 ?_
    refine V2_iload_n (i := 0) d_Kinds_above_10 rfl rfl ?_
    refine V2_above (v := 0) d_Kinds_above_11 (xixA (n := 6) rfl (by decide) (by decide)) (by decide) ?_
    refine V2_goto (tgt := 16) d_Kinds_above_12 rfl ?_
    refine V2_ireturn d_Kinds_above_16 rfl ?_
    refine V2.to (st' := [.int (0 : Int32)]) ?_ rfl rfl rfl rfl
    refine V2_istore_n (i := 2) (l' := [some (.int (6 : Int32)), some (.int o), some (.int (0 : Int32)), some (.int (0 : Int32))]) d_Kinds_isUnder_27 rfl (xst_i (Nat.le_of_ble_eq_true rfl) rfl rfl) ?_
    refine V2_iinc (i := 3) (v := 1) (l' := [some (.int (6 : Int32)), some (.int o), some (.int (0 : Int32)), some (.int (1 : Int32))]) d_Kinds_isUnder_28 rfl (by decide) (xst_i (Nat.le_of_ble_eq_true rfl) rfl rfl) ?_
    refine V2_goto (tgt := 4) d_Kinds_isUnder_31 rfl ?_
    refine V2_iload_n (i := 3) d_Kinds_isUnder_4 rfl rfl ?_
    refine V2_getsA d_Kinds_isUnder_5 gs_Kinds_7 ?_
    refine V2_abovelen d_Kinds_isUnder_8 ?_
    refine V2_icmp_ge (tgt := 34) d_Kinds_isUnder_9 rfl (fun c => (by first | exact absurd c (by decide) | exact absurd (by decide) c)) (fun _ => ?_)
    refine V2_iload_n (i := 2) d_Kinds_isUnder_12 rfl rfl ?_
    refine V2_if_lt (tgt := 34) d_Kinds_isUnder_13 rfl (fun c => (by first | exact absurd c (by decide) | exact absurd (by decide) c)) (fun _ => ?_)
    refine V2_iload_n (i := 2) d_Kinds_isUnder_16 rfl rfl ?_
    refine V2_iload_n (i := 1) d_Kinds_isUnder_17 rfl rfl ?_
    refine V2_icmp_ne (tgt := 23) d_Kinds_isUnder_18 rfl (fun c3 => ?_) (fun c3 => ?_)
    · refine V2_iload_n (i := 2) d_Kinds_isUnder_23 rfl rfl ?_
      refine V2_callS [.int (0 : Int32)] d_Kinds_isUnder_24 rfl rfl lk_Kinds_17 mo_Kinds_above (Nat.le_of_ble_eq_true rfl) (Nat.le_of_ble_eq_true rfl) ?_
      refine V2.to (l' := [some (.int (0 : Int32))]) ?_ rfl rfl rfl rfl
      refine V2_iload_n (i := 0) d_Kinds_above_0 rfl rfl ?_
      refine V2_callS [.int (0 : Int32)] d_Kinds_above_1 rfl rfl lk_Kinds_13 mo_Kinds_isKind (Nat.le_of_ble_eq_true rfl) (Nat.le_of_ble_eq_true rfl) ?_
      refine V2.to (l' := [some (.int (0 : Int32))]) ?_ rfl rfl rfl rfl
      refine V2_iload_n (i := 0) d_Kinds_isKind_0 rfl rfl ?_
      refine V2_if_lt (tgt := 16) d_Kinds_isKind_1 rfl (fun c => (by first | exact absurd c (by decide) | exact absurd (by decide) c)) (fun _ => ?_)
      refine V2_iload_n (i := 0) d_Kinds_isKind_4 rfl rfl ?_
      refine V2_getsA d_Kinds_isKind_5 gs_Kinds_7 ?_
      refine V2_abovelen d_Kinds_isKind_8 ?_
      refine V2_icmp_ge (tgt := 16) d_Kinds_isKind_9 rfl (fun c => (by first | exact absurd c (by decide) | exact absurd (by decide) c)) (fun _ => ?_)
      refine V2_iconst (v := 1) d_Kinds_isKind_12 rfl ?_
      refine V2_goto (tgt := 17) d_Kinds_isKind_13 rfl ?_
      refine V2_zreturn d_Kinds_isKind_17 rfl (by decide) ?_
      refine V2.to (st' := [.int (1 : Int32)]) ?_ rfl rfl rfl rfl
      refine V2_if_eq (tgt := 15) d_Kinds_above_4 rfl (fun c => (by first | exact absurd c (by decide) | exact absurd (by decide) c)) (fun _ => ?_)
      refine V2_getsA d_Kinds_above_7 gs_Kinds_7 ?_
      refine V2_iload_n (i := 0) d_Kinds_above_10 rfl rfl ?_
      refine V2_above (v := -1) d_Kinds_above_11 (xixA (n := 0) rfl (by decide) (by decide)) (by decide) ?_
      refine V2_goto (tgt := 16) d_Kinds_above_12 rfl ?_
      refine V2_ireturn d_Kinds_above_16 rfl ?_
      refine V2.to (st' := [.int (-1 : Int32)]) ?_ rfl rfl rfl rfl
      refine V2_istore_n (i := 2) (l' := [some (.int (6 : Int32)), some (.int o), some (.int (-1 : Int32)), some (.int (1 : Int32))]) d_Kinds_isUnder_27 rfl (xst_i (Nat.le_of_ble_eq_true rfl) rfl rfl) ?_
      refine V2_iinc (i := 3) (v := 2) (l' := [some (.int (6 : Int32)), some (.int o), some (.int (-1 : Int32)), some (.int (2 : Int32))]) d_Kinds_isUnder_28 rfl (by decide) (xst_i (Nat.le_of_ble_eq_true rfl) rfl rfl) ?_
      refine V2_goto (tgt := 4) d_Kinds_isUnder_31 rfl ?_
      refine V2_iload_n (i := 3) d_Kinds_isUnder_4 rfl rfl ?_
      refine V2_getsA d_Kinds_isUnder_5 gs_Kinds_7 ?_
      refine V2_abovelen d_Kinds_isUnder_8 ?_
      refine V2_icmp_ge (tgt := 34) d_Kinds_isUnder_9 rfl (fun c => (by first | exact absurd c (by decide) | exact absurd (by decide) c)) (fun _ => ?_)
      refine V2_iload_n (i := 2) d_Kinds_isUnder_12 rfl rfl ?_
      refine V2_if_lt (tgt := 34) d_Kinds_isUnder_13 rfl (fun _ => ?_) (fun c => (by first | exact absurd c (by decide) | exact absurd (by decide) c))
      refine V2_iconst (v := 0) d_Kinds_isUnder_34 rfl ?_
      refine V2_zreturn d_Kinds_isUnder_35 rfl (by decide) ?_
      exact xQi hQ (by clear hQ; first | exact (xb_1 (by skip; (simp only [← Int32.toInt_inj, true_and, false_and, or_false, false_or, or_true, true_or, and_true, and_false] at *) <;> omega)).symm | exact (xb_0 (by skip; (simp only [← Int32.toInt_inj, true_and, false_and, or_false, false_or, or_true, true_or, and_true, and_false] at *) <;> omega)).symm) rfl
    · refine V2_iconst (v := 1) d_Kinds_isUnder_21 rfl ?_
      refine V2_zreturn d_Kinds_isUnder_22 rfl (by decide) ?_
      exact xQi hQ (by clear hQ; first | exact (xb_1 (by skip; (simp only [← Int32.toInt_inj, true_and, false_and, or_false, false_or, or_true, true_or, and_true, and_false] at *) <;> omega)).symm | exact (xb_0 (by skip; (simp only [← Int32.toInt_inj, true_and, false_and, or_false, false_or, or_true, true_or, and_true, and_false] at *) <;> omega)).symm) rfl
  · refine V2_iconst (v := 1) d_Kinds_isUnder_21 rfl ?_
    refine V2_zreturn d_Kinds_isUnder_22 rfl (by decide) ?_
    exact xQi hQ (by clear hQ; first | exact (xb_1 (by skip; (simp only [← Int32.toInt_inj, true_and, false_and, or_false, false_or, or_true, true_or, and_true, and_false] at *) <;> omega)).symm | exact (xb_0 (by skip; (simp only [← Int32.toInt_inj, true_and, false_and, or_false, false_or, or_true, true_or, and_true, and_false] at *) <;> omega)).symm) rfl
theorem c_Kinds_isUnder {L : Nat} {xs : Nat → Int32} {d : Nat} {Q : Option Value → xF → Prop} {F : xF} {k o : Int32} (hk : 0 ≤ k.toInt ∧ k.toInt ≤ 6) (hQ : Q (some (.int (xb (o = k ∨ o = 0 ∨ (k = 4 ∧ o = 1) ∨ (k = 5 ∧ o = 2))))) F) : V2 L xs (d + 2) m_Kinds_isUnder 0 (xEntry [.int k, .int o] 4) [] F Q := by
  rcases kind7 hk with h | h | h | h | h | h | h <;> subst h
  · exact c_Kinds_isUnder_0 hQ
  · exact c_Kinds_isUnder_1 hQ
  · exact c_Kinds_isUnder_2 hQ
  · exact c_Kinds_isUnder_3 hQ
  · exact c_Kinds_isUnder_4 hQ
  · exact c_Kinds_isUnder_5 hQ
  · exact c_Kinds_isUnder_6 hQ
theorem c_cls_as {L : Nat} {xs : Nat → Int32} {d : Nat} {Q : Option Value → xF → Prop} {F : xF} {pu o : Int32} (hR : Rel F) (hQ : ∀ F1, Mid F F1 (k_as F pu o).2 → Q (some (.int (k_as F pu o).1)) F1) : V2 L xs (d + 3) m_P_as 0 (xEntry [.ref 0, .int pu, .int o] 3) [] F Q := by
  have q0 : (0 : Int32).toInt = 0 := by decide
  have q1 : (1 : Int32).toInt = 1 := by decide
  have q2 : (2 : Int32).toInt = 2 := by decide
  have q3 : (3 : Int32).toInt = 3 := by decide
  have q4 : (4 : Int32).toInt = 4 := by decide
  have q5 : (5 : Int32).toInt = 5 := by decide
  have q6 : (6 : Int32).toInt = 6 := by decide
  have q7 : (7 : Int32).toInt = 7 := by decide
  have q8 : (8 : Int32).toInt = 8 := by decide
  have q9 : (9 : Int32).toInt = 9 := by decide
  have q10 : (10 : Int32).toInt = 10 := by decide
  have q12 : (12 : Int32).toInt = 12 := by decide
  have q16 : (16 : Int32).toInt = 16 := by decide
  have q20 : (20 : Int32).toInt = 20 := by decide
  have q24 : (24 : Int32).toInt = 24 := by decide
  have q30 : (30 : Int32).toInt = 30 := by decide
  have q32 : (32 : Int32).toInt = 32 := by decide
  have q40 : (40 : Int32).toInt = 40 := by decide
  have q60 : (60 : Int32).toInt = 60 := by decide
  have q69 : (69 : Int32).toInt = 69 := by decide
  have q99 : (99 : Int32).toInt = 99 := by decide
  have q9999 : (9999 : Int32).toInt = 9999 := by decide
  have q274 : (274 : Int32).toInt = 274 := by decide
  have q334 : (334 : Int32).toInt = 334 := by decide
  obtain ⟨eP, hP6⟩ := inv_PN hR.2.1.2.2.1
  have nP : (F 66 11).toInt = (PN (F 66) : Int) := PN_int hR.2.1.2.2.1
  have e4 : F 3 2 = F 66 11 := hR.1.1.2.1.1
  refine V2.to (l' := [some (.ref 0), some (.int pu), some (.int o)]) ?_ rfl rfl rfl rfl
  refine V2_aload_n (i := 0) d_P_as_0 rfl rfl ?_
  refine V2_getr (a := 1) d_P_as_1 fl_P_10 (by decide) rfl (by decide) rfl ?_
  refine V2_getr (a := 3) d_P_as_4 fl_P_70 (by decide) rfl (by decide) rfl ?_
  refine V2_iload_n (i := 1) d_P_as_7 rfl rfl ?_
  refine V2_callV [.int pu] d_P_as_8 rfl rfl lk_P_84 mo_Push_has (by decide) rfl rfl rfl (Nat.le_of_ble_eq_true rfl) (Nat.le_of_ble_eq_true rfl) ?_
  refine c_Push_has (P := PN (F 66)) (hR.1.1.2.1.1.trans eP) hP6 ?_
  refine V2_topi (fun v1 ev1 => ?_)
  refine V2_if_eq (tgt := 21) d_P_as_11 rfl (fun c2 => ?_) (fun c2 => ?_)
  · refine V2_aload_n (i := 0) d_P_as_21 rfl rfl ?_
    refine V2_iconst (v := 1) d_P_as_22 rfl ?_
    refine V2_callV [.int (1 : Int32)] d_P_as_23 rfl rfl lk_P_66 mo_P_fails (by decide) rfl rfl rfl (Nat.le_of_ble_eq_true rfl) (Nat.le_of_ble_eq_true rfl) ?_
    refine c_P_fails1 ?_
    refine V2_topi (fun v3 ev3 => ?_)
    refine V2_ireturn d_P_as_26 rfl ?_
    have hb0 : ¬ ((0 ≤ pu.toInt ∧ pu.toInt < (PN (F 66) : Int)) ∧ 0 ≤ o.toInt ∧ o.toInt ≤ 6) := (by (try clear hQ); (try subst ev3 ev1); ((try simp only [xb_eq, xb_ne, Int32.lt_iff_toInt_lt, Int32.le_iff_toInt_le] at *) <;> (try simp only [← Int32.toInt_inj, true_and, false_and, or_false, false_or, or_true, true_or, and_true, and_false] at *) <;> omega))
    have e : k_as F pu o = (-1000000000 - 1, errF F 1) := if_neg hb0
    rw [e] at hQ
    subst ev3 ev1
    exact xQi (hQ _ (mid_err hR (by decide))) rfl rfl
  · obtain ⟨p, hp, epp⟩ := in_of (x := pu) (P := PN (F 66)) (by (try clear hQ); (try subst ev1); ((try simp only [xb_eq, xb_ne, Int32.lt_iff_toInt_lt, Int32.le_iff_toInt_le] at *) <;> (try simp only [← Int32.toInt_inj, true_and, false_and, or_false, false_or, or_true, true_or, and_true, and_false] at *) <;> omega)) (by (try clear hQ); (try subst ev1); ((try simp only [xb_eq, xb_ne, Int32.lt_iff_toInt_lt, Int32.le_iff_toInt_le] at *) <;> (try simp only [← Int32.toInt_inj, true_and, false_and, or_false, false_or, or_true, true_or, and_true, and_false] at *) <;> omega)) (by omega)
    subst epp
    have np : (nI p).toInt = (p : Int) := nI_toInt (by omega)
    have kp : (nI p).toNatClampNeg = p := nI_clamp (by omega)
    refine V2_iload_n (i := 2) d_P_as_14 rfl rfl ?_
    refine V2_callS [.int o] d_P_as_15 rfl rfl lk_P_107 mo_Kinds_isKind (Nat.le_of_ble_eq_true rfl) (Nat.le_of_ble_eq_true rfl) ?_
    refine V2.to (l' := [some (.int o)]) ?_ rfl rfl rfl rfl
    refine V2_iload_n (i := 0) d_Kinds_isKind_0 rfl rfl ?_
    refine V2_if_lt (tgt := 16) d_Kinds_isKind_1 rfl (fun c4 => ?_) (fun c4 => ?_)
    · refine V2_iconst (v := 0) d_Kinds_isKind_16 rfl ?_
      refine V2_zreturn d_Kinds_isKind_17 rfl (by decide) ?_
      refine V2.to (st' := [.int (0 : Int32)]) ?_ rfl rfl rfl rfl
      refine V2_if_ne (tgt := 27) d_P_as_18 rfl (fun c => (by first | exact absurd c (by decide) | exact absurd (by decide) c)) (fun _ => ?_)
      refine V2_aload_n (i := 0) d_P_as_21 rfl rfl ?_
      refine V2_iconst (v := 1) d_P_as_22 rfl ?_
      refine V2_callV [.int (1 : Int32)] d_P_as_23 rfl rfl lk_P_66 mo_P_fails (by decide) rfl rfl rfl (Nat.le_of_ble_eq_true rfl) (Nat.le_of_ble_eq_true rfl) ?_
      refine c_P_fails1 ?_
      refine V2_topi (fun v5 ev5 => ?_)
      refine V2_ireturn d_P_as_26 rfl ?_
      have hb0 : ¬ ((0 ≤ (nI p).toInt ∧ (nI p).toInt < (PN (F 66) : Int)) ∧ 0 ≤ o.toInt ∧ o.toInt ≤ 6) := (by (try clear hQ); (try subst ev5 ev1); ((try simp only [xb_eq, xb_ne, Int32.lt_iff_toInt_lt, Int32.le_iff_toInt_le] at *) <;> (try simp only [← Int32.toInt_inj, true_and, false_and, or_false, false_or, or_true, true_or, and_true, and_false] at *) <;> omega))
      have e : k_as F (nI p) o = (-1000000000 - 1, errF F 1) := if_neg hb0
      rw [e] at hQ
      subst ev5 ev1
      exact xQi (hQ _ (mid_err hR (by decide))) rfl rfl
    · refine V2_iload_n (i := 0) d_Kinds_isKind_4 rfl rfl ?_
      refine V2_getsA d_Kinds_isKind_5 gs_Kinds_7 ?_
      refine V2_abovelen d_Kinds_isKind_8 ?_
      refine V2_icmp_ge (tgt := 16) d_Kinds_isKind_9 rfl (fun c6 => ?_) (fun c6 => ?_)
      · refine V2_iconst (v := 0) d_Kinds_isKind_16 rfl ?_
        refine V2_zreturn d_Kinds_isKind_17 rfl (by decide) ?_
        refine V2.to (st' := [.int (0 : Int32)]) ?_ rfl rfl rfl rfl
        refine V2_if_ne (tgt := 27) d_P_as_18 rfl (fun c => (by first | exact absurd c (by decide) | exact absurd (by decide) c)) (fun _ => ?_)
        refine V2_aload_n (i := 0) d_P_as_21 rfl rfl ?_
        refine V2_iconst (v := 1) d_P_as_22 rfl ?_
        refine V2_callV [.int (1 : Int32)] d_P_as_23 rfl rfl lk_P_66 mo_P_fails (by decide) rfl rfl rfl (Nat.le_of_ble_eq_true rfl) (Nat.le_of_ble_eq_true rfl) ?_
        refine c_P_fails1 ?_
        refine V2_topi (fun v7 ev7 => ?_)
        refine V2_ireturn d_P_as_26 rfl ?_
        have hb0 : ¬ ((0 ≤ (nI p).toInt ∧ (nI p).toInt < (PN (F 66) : Int)) ∧ 0 ≤ o.toInt ∧ o.toInt ≤ 6) := (by (try clear hQ); (try subst ev7 ev1); ((try simp only [xb_eq, xb_ne, Int32.lt_iff_toInt_lt, Int32.le_iff_toInt_le] at *) <;> (try simp only [← Int32.toInt_inj, true_and, false_and, or_false, false_or, or_true, true_or, and_true, and_false] at *) <;> omega))
        have e : k_as F (nI p) o = (-1000000000 - 1, errF F 1) := if_neg hb0
        rw [e] at hQ
        subst ev7 ev1
        exact xQi (hQ _ (mid_err hR (by decide))) rfl rfl
      · refine V2_iconst (v := 1) d_Kinds_isKind_12 rfl ?_
        refine V2_goto (tgt := 17) d_Kinds_isKind_13 rfl ?_
        refine V2_zreturn d_Kinds_isKind_17 rfl (by decide) ?_
        refine V2.to (st' := [.int (1 : Int32)]) ?_ rfl rfl rfl rfl
        refine V2_if_ne (tgt := 27) d_P_as_18 rfl (fun _ => ?_) (fun c => (by first | exact absurd c (by decide) | exact absurd (by decide) c))
        refine V2_aload_n (i := 0) d_P_as_27 rfl rfl ?_
        refine V2_getr (a := 1) d_P_as_28 fl_P_10 (by decide) rfl (by decide) rfl ?_
        refine V2_getr (a := 3) d_P_as_31 fl_P_70 (by decide) rfl (by decide) rfl ?_
        refine V2_iload_n (i := 1) d_P_as_34 rfl rfl ?_
        refine V2_callV [.int (nI p)] d_P_as_35 rfl rfl lk_P_87 mo_Push_kindOf (by decide) rfl rfl rfl (Nat.le_of_ble_eq_true rfl) (Nat.le_of_ble_eq_true rfl) ?_
        refine c_Push_kindOf (P := PN (F 66)) (hR.1.1.2.1.1.trans eP) (hR.1.1.2.1.2.1.trans eP) hP6 hp ?_
        refine V2_topi (fun v8 ev8 => ?_)
        refine V2_iload_n (i := 2) d_P_as_38 rfl rfl ?_
        refine V2_callS [.int v8, .int o] d_P_as_39 rfl rfl lk_P_112 mo_Kinds_isUnder (Nat.le_of_ble_eq_true rfl) (Nat.le_of_ble_eq_true rfl) ?_
        have hkp : v8 = F 66 (12 + 2 * p) := by
          subst ev8 ev1
          exact ((rel_relP hR).2.2.2 p hp).1
        rw [hkp]
        refine c_Kinds_isUnder (kind_range hR.2.1.2.2.1 hp).1 ?_
        refine V2_topi (fun v9 ev9 => ?_)
        refine V2_if_ne (tgt := 51) d_P_as_42 rfl (fun c10 => ?_) (fun c10 => ?_)
        · have hu : (o = F 66 (12 + 2 * p) ∨ o = 0 ∨ (F 66 (12 + 2 * p) = 4 ∧ o = 1) ∨ (F 66 (12 + 2 * p) = 5 ∧ o = 2)) := by
            have h9 := c10
            subst ev9 ev8 ev1
            exact xb_ne.mp h9
          refine V2_aload_n (i := 0) d_P_as_51 rfl rfl ?_
          refine V2_getr (a := 1) d_P_as_52 fl_P_10 (by decide) rfl (by decide) rfl ?_
          refine V2_getr (a := 3) d_P_as_55 fl_P_70 (by decide) rfl (by decide) rfl ?_
          refine V2_iload_n (i := 1) d_P_as_58 rfl rfl ?_
          refine V2_callV [.int (nI p)] d_P_as_59 rfl rfl lk_P_90 mo_Push_levelOf (by decide) rfl rfl rfl (Nat.le_of_ble_eq_true rfl) (Nat.le_of_ble_eq_true rfl) ?_
          refine c_Push_levelOf (P := PN (F 66)) (hR.1.1.2.1.1.trans eP) (hR.1.1.2.1.2.1.trans eP) hP6 hp ?_
          refine V2_topi (fun v11 ev11 => ?_)
          refine V2_ireturn d_P_as_62 rfl ?_
          have hb0 : (0 ≤ (nI p).toInt ∧ (nI p).toInt < (PN (F 66) : Int)) ∧ 0 ≤ o.toInt ∧ o.toInt ≤ 6 := (by (try clear hQ); (try subst ev11 ev9 ev8 ev1); ((try simp only [xb_eq, xb_ne, Int32.lt_iff_toInt_lt, Int32.le_iff_toInt_le] at *) <;> (try simp only [← Int32.toInt_inj, true_and, false_and, or_false, false_or, or_true, true_or, and_true, and_false] at *) <;> omega))
          have e : k_as F (nI p) o = (F 66 (12 + 2 * p + 1), F) := (if_pos hb0).trans (by rw [kp]; exact if_pos hu)
          rw [e] at hQ
          subst ev11 ev9 ev8 ev1
          exact xQi (hQ _ (mid_same hR)) ((rel_relP hR).2.2.2 p hp).2 rfl
        · have hu : ¬ (o = F 66 (12 + 2 * p) ∨ o = 0 ∨ (F 66 (12 + 2 * p) = 4 ∧ o = 1) ∨ (F 66 (12 + 2 * p) = 5 ∧ o = 2)) := by
            have h9 := c10
            subst ev9 ev8 ev1
            exact xb_eq.mp h9
          refine V2_aload_n (i := 0) d_P_as_45 rfl rfl ?_
          refine V2_iconst (v := 5) d_P_as_46 rfl ?_
          refine V2_callV [.int (5 : Int32)] d_P_as_47 rfl rfl lk_P_66 mo_P_fails (by decide) rfl rfl rfl (Nat.le_of_ble_eq_true rfl) (Nat.le_of_ble_eq_true rfl) ?_
          refine c_P_fails5 ?_
          refine V2_topi (fun v12 ev12 => ?_)
          refine V2_ireturn d_P_as_50 rfl ?_
          have hb0 : (0 ≤ (nI p).toInt ∧ (nI p).toInt < (PN (F 66) : Int)) ∧ 0 ≤ o.toInt ∧ o.toInt ≤ 6 := (by (try clear hQ); (try subst ev12 ev9 ev8 ev1); ((try simp only [xb_eq, xb_ne, Int32.lt_iff_toInt_lt, Int32.le_iff_toInt_le] at *) <;> (try simp only [← Int32.toInt_inj, true_and, false_and, or_false, false_or, or_true, true_or, and_true, and_false] at *) <;> omega))
          have e : k_as F (nI p) o = (-1000000000 - 5, errF F 5) := (if_pos hb0).trans (by rw [kp]; exact if_neg hu)
          rw [e] at hQ
          subst ev12 ev9 ev8 ev1
          exact xQi (hQ _ (mid_err hR (by decide))) rfl rfl
theorem c_R_asclimb_0 {L : Nat} {xs : Nat → Int32} {d : Nat} {Q : Option Value → xF → Prop} {F : xF} {p : Nat} {o : Int32} (hK : ∀ w : Int32, (w = o ↔ (o = (0 : Int32) ∨ o = 0 ∨ ((0 : Int32) = 4 ∧ o = 1) ∨ ((0 : Int32) = 5 ∧ o = 2))) → V2 L xs (d + 2) m_R_as 48 [some (.ref 65), some (.int (nI p)), some (.int o), some (.int w)] [] F Q)  : V2 L xs (d + 2) m_R_as 31 ([some (.ref 65), some (.int (nI p)), some (.int o), some (.int (0 : Int32))]) [] F Q := by
  have q0 : (0 : Int32).toInt = 0 := by decide
  have q1 : (1 : Int32).toInt = 1 := by decide
  have q2 : (2 : Int32).toInt = 2 := by decide
  have q3 : (3 : Int32).toInt = 3 := by decide
  have q4 : (4 : Int32).toInt = 4 := by decide
  have q5 : (5 : Int32).toInt = 5 := by decide
  have q6 : (6 : Int32).toInt = 6 := by decide
  have q7 : (7 : Int32).toInt = 7 := by decide
  have q8 : (8 : Int32).toInt = 8 := by decide
  have q9 : (9 : Int32).toInt = 9 := by decide
  have q10 : (10 : Int32).toInt = 10 := by decide
  have q12 : (12 : Int32).toInt = 12 := by decide
  have q16 : (16 : Int32).toInt = 16 := by decide
  have q20 : (20 : Int32).toInt = 20 := by decide
  have q24 : (24 : Int32).toInt = 24 := by decide
  have q30 : (30 : Int32).toInt = 30 := by decide
  have q32 : (32 : Int32).toInt = 32 := by decide
  have q40 : (40 : Int32).toInt = 40 := by decide
  have q60 : (60 : Int32).toInt = 60 := by decide
  have q69 : (69 : Int32).toInt = 69 := by decide
  have q99 : (99 : Int32).toInt = 99 := by decide
  have q9999 : (9999 : Int32).toInt = 9999 := by decide
  have q274 : (274 : Int32).toInt = 274 := by decide
  have q334 : (334 : Int32).toInt = 334 := by decide
  refine V2_iload_n (i := 3) d_R_as_31 rfl rfl ?_
  refine V2_iload_n (i := 2) d_R_as_32 rfl rfl ?_
  refine V2_icmp_eq (tgt := 48) d_R_as_33 rfl (fun c1 => ?_) (fun c1 => ?_)
  · refine hK _ ?_
    (simp only [← Int32.toInt_inj, true_and, false_and, or_false, false_or, or_true, true_or, and_true, and_false] at *) <;> omega
  · refine V2_iload_n (i := 3) d_R_as_36 rfl rfl ?_
    refine V2_if_eq (tgt := 48) d_R_as_37 rfl (fun _ => ?_) (fun c => (by first | exact absurd c (by decide) | exact absurd (by decide) c))
    refine hK _ ?_
    (simp only [← Int32.toInt_inj, true_and, false_and, or_false, false_or, or_true, true_or, and_true, and_false] at *) <;> omega
theorem c_R_asclimb_1 {L : Nat} {xs : Nat → Int32} {d : Nat} {Q : Option Value → xF → Prop} {F : xF} {p : Nat} {o : Int32} (hK : ∀ w : Int32, (w = o ↔ (o = (1 : Int32) ∨ o = 0 ∨ ((1 : Int32) = 4 ∧ o = 1) ∨ ((1 : Int32) = 5 ∧ o = 2))) → V2 L xs (d + 2) m_R_as 48 [some (.ref 65), some (.int (nI p)), some (.int o), some (.int w)] [] F Q)  : V2 L xs (d + 2) m_R_as 31 ([some (.ref 65), some (.int (nI p)), some (.int o), some (.int (1 : Int32))]) [] F Q := by
  have q0 : (0 : Int32).toInt = 0 := by decide
  have q1 : (1 : Int32).toInt = 1 := by decide
  have q2 : (2 : Int32).toInt = 2 := by decide
  have q3 : (3 : Int32).toInt = 3 := by decide
  have q4 : (4 : Int32).toInt = 4 := by decide
  have q5 : (5 : Int32).toInt = 5 := by decide
  have q6 : (6 : Int32).toInt = 6 := by decide
  have q7 : (7 : Int32).toInt = 7 := by decide
  have q8 : (8 : Int32).toInt = 8 := by decide
  have q9 : (9 : Int32).toInt = 9 := by decide
  have q10 : (10 : Int32).toInt = 10 := by decide
  have q12 : (12 : Int32).toInt = 12 := by decide
  have q16 : (16 : Int32).toInt = 16 := by decide
  have q20 : (20 : Int32).toInt = 20 := by decide
  have q24 : (24 : Int32).toInt = 24 := by decide
  have q30 : (30 : Int32).toInt = 30 := by decide
  have q32 : (32 : Int32).toInt = 32 := by decide
  have q40 : (40 : Int32).toInt = 40 := by decide
  have q60 : (60 : Int32).toInt = 60 := by decide
  have q69 : (69 : Int32).toInt = 69 := by decide
  have q99 : (99 : Int32).toInt = 99 := by decide
  have q9999 : (9999 : Int32).toInt = 9999 := by decide
  have q274 : (274 : Int32).toInt = 274 := by decide
  have q334 : (334 : Int32).toInt = 334 := by decide
  refine V2_iload_n (i := 3) d_R_as_31 rfl rfl ?_
  refine V2_iload_n (i := 2) d_R_as_32 rfl rfl ?_
  refine V2_icmp_eq (tgt := 48) d_R_as_33 rfl (fun c1 => ?_) (fun c1 => ?_)
  · refine hK _ ?_
    (simp only [← Int32.toInt_inj, true_and, false_and, or_false, false_or, or_true, true_or, and_true, and_false] at *) <;> omega
  · refine V2_iload_n (i := 3) d_R_as_36 rfl rfl ?_
    refine V2_if_eq (tgt := 48) d_R_as_37 rfl (fun c => (by first | exact absurd c (by decide) | exact absurd (by decide) c)) (fun _ => ?_)
    refine V2_iload_n (i := 3) d_R_as_40 rfl rfl ?_
    refine V2_callS [.int (1 : Int32)] d_R_as_41 rfl rfl lk_R_174 mo_R_above (Nat.le_of_ble_eq_true rfl) (Nat.le_of_ble_eq_true rfl) ?_
    refine V2.to (l' := [some (.int (1 : Int32))]) ?_ rfl rfl rfl rfl
    refine V2_iload_n (i := 0) d_R_above_0 rfl rfl ?_
    refine V2_iconst (v := 4) d_R_above_1 rfl ?_
    refine V2_icmp_ne (tgt := 9) d_R_above_2 rfl (fun _ => ?_) (fun c => (by first | exact absurd c (by decide) | exact absurd (by decide) c))
    refine V2_iload_n (i := 0) d_R_above_9 rfl rfl ?_
    refine V2_iconst (v := 5) d_R_above_10 rfl ?_
    refine V2_icmp_ne (tgt := 18) d_R_above_11 rfl (fun _ => ?_) (fun c => (by first | exact absurd c (by decide) | exact absurd (by decide) c))
    refine V2_iconst (v := 0) d_R_above_18 rfl ?_
    refine V2_ireturn d_R_above_19 rfl ?_
    refine V2.to (st' := [.int (0 : Int32)]) ?_ rfl rfl rfl rfl
    refine V2_istore_n (i := 3) (l' := [some (.ref 65), some (.int (nI p)), some (.int o), some (.int (0 : Int32))]) d_R_as_44 rfl (xst_i (Nat.le_of_ble_eq_true rfl) rfl rfl) ?_
    refine V2_goto (tgt := 31) d_R_as_45 rfl ?_
    refine V2_iload_n (i := 3) d_R_as_31 rfl rfl ?_
    refine V2_iload_n (i := 2) d_R_as_32 rfl rfl ?_
    refine V2_icmp_eq (tgt := 48) d_R_as_33 rfl (fun c2 => ?_) (fun c2 => ?_)
    · refine hK _ ?_
      (simp only [← Int32.toInt_inj, true_and, false_and, or_false, false_or, or_true, true_or, and_true, and_false] at *) <;> omega
    · refine V2_iload_n (i := 3) d_R_as_36 rfl rfl ?_
      refine V2_if_eq (tgt := 48) d_R_as_37 rfl (fun _ => ?_) (fun c => (by first | exact absurd c (by decide) | exact absurd (by decide) c))
      refine hK _ ?_
      (simp only [← Int32.toInt_inj, true_and, false_and, or_false, false_or, or_true, true_or, and_true, and_false] at *) <;> omega
theorem c_R_asclimb_2 {L : Nat} {xs : Nat → Int32} {d : Nat} {Q : Option Value → xF → Prop} {F : xF} {p : Nat} {o : Int32} (hK : ∀ w : Int32, (w = o ↔ (o = (2 : Int32) ∨ o = 0 ∨ ((2 : Int32) = 4 ∧ o = 1) ∨ ((2 : Int32) = 5 ∧ o = 2))) → V2 L xs (d + 2) m_R_as 48 [some (.ref 65), some (.int (nI p)), some (.int o), some (.int w)] [] F Q)  : V2 L xs (d + 2) m_R_as 31 ([some (.ref 65), some (.int (nI p)), some (.int o), some (.int (2 : Int32))]) [] F Q := by
  have q0 : (0 : Int32).toInt = 0 := by decide
  have q1 : (1 : Int32).toInt = 1 := by decide
  have q2 : (2 : Int32).toInt = 2 := by decide
  have q3 : (3 : Int32).toInt = 3 := by decide
  have q4 : (4 : Int32).toInt = 4 := by decide
  have q5 : (5 : Int32).toInt = 5 := by decide
  have q6 : (6 : Int32).toInt = 6 := by decide
  have q7 : (7 : Int32).toInt = 7 := by decide
  have q8 : (8 : Int32).toInt = 8 := by decide
  have q9 : (9 : Int32).toInt = 9 := by decide
  have q10 : (10 : Int32).toInt = 10 := by decide
  have q12 : (12 : Int32).toInt = 12 := by decide
  have q16 : (16 : Int32).toInt = 16 := by decide
  have q20 : (20 : Int32).toInt = 20 := by decide
  have q24 : (24 : Int32).toInt = 24 := by decide
  have q30 : (30 : Int32).toInt = 30 := by decide
  have q32 : (32 : Int32).toInt = 32 := by decide
  have q40 : (40 : Int32).toInt = 40 := by decide
  have q60 : (60 : Int32).toInt = 60 := by decide
  have q69 : (69 : Int32).toInt = 69 := by decide
  have q99 : (99 : Int32).toInt = 99 := by decide
  have q9999 : (9999 : Int32).toInt = 9999 := by decide
  have q274 : (274 : Int32).toInt = 274 := by decide
  have q334 : (334 : Int32).toInt = 334 := by decide
  refine V2_iload_n (i := 3) d_R_as_31 rfl rfl ?_
  refine V2_iload_n (i := 2) d_R_as_32 rfl rfl ?_
  refine V2_icmp_eq (tgt := 48) d_R_as_33 rfl (fun c1 => ?_) (fun c1 => ?_)
  · refine hK _ ?_
    (simp only [← Int32.toInt_inj, true_and, false_and, or_false, false_or, or_true, true_or, and_true, and_false] at *) <;> omega
  · refine V2_iload_n (i := 3) d_R_as_36 rfl rfl ?_
    refine V2_if_eq (tgt := 48) d_R_as_37 rfl (fun c => (by first | exact absurd c (by decide) | exact absurd (by decide) c)) (fun _ => ?_)
    refine V2_iload_n (i := 3) d_R_as_40 rfl rfl ?_
    refine V2_callS [.int (2 : Int32)] d_R_as_41 rfl rfl lk_R_174 mo_R_above (Nat.le_of_ble_eq_true rfl) (Nat.le_of_ble_eq_true rfl) ?_
    refine V2.to (l' := [some (.int (2 : Int32))]) ?_ rfl rfl rfl rfl
    refine V2_iload_n (i := 0) d_R_above_0 rfl rfl ?_
    refine V2_iconst (v := 4) d_R_above_1 rfl ?_
    refine V2_icmp_ne (tgt := 9) d_R_above_2 rfl (fun _ => ?_) (fun c => (by first | exact absurd c (by decide) | exact absurd (by decide) c))
    refine V2_iload_n (i := 0) d_R_above_9 rfl rfl ?_
    refine V2_iconst (v := 5) d_R_above_10 rfl ?_
    refine V2_icmp_ne (tgt := 18) d_R_above_11 rfl (fun _ => ?_) (fun c => (by first | exact absurd c (by decide) | exact absurd (by decide) c))
    refine V2_iconst (v := 0) d_R_above_18 rfl ?_
    refine V2_ireturn d_R_above_19 rfl ?_
    refine V2.to (st' := [.int (0 : Int32)]) ?_ rfl rfl rfl rfl
    refine V2_istore_n (i := 3) (l' := [some (.ref 65), some (.int (nI p)), some (.int o), some (.int (0 : Int32))]) d_R_as_44 rfl (xst_i (Nat.le_of_ble_eq_true rfl) rfl rfl) ?_
    refine V2_goto (tgt := 31) d_R_as_45 rfl ?_
    refine V2_iload_n (i := 3) d_R_as_31 rfl rfl ?_
    refine V2_iload_n (i := 2) d_R_as_32 rfl rfl ?_
    refine V2_icmp_eq (tgt := 48) d_R_as_33 rfl (fun c2 => ?_) (fun c2 => ?_)
    · refine hK _ ?_
      (simp only [← Int32.toInt_inj, true_and, false_and, or_false, false_or, or_true, true_or, and_true, and_false] at *) <;> omega
    · refine V2_iload_n (i := 3) d_R_as_36 rfl rfl ?_
      refine V2_if_eq (tgt := 48) d_R_as_37 rfl (fun _ => ?_) (fun c => (by first | exact absurd c (by decide) | exact absurd (by decide) c))
      refine hK _ ?_
      (simp only [← Int32.toInt_inj, true_and, false_and, or_false, false_or, or_true, true_or, and_true, and_false] at *) <;> omega
theorem c_R_asclimb_3 {L : Nat} {xs : Nat → Int32} {d : Nat} {Q : Option Value → xF → Prop} {F : xF} {p : Nat} {o : Int32} (hK : ∀ w : Int32, (w = o ↔ (o = (3 : Int32) ∨ o = 0 ∨ ((3 : Int32) = 4 ∧ o = 1) ∨ ((3 : Int32) = 5 ∧ o = 2))) → V2 L xs (d + 2) m_R_as 48 [some (.ref 65), some (.int (nI p)), some (.int o), some (.int w)] [] F Q)  : V2 L xs (d + 2) m_R_as 31 ([some (.ref 65), some (.int (nI p)), some (.int o), some (.int (3 : Int32))]) [] F Q := by
  have q0 : (0 : Int32).toInt = 0 := by decide
  have q1 : (1 : Int32).toInt = 1 := by decide
  have q2 : (2 : Int32).toInt = 2 := by decide
  have q3 : (3 : Int32).toInt = 3 := by decide
  have q4 : (4 : Int32).toInt = 4 := by decide
  have q5 : (5 : Int32).toInt = 5 := by decide
  have q6 : (6 : Int32).toInt = 6 := by decide
  have q7 : (7 : Int32).toInt = 7 := by decide
  have q8 : (8 : Int32).toInt = 8 := by decide
  have q9 : (9 : Int32).toInt = 9 := by decide
  have q10 : (10 : Int32).toInt = 10 := by decide
  have q12 : (12 : Int32).toInt = 12 := by decide
  have q16 : (16 : Int32).toInt = 16 := by decide
  have q20 : (20 : Int32).toInt = 20 := by decide
  have q24 : (24 : Int32).toInt = 24 := by decide
  have q30 : (30 : Int32).toInt = 30 := by decide
  have q32 : (32 : Int32).toInt = 32 := by decide
  have q40 : (40 : Int32).toInt = 40 := by decide
  have q60 : (60 : Int32).toInt = 60 := by decide
  have q69 : (69 : Int32).toInt = 69 := by decide
  have q99 : (99 : Int32).toInt = 99 := by decide
  have q9999 : (9999 : Int32).toInt = 9999 := by decide
  have q274 : (274 : Int32).toInt = 274 := by decide
  have q334 : (334 : Int32).toInt = 334 := by decide
  refine V2_iload_n (i := 3) d_R_as_31 rfl rfl ?_
  refine V2_iload_n (i := 2) d_R_as_32 rfl rfl ?_
  refine V2_icmp_eq (tgt := 48) d_R_as_33 rfl (fun c1 => ?_) (fun c1 => ?_)
  · refine hK _ ?_
    (simp only [← Int32.toInt_inj, true_and, false_and, or_false, false_or, or_true, true_or, and_true, and_false] at *) <;> omega
  · refine V2_iload_n (i := 3) d_R_as_36 rfl rfl ?_
    refine V2_if_eq (tgt := 48) d_R_as_37 rfl (fun c => (by first | exact absurd c (by decide) | exact absurd (by decide) c)) (fun _ => ?_)
    refine V2_iload_n (i := 3) d_R_as_40 rfl rfl ?_
    refine V2_callS [.int (3 : Int32)] d_R_as_41 rfl rfl lk_R_174 mo_R_above (Nat.le_of_ble_eq_true rfl) (Nat.le_of_ble_eq_true rfl) ?_
    refine V2.to (l' := [some (.int (3 : Int32))]) ?_ rfl rfl rfl rfl
    refine V2_iload_n (i := 0) d_R_above_0 rfl rfl ?_
    refine V2_iconst (v := 4) d_R_above_1 rfl ?_
    refine V2_icmp_ne (tgt := 9) d_R_above_2 rfl (fun _ => ?_) (fun c => (by first | exact absurd c (by decide) | exact absurd (by decide) c))
    refine V2_iload_n (i := 0) d_R_above_9 rfl rfl ?_
    refine V2_iconst (v := 5) d_R_above_10 rfl ?_
    refine V2_icmp_ne (tgt := 18) d_R_above_11 rfl (fun _ => ?_) (fun c => (by first | exact absurd c (by decide) | exact absurd (by decide) c))
    refine V2_iconst (v := 0) d_R_above_18 rfl ?_
    refine V2_ireturn d_R_above_19 rfl ?_
    refine V2.to (st' := [.int (0 : Int32)]) ?_ rfl rfl rfl rfl
    refine V2_istore_n (i := 3) (l' := [some (.ref 65), some (.int (nI p)), some (.int o), some (.int (0 : Int32))]) d_R_as_44 rfl (xst_i (Nat.le_of_ble_eq_true rfl) rfl rfl) ?_
    refine V2_goto (tgt := 31) d_R_as_45 rfl ?_
    refine V2_iload_n (i := 3) d_R_as_31 rfl rfl ?_
    refine V2_iload_n (i := 2) d_R_as_32 rfl rfl ?_
    refine V2_icmp_eq (tgt := 48) d_R_as_33 rfl (fun c2 => ?_) (fun c2 => ?_)
    · refine hK _ ?_
      (simp only [← Int32.toInt_inj, true_and, false_and, or_false, false_or, or_true, true_or, and_true, and_false] at *) <;> omega
    · refine V2_iload_n (i := 3) d_R_as_36 rfl rfl ?_
      refine V2_if_eq (tgt := 48) d_R_as_37 rfl (fun _ => ?_) (fun c => (by first | exact absurd c (by decide) | exact absurd (by decide) c))
      refine hK _ ?_
      (simp only [← Int32.toInt_inj, true_and, false_and, or_false, false_or, or_true, true_or, and_true, and_false] at *) <;> omega
theorem c_R_asclimb_4 {L : Nat} {xs : Nat → Int32} {d : Nat} {Q : Option Value → xF → Prop} {F : xF} {p : Nat} {o : Int32} (hK : ∀ w : Int32, (w = o ↔ (o = (4 : Int32) ∨ o = 0 ∨ ((4 : Int32) = 4 ∧ o = 1) ∨ ((4 : Int32) = 5 ∧ o = 2))) → V2 L xs (d + 2) m_R_as 48 [some (.ref 65), some (.int (nI p)), some (.int o), some (.int w)] [] F Q)  : V2 L xs (d + 2) m_R_as 31 ([some (.ref 65), some (.int (nI p)), some (.int o), some (.int (4 : Int32))]) [] F Q := by
  have q0 : (0 : Int32).toInt = 0 := by decide
  have q1 : (1 : Int32).toInt = 1 := by decide
  have q2 : (2 : Int32).toInt = 2 := by decide
  have q3 : (3 : Int32).toInt = 3 := by decide
  have q4 : (4 : Int32).toInt = 4 := by decide
  have q5 : (5 : Int32).toInt = 5 := by decide
  have q6 : (6 : Int32).toInt = 6 := by decide
  have q7 : (7 : Int32).toInt = 7 := by decide
  have q8 : (8 : Int32).toInt = 8 := by decide
  have q9 : (9 : Int32).toInt = 9 := by decide
  have q10 : (10 : Int32).toInt = 10 := by decide
  have q12 : (12 : Int32).toInt = 12 := by decide
  have q16 : (16 : Int32).toInt = 16 := by decide
  have q20 : (20 : Int32).toInt = 20 := by decide
  have q24 : (24 : Int32).toInt = 24 := by decide
  have q30 : (30 : Int32).toInt = 30 := by decide
  have q32 : (32 : Int32).toInt = 32 := by decide
  have q40 : (40 : Int32).toInt = 40 := by decide
  have q60 : (60 : Int32).toInt = 60 := by decide
  have q69 : (69 : Int32).toInt = 69 := by decide
  have q99 : (99 : Int32).toInt = 99 := by decide
  have q9999 : (9999 : Int32).toInt = 9999 := by decide
  have q274 : (274 : Int32).toInt = 274 := by decide
  have q334 : (334 : Int32).toInt = 334 := by decide
  refine V2_iload_n (i := 3) d_R_as_31 rfl rfl ?_
  refine V2_iload_n (i := 2) d_R_as_32 rfl rfl ?_
  refine V2_icmp_eq (tgt := 48) d_R_as_33 rfl (fun c1 => ?_) (fun c1 => ?_)
  · refine hK _ ?_
    (simp only [← Int32.toInt_inj, true_and, false_and, or_false, false_or, or_true, true_or, and_true, and_false] at *) <;> omega
  · refine V2_iload_n (i := 3) d_R_as_36 rfl rfl ?_
    refine V2_if_eq (tgt := 48) d_R_as_37 rfl (fun c => (by first | exact absurd c (by decide) | exact absurd (by decide) c)) (fun _ => ?_)
    refine V2_iload_n (i := 3) d_R_as_40 rfl rfl ?_
    refine V2_callS [.int (4 : Int32)] d_R_as_41 rfl rfl lk_R_174 mo_R_above (Nat.le_of_ble_eq_true rfl) (Nat.le_of_ble_eq_true rfl) ?_
    refine V2.to (l' := [some (.int (4 : Int32))]) ?_ rfl rfl rfl rfl
    refine V2_iload_n (i := 0) d_R_above_0 rfl rfl ?_
    refine V2_iconst (v := 4) d_R_above_1 rfl ?_
    refine V2_icmp_ne (tgt := 9) d_R_above_2 rfl (fun c => (by first | exact absurd c (by decide) | exact absurd (by decide) c)) (fun _ => ?_)
    refine V2_iconst (v := 1) d_R_above_5 rfl ?_
    refine V2_goto (tgt := 19) d_R_above_6 rfl ?_
    refine V2_ireturn d_R_above_19 rfl ?_
    refine V2.to (st' := [.int (1 : Int32)]) ?_ rfl rfl rfl rfl
    refine V2_istore_n (i := 3) (l' := [some (.ref 65), some (.int (nI p)), some (.int o), some (.int (1 : Int32))]) d_R_as_44 rfl (xst_i (Nat.le_of_ble_eq_true rfl) rfl rfl) ?_
    refine V2_goto (tgt := 31) d_R_as_45 rfl ?_
    refine V2_iload_n (i := 3) d_R_as_31 rfl rfl ?_
    refine V2_iload_n (i := 2) d_R_as_32 rfl rfl ?_
    refine V2_icmp_eq (tgt := 48) d_R_as_33 rfl (fun c2 => ?_) (fun c2 => ?_)
    · refine hK _ ?_
      (simp only [← Int32.toInt_inj, true_and, false_and, or_false, false_or, or_true, true_or, and_true, and_false] at *) <;> omega
    · refine V2_iload_n (i := 3) d_R_as_36 rfl rfl ?_
      refine V2_if_eq (tgt := 48) d_R_as_37 rfl (fun c => (by first | exact absurd c (by decide) | exact absurd (by decide) c)) (fun _ => ?_)
      refine V2_iload_n (i := 3) d_R_as_40 rfl rfl ?_
      refine V2_callS [.int (1 : Int32)] d_R_as_41 rfl rfl lk_R_174 mo_R_above (Nat.le_of_ble_eq_true rfl) (Nat.le_of_ble_eq_true rfl) ?_
      refine V2.to (l' := [some (.int (1 : Int32))]) ?_ rfl rfl rfl rfl
      refine V2_iload_n (i := 0) d_R_above_0 rfl rfl ?_
      refine V2_iconst (v := 4) d_R_above_1 rfl ?_
      refine V2_icmp_ne (tgt := 9) d_R_above_2 rfl (fun _ => ?_) (fun c => (by first | exact absurd c (by decide) | exact absurd (by decide) c))
      refine V2_iload_n (i := 0) d_R_above_9 rfl rfl ?_
      refine V2_iconst (v := 5) d_R_above_10 rfl ?_
      refine V2_icmp_ne (tgt := 18) d_R_above_11 rfl (fun _ => ?_) (fun c => (by first | exact absurd c (by decide) | exact absurd (by decide) c))
      refine V2_iconst (v := 0) d_R_above_18 rfl ?_
      refine V2_ireturn d_R_above_19 rfl ?_
      refine V2.to (st' := [.int (0 : Int32)]) ?_ rfl rfl rfl rfl
      refine V2_istore_n (i := 3) (l' := [some (.ref 65), some (.int (nI p)), some (.int o), some (.int (0 : Int32))]) d_R_as_44 rfl (xst_i (Nat.le_of_ble_eq_true rfl) rfl rfl) ?_
      refine V2_goto (tgt := 31) d_R_as_45 rfl ?_
      refine V2_iload_n (i := 3) d_R_as_31 rfl rfl ?_
      refine V2_iload_n (i := 2) d_R_as_32 rfl rfl ?_
      refine V2_icmp_eq (tgt := 48) d_R_as_33 rfl (fun c3 => ?_) (fun c3 => ?_)
      · refine hK _ ?_
        (simp only [← Int32.toInt_inj, true_and, false_and, or_false, false_or, or_true, true_or, and_true, and_false] at *) <;> omega
      · refine V2_iload_n (i := 3) d_R_as_36 rfl rfl ?_
        refine V2_if_eq (tgt := 48) d_R_as_37 rfl (fun _ => ?_) (fun c => (by first | exact absurd c (by decide) | exact absurd (by decide) c))
        refine hK _ ?_
        (simp only [← Int32.toInt_inj, true_and, false_and, or_false, false_or, or_true, true_or, and_true, and_false] at *) <;> omega
theorem c_R_asclimb_5 {L : Nat} {xs : Nat → Int32} {d : Nat} {Q : Option Value → xF → Prop} {F : xF} {p : Nat} {o : Int32} (hK : ∀ w : Int32, (w = o ↔ (o = (5 : Int32) ∨ o = 0 ∨ ((5 : Int32) = 4 ∧ o = 1) ∨ ((5 : Int32) = 5 ∧ o = 2))) → V2 L xs (d + 2) m_R_as 48 [some (.ref 65), some (.int (nI p)), some (.int o), some (.int w)] [] F Q)  : V2 L xs (d + 2) m_R_as 31 ([some (.ref 65), some (.int (nI p)), some (.int o), some (.int (5 : Int32))]) [] F Q := by
  have q0 : (0 : Int32).toInt = 0 := by decide
  have q1 : (1 : Int32).toInt = 1 := by decide
  have q2 : (2 : Int32).toInt = 2 := by decide
  have q3 : (3 : Int32).toInt = 3 := by decide
  have q4 : (4 : Int32).toInt = 4 := by decide
  have q5 : (5 : Int32).toInt = 5 := by decide
  have q6 : (6 : Int32).toInt = 6 := by decide
  have q7 : (7 : Int32).toInt = 7 := by decide
  have q8 : (8 : Int32).toInt = 8 := by decide
  have q9 : (9 : Int32).toInt = 9 := by decide
  have q10 : (10 : Int32).toInt = 10 := by decide
  have q12 : (12 : Int32).toInt = 12 := by decide
  have q16 : (16 : Int32).toInt = 16 := by decide
  have q20 : (20 : Int32).toInt = 20 := by decide
  have q24 : (24 : Int32).toInt = 24 := by decide
  have q30 : (30 : Int32).toInt = 30 := by decide
  have q32 : (32 : Int32).toInt = 32 := by decide
  have q40 : (40 : Int32).toInt = 40 := by decide
  have q60 : (60 : Int32).toInt = 60 := by decide
  have q69 : (69 : Int32).toInt = 69 := by decide
  have q99 : (99 : Int32).toInt = 99 := by decide
  have q9999 : (9999 : Int32).toInt = 9999 := by decide
  have q274 : (274 : Int32).toInt = 274 := by decide
  have q334 : (334 : Int32).toInt = 334 := by decide
  refine V2_iload_n (i := 3) d_R_as_31 rfl rfl ?_
  refine V2_iload_n (i := 2) d_R_as_32 rfl rfl ?_
  refine V2_icmp_eq (tgt := 48) d_R_as_33 rfl (fun c1 => ?_) (fun c1 => ?_)
  · refine hK _ ?_
    (simp only [← Int32.toInt_inj, true_and, false_and, or_false, false_or, or_true, true_or, and_true, and_false] at *) <;> omega
  · refine V2_iload_n (i := 3) d_R_as_36 rfl rfl ?_
    refine V2_if_eq (tgt := 48) d_R_as_37 rfl (fun c => (by first | exact absurd c (by decide) | exact absurd (by decide) c)) (fun _ => ?_)
    refine V2_iload_n (i := 3) d_R_as_40 rfl rfl ?_
    refine V2_callS [.int (5 : Int32)] d_R_as_41 rfl rfl lk_R_174 mo_R_above (Nat.le_of_ble_eq_true rfl) (Nat.le_of_ble_eq_true rfl) ?_
    refine V2.to (l' := [some (.int (5 : Int32))]) ?_ rfl rfl rfl rfl
    refine V2_iload_n (i := 0) d_R_above_0 rfl rfl ?_
    refine V2_iconst (v := 4) d_R_above_1 rfl ?_
    refine V2_icmp_ne (tgt := 9) d_R_above_2 rfl (fun _ => ?_) (fun c => (by first | exact absurd c (by decide) | exact absurd (by decide) c))
    refine V2_iload_n (i := 0) d_R_above_9 rfl rfl ?_
    refine V2_iconst (v := 5) d_R_above_10 rfl ?_
    refine V2_icmp_ne (tgt := 18) d_R_above_11 rfl (fun c => (by first | exact absurd c (by decide) | exact absurd (by decide) c)) (fun _ => ?_)
    refine V2_iconst (v := 2) d_R_above_14 rfl ?_
    refine V2_goto (tgt := 19) d_R_above_15 rfl ?_
    refine V2_ireturn d_R_above_19 rfl ?_
    refine V2.to (st' := [.int (2 : Int32)]) ?_ rfl rfl rfl rfl
    refine V2_istore_n (i := 3) (l' := [some (.ref 65), some (.int (nI p)), some (.int o), some (.int (2 : Int32))]) d_R_as_44 rfl (xst_i (Nat.le_of_ble_eq_true rfl) rfl rfl) ?_
    refine V2_goto (tgt := 31) d_R_as_45 rfl ?_
    refine V2_iload_n (i := 3) d_R_as_31 rfl rfl ?_
    refine V2_iload_n (i := 2) d_R_as_32 rfl rfl ?_
    refine V2_icmp_eq (tgt := 48) d_R_as_33 rfl (fun c2 => ?_) (fun c2 => ?_)
    · refine hK _ ?_
      (simp only [← Int32.toInt_inj, true_and, false_and, or_false, false_or, or_true, true_or, and_true, and_false] at *) <;> omega
    · refine V2_iload_n (i := 3) d_R_as_36 rfl rfl ?_
      refine V2_if_eq (tgt := 48) d_R_as_37 rfl (fun c => (by first | exact absurd c (by decide) | exact absurd (by decide) c)) (fun _ => ?_)
      refine V2_iload_n (i := 3) d_R_as_40 rfl rfl ?_
      refine V2_callS [.int (2 : Int32)] d_R_as_41 rfl rfl lk_R_174 mo_R_above (Nat.le_of_ble_eq_true rfl) (Nat.le_of_ble_eq_true rfl) ?_
      refine V2.to (l' := [some (.int (2 : Int32))]) ?_ rfl rfl rfl rfl
      refine V2_iload_n (i := 0) d_R_above_0 rfl rfl ?_
      refine V2_iconst (v := 4) d_R_above_1 rfl ?_
      refine V2_icmp_ne (tgt := 9) d_R_above_2 rfl (fun _ => ?_) (fun c => (by first | exact absurd c (by decide) | exact absurd (by decide) c))
      refine V2_iload_n (i := 0) d_R_above_9 rfl rfl ?_
      refine V2_iconst (v := 5) d_R_above_10 rfl ?_
      refine V2_icmp_ne (tgt := 18) d_R_above_11 rfl (fun _ => ?_) (fun c => (by first | exact absurd c (by decide) | exact absurd (by decide) c))
      refine V2_iconst (v := 0) d_R_above_18 rfl ?_
      refine V2_ireturn d_R_above_19 rfl ?_
      refine V2.to (st' := [.int (0 : Int32)]) ?_ rfl rfl rfl rfl
      refine V2_istore_n (i := 3) (l' := [some (.ref 65), some (.int (nI p)), some (.int o), some (.int (0 : Int32))]) d_R_as_44 rfl (xst_i (Nat.le_of_ble_eq_true rfl) rfl rfl) ?_
      refine V2_goto (tgt := 31) d_R_as_45 rfl ?_
      refine V2_iload_n (i := 3) d_R_as_31 rfl rfl ?_
      refine V2_iload_n (i := 2) d_R_as_32 rfl rfl ?_
      refine V2_icmp_eq (tgt := 48) d_R_as_33 rfl (fun c3 => ?_) (fun c3 => ?_)
      · refine hK _ ?_
        (simp only [← Int32.toInt_inj, true_and, false_and, or_false, false_or, or_true, true_or, and_true, and_false] at *) <;> omega
      · refine V2_iload_n (i := 3) d_R_as_36 rfl rfl ?_
        refine V2_if_eq (tgt := 48) d_R_as_37 rfl (fun _ => ?_) (fun c => (by first | exact absurd c (by decide) | exact absurd (by decide) c))
        refine hK _ ?_
        (simp only [← Int32.toInt_inj, true_and, false_and, or_false, false_or, or_true, true_or, and_true, and_false] at *) <;> omega
theorem c_R_asclimb_6 {L : Nat} {xs : Nat → Int32} {d : Nat} {Q : Option Value → xF → Prop} {F : xF} {p : Nat} {o : Int32} (hK : ∀ w : Int32, (w = o ↔ (o = (6 : Int32) ∨ o = 0 ∨ ((6 : Int32) = 4 ∧ o = 1) ∨ ((6 : Int32) = 5 ∧ o = 2))) → V2 L xs (d + 2) m_R_as 48 [some (.ref 65), some (.int (nI p)), some (.int o), some (.int w)] [] F Q)  : V2 L xs (d + 2) m_R_as 31 ([some (.ref 65), some (.int (nI p)), some (.int o), some (.int (6 : Int32))]) [] F Q := by
  have q0 : (0 : Int32).toInt = 0 := by decide
  have q1 : (1 : Int32).toInt = 1 := by decide
  have q2 : (2 : Int32).toInt = 2 := by decide
  have q3 : (3 : Int32).toInt = 3 := by decide
  have q4 : (4 : Int32).toInt = 4 := by decide
  have q5 : (5 : Int32).toInt = 5 := by decide
  have q6 : (6 : Int32).toInt = 6 := by decide
  have q7 : (7 : Int32).toInt = 7 := by decide
  have q8 : (8 : Int32).toInt = 8 := by decide
  have q9 : (9 : Int32).toInt = 9 := by decide
  have q10 : (10 : Int32).toInt = 10 := by decide
  have q12 : (12 : Int32).toInt = 12 := by decide
  have q16 : (16 : Int32).toInt = 16 := by decide
  have q20 : (20 : Int32).toInt = 20 := by decide
  have q24 : (24 : Int32).toInt = 24 := by decide
  have q30 : (30 : Int32).toInt = 30 := by decide
  have q32 : (32 : Int32).toInt = 32 := by decide
  have q40 : (40 : Int32).toInt = 40 := by decide
  have q60 : (60 : Int32).toInt = 60 := by decide
  have q69 : (69 : Int32).toInt = 69 := by decide
  have q99 : (99 : Int32).toInt = 99 := by decide
  have q9999 : (9999 : Int32).toInt = 9999 := by decide
  have q274 : (274 : Int32).toInt = 274 := by decide
  have q334 : (334 : Int32).toInt = 334 := by decide
  refine V2_iload_n (i := 3) d_R_as_31 rfl rfl ?_
  refine V2_iload_n (i := 2) d_R_as_32 rfl rfl ?_
  refine V2_icmp_eq (tgt := 48) d_R_as_33 rfl (fun c1 => ?_) (fun c1 => ?_)
  · refine hK _ ?_
    (simp only [← Int32.toInt_inj, true_and, false_and, or_false, false_or, or_true, true_or, and_true, and_false] at *) <;> omega
  · refine V2_iload_n (i := 3) d_R_as_36 rfl rfl ?_
    refine V2_if_eq (tgt := 48) d_R_as_37 rfl (fun c => (by first | exact absurd c (by decide) | exact absurd (by decide) c)) (fun _ => ?_)
    refine V2_iload_n (i := 3) d_R_as_40 rfl rfl ?_
    refine V2_callS [.int (6 : Int32)] d_R_as_41 rfl rfl lk_R_174 mo_R_above (Nat.le_of_ble_eq_true rfl) (Nat.le_of_ble_eq_true rfl) ?_
    refine V2.to (l' := [some (.int (6 : Int32))]) ?_ rfl rfl rfl rfl
    refine V2_iload_n (i := 0) d_R_above_0 rfl rfl ?_
    refine V2_iconst (v := 4) d_R_above_1 rfl ?_
    refine V2_icmp_ne (tgt := 9) d_R_above_2 rfl (fun _ => ?_) (fun c => (by first | exact absurd c (by decide) | exact absurd (by decide) c))
    refine V2_iload_n (i := 0) d_R_above_9 rfl rfl ?_
    refine V2_iconst (v := 5) d_R_above_10 rfl ?_
    refine V2_icmp_ne (tgt := 18) d_R_above_11 rfl (fun _ => ?_) (fun c => (by first | exact absurd c (by decide) | exact absurd (by decide) c))
    refine V2_iconst (v := 0) d_R_above_18 rfl ?_
    refine V2_ireturn d_R_above_19 rfl ?_
    refine V2.to (st' := [.int (0 : Int32)]) ?_ rfl rfl rfl rfl
    refine V2_istore_n (i := 3) (l' := [some (.ref 65), some (.int (nI p)), some (.int o), some (.int (0 : Int32))]) d_R_as_44 rfl (xst_i (Nat.le_of_ble_eq_true rfl) rfl rfl) ?_
    refine V2_goto (tgt := 31) d_R_as_45 rfl ?_
    refine V2_iload_n (i := 3) d_R_as_31 rfl rfl ?_
    refine V2_iload_n (i := 2) d_R_as_32 rfl rfl ?_
    refine V2_icmp_eq (tgt := 48) d_R_as_33 rfl (fun c2 => ?_) (fun c2 => ?_)
    · refine hK _ ?_
      (simp only [← Int32.toInt_inj, true_and, false_and, or_false, false_or, or_true, true_or, and_true, and_false] at *) <;> omega
    · refine V2_iload_n (i := 3) d_R_as_36 rfl rfl ?_
      refine V2_if_eq (tgt := 48) d_R_as_37 rfl (fun _ => ?_) (fun c => (by first | exact absurd c (by decide) | exact absurd (by decide) c))
      refine hK _ ?_
      (simp only [← Int32.toInt_inj, true_and, false_and, or_false, false_or, or_true, true_or, and_true, and_false] at *) <;> omega
theorem c_R_asclimb {L : Nat} {xs : Nat → Int32} {d : Nat} {Q : Option Value → xF → Prop} {F : xF} {p : Nat} {k o : Int32} (hk : 0 ≤ k.toInt ∧ k.toInt ≤ 6) (hK : ∀ w : Int32, (w = o ↔ (o = k ∨ o = 0 ∨ (k = 4 ∧ o = 1) ∨ (k = 5 ∧ o = 2))) → V2 L xs (d + 2) m_R_as 48 [some (.ref 65), some (.int (nI p)), some (.int o), some (.int w)] [] F Q) : V2 L xs (d + 2) m_R_as 31 [some (.ref 65), some (.int (nI p)), some (.int o), some (.int k)] [] F Q := by
  rcases kind7 hk with h | h | h | h | h | h | h <;> subst h
  · exact c_R_asclimb_0 hK
  · exact c_R_asclimb_1 hK
  · exact c_R_asclimb_2 hK
  · exact c_R_asclimb_3 hK
  · exact c_R_asclimb_4 hK
  · exact c_R_asclimb_5 hK
  · exact c_R_asclimb_6 hK
theorem c_mod_as {L : Nat} {xs : Nat → Int32} {d : Nat} {Q : Option Value → xF → Prop} {F : xF} {pu o : Int32} {F0 : xF} (hR : Rel F0) (hM : Mid F0 F (k_as F0 pu o).2) (hQ : ∀ F2, Rel F2 → Q (some (.int (k_as F0 pu o).1)) F2) : V2 L xs (d + 2) m_R_as 0 (xEntry [.ref 65, .int pu, .int o] 4) [] F Q := by
  have q0 : (0 : Int32).toInt = 0 := by decide
  have q1 : (1 : Int32).toInt = 1 := by decide
  have q2 : (2 : Int32).toInt = 2 := by decide
  have q3 : (3 : Int32).toInt = 3 := by decide
  have q4 : (4 : Int32).toInt = 4 := by decide
  have q5 : (5 : Int32).toInt = 5 := by decide
  have q6 : (6 : Int32).toInt = 6 := by decide
  have q7 : (7 : Int32).toInt = 7 := by decide
  have q8 : (8 : Int32).toInt = 8 := by decide
  have q9 : (9 : Int32).toInt = 9 := by decide
  have q10 : (10 : Int32).toInt = 10 := by decide
  have q12 : (12 : Int32).toInt = 12 := by decide
  have q16 : (16 : Int32).toInt = 16 := by decide
  have q20 : (20 : Int32).toInt = 20 := by decide
  have q24 : (24 : Int32).toInt = 24 := by decide
  have q30 : (30 : Int32).toInt = 30 := by decide
  have q32 : (32 : Int32).toInt = 32 := by decide
  have q40 : (40 : Int32).toInt = 40 := by decide
  have q60 : (60 : Int32).toInt = 60 := by decide
  have q69 : (69 : Int32).toInt = 69 := by decide
  have q99 : (99 : Int32).toInt = 99 := by decide
  have q9999 : (9999 : Int32).toInt = 9999 := by decide
  have q274 : (274 : Int32).toInt = 274 := by decide
  have q334 : (334 : Int32).toInt = 334 := by decide
  obtain ⟨eP, hP6⟩ := inv_PN hR.2.1.2.2.1
  have nP : (F0 66 11).toInt = (PN (F0 66) : Int) := PN_int hR.2.1.2.2.1
  have e66 : F 66 = F0 66 := hM.1 66 (by decide)
  have e66b : F 66 11 = F0 66 11 := congrFun e66 11
  have s1 : (F 66 11 - 1).toInt = (PN (F0 66) : Int) - 1 := by
    rw [e66b, eP]
    have := nI_toInt (n := PN (F0 66)) (by omega)
    rw [toI_sub (by omega) (by omega) (by decide) (by decide), this]
    rfl
  refine V2.to (l' := [some (.ref 65), some (.int pu), some (.int o), none]) ?_ rfl rfl rfl rfl
  refine V2_aload_n (i := 0) d_R_as_0 rfl rfl ?_
  refine V2_iload_n (i := 1) d_R_as_1 rfl rfl ?_
  refine V2_callV [.int pu] d_R_as_2 rfl rfl lk_R_168 mo_R_isPusher (by decide) rfl rfl rfl (Nat.le_of_ble_eq_true rfl) (Nat.le_of_ble_eq_true rfl) ?_
  refine c_R_isPusher ?_
  refine V2_topi (fun v1 ev1 => ?_)
  refine V2_if_eq (tgt := 18) d_R_as_5 rfl (fun c2 => ?_) (fun c2 => ?_)
  · refine V2_aload_n (i := 0) d_R_as_18 rfl rfl ?_
    refine V2_iconst (v := 1) d_R_as_19 rfl ?_
    refine V2_callV [.int (1 : Int32)] d_R_as_20 rfl rfl lk_R_55 mo_R_error (by decide) rfl rfl rfl (Nat.le_of_ble_eq_true rfl) (Nat.le_of_ble_eq_true rfl) ?_
    refine c_R_error1 ?_
    refine V2_topi (fun v3 ev3 => ?_)
    refine V2_ireturn d_R_as_23 rfl ?_
    have hb0 : ¬ ((0 ≤ pu.toInt ∧ pu.toInt < (PN (F0 66) : Int)) ∧ 0 ≤ o.toInt ∧ o.toInt ≤ 6) := (by (try clear hQ); (try subst ev3 ev1); ((try simp only [xb_eq, xb_ne, Int32.lt_iff_toInt_lt, Int32.le_iff_toInt_le] at *) <;> (try simp only [← Int32.toInt_inj, true_and, false_and, or_false, false_or, or_true, true_or, and_true, and_false] at *) <;> omega))
    have e : k_as F0 pu o = (-1000000000 - 1, errF F0 1) := if_neg hb0
    rw [e] at hQ hM
    subst ev3 ev1
    exact xQi (hQ _ (rel_err hR hM)) rfl rfl
  · obtain ⟨p, hp, epp⟩ := in_of (x := pu) (P := PN (F0 66)) (by (try clear hQ); (try subst ev1); ((try simp only [xb_eq, xb_ne, Int32.lt_iff_toInt_lt, Int32.le_iff_toInt_le] at *) <;> (try simp only [← Int32.toInt_inj, true_and, false_and, or_false, false_or, or_true, true_or, and_true, and_false] at *) <;> omega)) (by (try clear hQ); (try subst ev1); ((try simp only [xb_eq, xb_ne, Int32.lt_iff_toInt_lt, Int32.le_iff_toInt_le] at *) <;> (try simp only [← Int32.toInt_inj, true_and, false_and, or_false, false_or, or_true, true_or, and_true, and_false] at *) <;> omega)) (by omega)
    subst epp
    have np : (nI p).toInt = (p : Int) := nI_toInt (by omega)
    have kp : (nI p).toNatClampNeg = p := nI_clamp (by omega)
    refine V2_iload_n (i := 2) d_R_as_8 rfl rfl ?_
    refine V2_iconst (v := 0) d_R_as_9 rfl ?_
    refine V2_bipush (v := 6) d_R_as_10 rfl ?_
    refine V2_callS [.int o, .int (0 : Int32), .int (6 : Int32)] d_R_as_12 rfl rfl lk_R_51 mo_R_in (Nat.le_of_ble_eq_true rfl) (Nat.le_of_ble_eq_true rfl) ?_
    refine c_R_in ?_
    refine V2_topi (fun v4 ev4 => ?_)
    refine V2_if_ne (tgt := 24) d_R_as_15 rfl (fun c5 => ?_) (fun c5 => ?_)
    · refine V2_aload_n (i := 0) d_R_as_24 rfl rfl ?_
      refine V2_iload_n (i := 1) d_R_as_25 rfl rfl ?_
      refine V2_iconst (v := 0) d_R_as_26 rfl ?_
      refine V2_callV [.int (nI p), .int (0 : Int32)] d_R_as_27 rfl rfl lk_R_114 mo_R_its (by decide) rfl rfl rfl (Nat.le_of_ble_eq_true rfl) (Nat.le_of_ble_eq_true rfl) ?_
      refine c_R_its0 (p := p) (by omega) ?_
      refine V2_topi (fun v6 ev6 => ?_)
      refine V2_istore_n (i := 3) (l' := [some (.ref 65), some (.int (nI p)), some (.int o), some (.int v6)]) d_R_as_30 rfl (xst_i (Nat.le_of_ble_eq_true rfl) rfl rfl) ?_
      have ek : v6 = F0 66 (12 + 2 * p) := by
        subst ev6 ev4 ev1
        exact congrFun e66 _
      rw [ek]
      refine c_R_asclimb (kind_range hR.2.1.2.2.1 hp).1 (fun w hw => ?_)
      refine V2_iload_n (i := 3) d_R_as_48 rfl rfl ?_
      refine V2_iload_n (i := 2) d_R_as_49 rfl rfl ?_
      refine V2_icmp_ne (tgt := 62) d_R_as_50 rfl (fun c7 => ?_) (fun c7 => ?_)
      · have hu : ¬ (o = F0 66 (12 + 2 * p) ∨ o = 0 ∨ (F0 66 (12 + 2 * p) = 4 ∧ o = 1) ∨ (F0 66 (12 + 2 * p) = 5 ∧ o = 2)) := fun h => c7 (hw.mpr h)
        refine V2_aload_n (i := 0) d_R_as_62 rfl rfl ?_
        refine V2_iconst (v := 5) d_R_as_63 rfl ?_
        refine V2_callV [.int (5 : Int32)] d_R_as_64 rfl rfl lk_R_55 mo_R_error (by decide) rfl rfl rfl (Nat.le_of_ble_eq_true rfl) (Nat.le_of_ble_eq_true rfl) ?_
        refine c_R_error5 ?_
        refine V2_topi (fun v8 ev8 => ?_)
        refine V2_ireturn d_R_as_67 rfl ?_
        have hb0 : (0 ≤ (nI p).toInt ∧ (nI p).toInt < (PN (F0 66) : Int)) ∧ 0 ≤ o.toInt ∧ o.toInt ≤ 6 := (by (try clear hQ); (try subst ev8 ev6 ev4 ev1); ((try simp only [xb_eq, xb_ne, Int32.lt_iff_toInt_lt, Int32.le_iff_toInt_le] at *) <;> (try simp only [← Int32.toInt_inj, true_and, false_and, or_false, false_or, or_true, true_or, and_true, and_false] at *) <;> omega))
        have e : k_as F0 (nI p) o = (-1000000000 - 5, errF F0 5) := (if_pos hb0).trans (by rw [kp]; exact if_neg hu)
        rw [e] at hQ hM
        subst ev8 ev6 ev4 ev1
        exact xQi (hQ _ (rel_err hR hM)) rfl rfl
      · have hu : (o = F0 66 (12 + 2 * p) ∨ o = 0 ∨ (F0 66 (12 + 2 * p) = 4 ∧ o = 1) ∨ (F0 66 (12 + 2 * p) = 5 ∧ o = 2)) := hw.mp c7
        refine V2_aload_n (i := 0) d_R_as_53 rfl rfl ?_
        refine V2_iload_n (i := 1) d_R_as_54 rfl rfl ?_
        refine V2_iconst (v := 1) d_R_as_55 rfl ?_
        refine V2_callV [.int (nI p), .int (1 : Int32)] d_R_as_56 rfl rfl lk_R_114 mo_R_its (by decide) rfl rfl rfl (Nat.le_of_ble_eq_true rfl) (Nat.le_of_ble_eq_true rfl) ?_
        refine c_R_its1 (p := p) (by omega) ?_
        refine V2_topi (fun v9 ev9 => ?_)
        refine V2_goto (tgt := 67) d_R_as_59 rfl ?_
        refine V2_ireturn d_R_as_67 rfl ?_
        have hb0 : (0 ≤ (nI p).toInt ∧ (nI p).toInt < (PN (F0 66) : Int)) ∧ 0 ≤ o.toInt ∧ o.toInt ≤ 6 := (by (try clear hQ); (try subst ev9 ev6 ev4 ev1); ((try simp only [xb_eq, xb_ne, Int32.lt_iff_toInt_lt, Int32.le_iff_toInt_le] at *) <;> (try simp only [← Int32.toInt_inj, true_and, false_and, or_false, false_or, or_true, true_or, and_true, and_false] at *) <;> omega))
        have e : k_as F0 (nI p) o = (F0 66 (12 + 2 * p + 1), F0) := (if_pos hb0).trans (by rw [kp]; exact if_pos hu)
        rw [e] at hQ hM
        subst ev9 ev6 ev4 ev1
        exact xQi (hQ _ (rel_same hR hM)) (congrFun e66 _) rfl
    · refine V2_aload_n (i := 0) d_R_as_18 rfl rfl ?_
      refine V2_iconst (v := 1) d_R_as_19 rfl ?_
      refine V2_callV [.int (1 : Int32)] d_R_as_20 rfl rfl lk_R_55 mo_R_error (by decide) rfl rfl rfl (Nat.le_of_ble_eq_true rfl) (Nat.le_of_ble_eq_true rfl) ?_
      refine c_R_error1 ?_
      refine V2_topi (fun v10 ev10 => ?_)
      refine V2_ireturn d_R_as_23 rfl ?_
      have hb0 : ¬ ((0 ≤ (nI p).toInt ∧ (nI p).toInt < (PN (F0 66) : Int)) ∧ 0 ≤ o.toInt ∧ o.toInt ≤ 6) := (by (try clear hQ); (try subst ev10 ev4 ev1); ((try simp only [xb_eq, xb_ne, Int32.lt_iff_toInt_lt, Int32.le_iff_toInt_le] at *) <;> (try simp only [← Int32.toInt_inj, true_and, false_and, or_false, false_or, or_true, true_or, and_true, and_false] at *) <;> omega))
      have e : k_as F0 (nI p) o = (-1000000000 - 1, errF F0 1) := if_neg hb0
      rw [e] at hQ hM
      subst ev10 ev4 ev1
      exact xQi (hQ _ (rel_err hR hM)) rfl rfl
theorem c_cls_pusherIs {L : Nat} {xs : Nat → Int32} {d : Nat} {Q : Option Value → xF → Prop} {F : xF} {pu w : Int32} (hR : Rel F) (hQ : ∀ F1, Mid F F1 (k_pusherIs F pu w).2 → Q (some (.int (k_pusherIs F pu w).1)) F1) : V2 L xs (d + 4) m_P_pusherIs 0 (xEntry [.ref 0, .int pu, .int w] 3) [] F Q := by
  have q0 : (0 : Int32).toInt = 0 := by decide
  have q1 : (1 : Int32).toInt = 1 := by decide
  have q2 : (2 : Int32).toInt = 2 := by decide
  have q3 : (3 : Int32).toInt = 3 := by decide
  have q4 : (4 : Int32).toInt = 4 := by decide
  have q5 : (5 : Int32).toInt = 5 := by decide
  have q6 : (6 : Int32).toInt = 6 := by decide
  have q7 : (7 : Int32).toInt = 7 := by decide
  have q8 : (8 : Int32).toInt = 8 := by decide
  have q9 : (9 : Int32).toInt = 9 := by decide
  have q10 : (10 : Int32).toInt = 10 := by decide
  have q12 : (12 : Int32).toInt = 12 := by decide
  have q16 : (16 : Int32).toInt = 16 := by decide
  have q20 : (20 : Int32).toInt = 20 := by decide
  have q24 : (24 : Int32).toInt = 24 := by decide
  have q30 : (30 : Int32).toInt = 30 := by decide
  have q32 : (32 : Int32).toInt = 32 := by decide
  have q40 : (40 : Int32).toInt = 40 := by decide
  have q60 : (60 : Int32).toInt = 60 := by decide
  have q69 : (69 : Int32).toInt = 69 := by decide
  have q99 : (99 : Int32).toInt = 99 := by decide
  have q9999 : (9999 : Int32).toInt = 9999 := by decide
  have q274 : (274 : Int32).toInt = 274 := by decide
  have q334 : (334 : Int32).toInt = 334 := by decide
  obtain ⟨eP, hP6⟩ := inv_PN hR.2.1.2.2.1
  have nP : (F 66 11).toInt = (PN (F 66) : Int) := PN_int hR.2.1.2.2.1
  have e4 : F 3 2 = F 66 11 := hR.1.1.2.1.1
  refine V2.to (l' := [some (.ref 0), some (.int pu), some (.int w)]) ?_ rfl rfl rfl rfl
  refine V2_aload_n (i := 0) d_P_pusherIs_0 rfl rfl ?_
  refine V2_getr (a := 1) d_P_pusherIs_1 fl_P_10 (by decide) rfl (by decide) rfl ?_
  refine V2_getr (a := 3) d_P_pusherIs_4 fl_P_70 (by decide) rfl (by decide) rfl ?_
  refine V2_iload_n (i := 1) d_P_pusherIs_7 rfl rfl ?_
  refine V2_callV [.int pu] d_P_pusherIs_8 rfl rfl lk_P_84 mo_Push_has (by decide) rfl rfl rfl (Nat.le_of_ble_eq_true rfl) (Nat.le_of_ble_eq_true rfl) ?_
  refine c_Push_has (P := PN (F 66)) (hR.1.1.2.1.1.trans eP) hP6 ?_
  refine V2_topi (fun v1 ev1 => ?_)
  refine V2_if_ne (tgt := 20) d_P_pusherIs_11 rfl (fun c2 => ?_) (fun c2 => ?_)
  · obtain ⟨p, hp, epp⟩ := in_of (x := pu) (P := PN (F 66)) (by (try clear hQ); (try subst ev1); ((try simp only [xb_eq, xb_ne, Int32.lt_iff_toInt_lt, Int32.le_iff_toInt_le] at *) <;> (try simp only [← Int32.toInt_inj, true_and, false_and, or_false, false_or, or_true, true_or, and_true, and_false] at *) <;> omega)) (by (try clear hQ); (try subst ev1); ((try simp only [xb_eq, xb_ne, Int32.lt_iff_toInt_lt, Int32.le_iff_toInt_le] at *) <;> (try simp only [← Int32.toInt_inj, true_and, false_and, or_false, false_or, or_true, true_or, and_true, and_false] at *) <;> omega)) (by omega)
    subst epp
    have np : (nI p).toInt = (p : Int) := nI_toInt (by omega)
    have kp : (nI p).toNatClampNeg = p := nI_clamp (by omega)
    refine V2_iload_n (i := 2) d_P_pusherIs_20 rfl rfl ?_
    by_cases c3_0 : w = 0
    · refine V2_tableIn (tgt := 52) (off := 31) d_P_pusherIs_21 (by rw [c3_0]; decide) (by rw [c3_0]; decide) (by rw [c3_0]; decide) rfl ?_
      refine V2_aload_n (i := 0) d_P_pusherIs_52 rfl rfl ?_
      refine V2_getr (a := 1) d_P_pusherIs_53 fl_P_10 (by decide) rfl (by decide) rfl ?_
      refine V2_getr (a := 3) d_P_pusherIs_56 fl_P_70 (by decide) rfl (by decide) rfl ?_
      refine V2_iload_n (i := 1) d_P_pusherIs_59 rfl rfl ?_
      refine V2_callV [.int (nI p)] d_P_pusherIs_60 rfl rfl lk_P_87 mo_Push_kindOf (by decide) rfl rfl rfl (Nat.le_of_ble_eq_true rfl) (Nat.le_of_ble_eq_true rfl) ?_
      refine c_Push_kindOf (P := PN (F 66)) (hR.1.1.2.1.1.trans eP) (hR.1.1.2.1.2.1.trans eP) hP6 hp ?_
      refine V2_topi (fun v4 ev4 => ?_)
      refine V2_ireturn d_P_pusherIs_63 rfl ?_
      have hb0 : (0 ≤ (nI p).toInt ∧ (nI p).toInt < (PN (F 66) : Int)) ∧ 0 ≤ w.toInt ∧ w.toInt ≤ 3 := (by (try clear hQ); (try subst ev4 ev1); ((try simp only [xb_eq, xb_ne, Int32.lt_iff_toInt_lt, Int32.le_iff_toInt_le] at *) <;> (try simp only [← Int32.toInt_inj, true_and, false_and, or_false, false_or, or_true, true_or, and_true, and_false] at *) <;> omega))
      have e : k_pusherIs F (nI p) w = (F 66 (12 + 2 * p), F) := (if_pos hb0).trans (by rw [kp, if_pos (by rw [c3_0]; decide)])
      rw [e] at hQ
      subst ev4 ev1
      exact xQi (hQ _ (mid_same hR)) (((rel_relP hR).2.2.2 p hp).1) rfl
    by_cases c3_1 : w = 1
    · refine V2_tableIn (tgt := 64) (off := 43) d_P_pusherIs_21 (by rw [c3_1]; decide) (by rw [c3_1]; decide) (by rw [c3_1]; decide) rfl ?_
      refine V2_aload_n (i := 0) d_P_pusherIs_64 rfl rfl ?_
      refine V2_getr (a := 1) d_P_pusherIs_65 fl_P_10 (by decide) rfl (by decide) rfl ?_
      refine V2_getr (a := 3) d_P_pusherIs_68 fl_P_70 (by decide) rfl (by decide) rfl ?_
      refine V2_iload_n (i := 1) d_P_pusherIs_71 rfl rfl ?_
      refine V2_callV [.int (nI p)] d_P_pusherIs_72 rfl rfl lk_P_90 mo_Push_levelOf (by decide) rfl rfl rfl (Nat.le_of_ble_eq_true rfl) (Nat.le_of_ble_eq_true rfl) ?_
      refine c_Push_levelOf (P := PN (F 66)) (hR.1.1.2.1.1.trans eP) (hR.1.1.2.1.2.1.trans eP) hP6 hp ?_
      refine V2_topi (fun v5 ev5 => ?_)
      refine V2_ireturn d_P_pusherIs_75 rfl ?_
      have hb0 : (0 ≤ (nI p).toInt ∧ (nI p).toInt < (PN (F 66) : Int)) ∧ 0 ≤ w.toInt ∧ w.toInt ≤ 3 := (by (try clear hQ); (try subst ev5 ev1); ((try simp only [xb_eq, xb_ne, Int32.lt_iff_toInt_lt, Int32.le_iff_toInt_le] at *) <;> (try simp only [← Int32.toInt_inj, true_and, false_and, or_false, false_or, or_true, true_or, and_true, and_false] at *) <;> omega))
      have e : k_pusherIs F (nI p) w = (F 66 (12 + 2 * p + 1), F) := (if_pos hb0).trans (by rw [kp, if_neg (by rw [c3_1]; decide), if_pos (by rw [c3_1]; decide)])
      rw [e] at hQ
      subst ev5 ev1
      exact xQi (hQ _ (mid_same hR)) (((rel_relP hR).2.2.2 p hp).2) rfl
    by_cases c3_2 : w = 2
    · refine V2_tableIn (tgt := 76) (off := 55) d_P_pusherIs_21 (by rw [c3_2]; decide) (by rw [c3_2]; decide) (by rw [c3_2]; decide) rfl ?_
      refine V2_aload_n (i := 0) d_P_pusherIs_76 rfl rfl ?_
      refine V2_getr (a := 1) d_P_pusherIs_77 fl_P_10 (by decide) rfl (by decide) rfl ?_
      refine V2_getr (a := 3) d_P_pusherIs_80 fl_P_70 (by decide) rfl (by decide) rfl ?_
      refine V2_iload_n (i := 1) d_P_pusherIs_83 rfl rfl ?_
      refine V2_aload_n (i := 0) d_P_pusherIs_84 rfl rfl ?_
      refine V2_getr (a := 1) d_P_pusherIs_85 fl_P_10 (by decide) rfl (by decide) rfl ?_
      refine V2_getr (a := 2) d_P_pusherIs_88 fl_P_93 (by decide) rfl (by decide) rfl ?_
      refine V2_callV [.int (nI p), .ref 2] d_P_pusherIs_91 rfl rfl lk_P_96 mo_Push_pushOf (by decide) rfl rfl rfl (Nat.le_of_ble_eq_true rfl) (Nat.le_of_ble_eq_true rfl) ?_
      refine c_Push_pushOf_2 (P := PN (F 66)) (hR.1.1.2.1.1.trans eP) (hR.1.1.2.1.2.1.trans eP) hP6 hp ?_
      refine V2_topi (fun v6 ev6 => ?_)
      refine V2_ireturn d_P_pusherIs_94 rfl ?_
      have hb0 : (0 ≤ (nI p).toInt ∧ (nI p).toInt < (PN (F 66) : Int)) ∧ 0 ≤ w.toInt ∧ w.toInt ≤ 3 := (by (try clear hQ); (try subst ev6 ev1); ((try simp only [xb_eq, xb_ne, Int32.lt_iff_toInt_lt, Int32.le_iff_toInt_le] at *) <;> (try simp only [← Int32.toInt_inj, true_and, false_and, or_false, false_or, or_true, true_or, and_true, and_false] at *) <;> omega))
      have e : k_pusherIs F (nI p) w = (pushS (F 66) p, F) := (if_pos hb0).trans (by rw [kp, if_neg (by rw [c3_2]; decide), if_neg (by rw [c3_2]; decide), if_pos (by rw [c3_2]; decide)])
      rw [e] at hQ
      subst ev6 ev1
      exact xQi (hQ _ (mid_same hR)) (push_eq hR hp) rfl
    by_cases c3_3 : w = 3
    · refine V2_tableIn (tgt := 95) (off := 74) d_P_pusherIs_21 (by rw [c3_3]; decide) (by rw [c3_3]; decide) (by rw [c3_3]; decide) rfl ?_
      refine V2_aload_n (i := 0) d_P_pusherIs_95 rfl rfl ?_
      refine V2_getr (a := 1) d_P_pusherIs_96 fl_P_10 (by decide) rfl (by decide) rfl ?_
      refine V2_getr (a := 3) d_P_pusherIs_99 fl_P_70 (by decide) rfl (by decide) rfl ?_
      refine V2_iload_n (i := 1) d_P_pusherIs_102 rfl rfl ?_
      refine V2_callV [.int (nI p)] d_P_pusherIs_103 rfl rfl lk_P_100 mo_Push_weightOf (by decide) rfl rfl rfl (Nat.le_of_ble_eq_true rfl) (Nat.le_of_ble_eq_true rfl) ?_
      refine c_Push_weightOf (P := PN (F 66)) (hR.1.1.2.1.1.trans eP) (hR.1.1.2.1.2.1.trans eP) hP6 hp ?_
      refine V2_topi (fun v7 ev7 => ?_)
      refine V2_ireturn d_P_pusherIs_106 rfl ?_
      have hb0 : (0 ≤ (nI p).toInt ∧ (nI p).toInt < (PN (F 66) : Int)) ∧ 0 ≤ w.toInt ∧ w.toInt ≤ 3 := (by (try clear hQ); (try subst ev7 ev1); ((try simp only [xb_eq, xb_ne, Int32.lt_iff_toInt_lt, Int32.le_iff_toInt_le] at *) <;> (try simp only [← Int32.toInt_inj, true_and, false_and, or_false, false_or, or_true, true_or, and_true, and_false] at *) <;> omega))
      have e : k_pusherIs F (nI p) w = (weightS (F 66) p, F) := (if_pos hb0).trans (by rw [kp, if_neg (by rw [c3_3]; decide), if_neg (by rw [c3_3]; decide), if_neg (by rw [c3_3]; decide)])
      rw [e] at hQ
      subst ev7 ev1
      exact xQi (hQ _ (mid_same hR)) (weight_eq hR hp) rfl
    refine V2_tableOut (tgt := 107) d_P_pusherIs_21 (by have := lv_neT (a := 0) c3_0 rfl; have := lv_neT (a := 1) c3_1 rfl; have := lv_neT (a := 2) c3_2 rfl; have := lv_neT (a := 3) c3_3 rfl; omega) rfl ?_
    refine V2_aload_n (i := 0) d_P_pusherIs_107 rfl rfl ?_
    refine V2_iconst (v := 1) d_P_pusherIs_108 rfl ?_
    refine V2_callV [.int (1 : Int32)] d_P_pusherIs_109 rfl rfl lk_P_66 mo_P_fails (by decide) rfl rfl rfl (Nat.le_of_ble_eq_true rfl) (Nat.le_of_ble_eq_true rfl) ?_
    refine c_P_fails1 ?_
    refine V2_topi (fun v8 ev8 => ?_)
    refine V2_ireturn d_P_pusherIs_112 rfl ?_
    have hb0 : ¬ ((0 ≤ (nI p).toInt ∧ (nI p).toInt < (PN (F 66) : Int)) ∧ 0 ≤ w.toInt ∧ w.toInt ≤ 3) := (by (try clear hQ); (try subst ev8 ev1); ((try simp only [xb_eq, xb_ne, Int32.lt_iff_toInt_lt, Int32.le_iff_toInt_le] at *) <;> (try simp only [← Int32.toInt_inj, true_and, false_and, or_false, false_or, or_true, true_or, and_true, and_false] at *) <;> omega))
    have e : k_pusherIs F (nI p) w = (-1000000000 - 1, errF F 1) := if_neg hb0
    rw [e] at hQ
    subst ev8 ev1
    exact xQi (hQ _ (mid_err hR (by decide))) rfl rfl
  · refine V2_aload_n (i := 0) d_P_pusherIs_14 rfl rfl ?_
    refine V2_iconst (v := 1) d_P_pusherIs_15 rfl ?_
    refine V2_callV [.int (1 : Int32)] d_P_pusherIs_16 rfl rfl lk_P_66 mo_P_fails (by decide) rfl rfl rfl (Nat.le_of_ble_eq_true rfl) (Nat.le_of_ble_eq_true rfl) ?_
    refine c_P_fails1 ?_
    refine V2_topi (fun v9 ev9 => ?_)
    refine V2_ireturn d_P_pusherIs_19 rfl ?_
    have hb0 : ¬ ((0 ≤ pu.toInt ∧ pu.toInt < (PN (F 66) : Int)) ∧ 0 ≤ w.toInt ∧ w.toInt ≤ 3) := (by (try clear hQ); (try subst ev9 ev1); ((try simp only [xb_eq, xb_ne, Int32.lt_iff_toInt_lt, Int32.le_iff_toInt_le] at *) <;> (try simp only [← Int32.toInt_inj, true_and, false_and, or_false, false_or, or_true, true_or, and_true, and_false] at *) <;> omega))
    have e : k_pusherIs F pu w = (-1000000000 - 1, errF F 1) := if_neg hb0
    rw [e] at hQ
    subst ev9 ev1
    exact xQi (hQ _ (mid_err hR (by decide))) rfl rfl
theorem c_R_itsW {L : Nat} {xs : Nat → Int32} {d : Nat} {Q : Option Value → xF → Prop} {F : xF} {p q : Nat} (hp : p < 6) (hq : q < 2) (hQ : Q (some (.int (F 66 (12 + 2 * p + q)))) F) : V2 L xs d m_R_its 0 (xEntry [.ref 65, .int (nI p), .int (nI q)] 3) [] F Q := by
  refine V2.to (l' := [some (.ref 65), some (.int (nI p)), some (.int (nI q))]) ?_ rfl rfl rfl rfl
  refine V2_aload_n (i := 0) d_R_its_0 rfl rfl ?_
  refine V2_getr (a := 66) d_R_its_1 fl_R_7 (by decide) rfl (by decide) rfl ?_
  refine V2_bipush (v := 12) d_R_its_4 rfl ?_
  refine V2_iconst (v := 2) d_R_its_6 rfl ?_
  refine V2_iload_n (i := 1) d_R_its_7 rfl rfl ?_
  refine V2_imul d_R_its_8 ?_
  refine V2_topi (fun v1 ev1 => ?_)
  refine V2_iadd d_R_its_9 ?_
  refine V2_topi (fun v2 ev2 => ?_)
  refine V2_iload_n (i := 2) d_R_its_10 rfl rfl ?_
  refine V2_iadd d_R_its_11 ?_
  refine V2_topi (fun v3 ev3 => ?_)
  refine V2_ialoadJ (12 + 2 * p + q) d_R_its_12 (by decide) rfl (xixA (n := 12 + 2 * p + q) (by subst ev3 ev2 ev1; simp only [nI, Int32.ofNat_add, Int32.ofNat_mul]; rfl) (by omega) (by decide)) (xixB (n := 12 + 2 * p + q) (by subst ev3 ev2 ev1; simp only [nI, Int32.ofNat_add, Int32.ofNat_mul]; rfl) (by omega)) rfl ?_
  refine V2_topi (fun v4 ev4 => ?_)
  refine V2_ireturn d_R_its_13 rfl ?_
  exact xQi hQ (by clear hQ; (try subst ev4 ev3 ev2 ev1); (try simp only [xb_eq, xb_ne, Int32.lt_iff_toInt_lt, Int32.le_iff_toInt_le] at *); (try simp only [xb]); (repeat' split); all_goals first | rfl | omega | (exfalso; simp only [← Int32.toInt_inj] at *; omega)) rfl
theorem c_mod_pusherIs {L : Nat} {xs : Nat → Int32} {d : Nat} {Q : Option Value → xF → Prop} {F : xF} {pu w : Int32} {F0 : xF} (hR : Rel F0) (hM : Mid F0 F (k_pusherIs F0 pu w).2) (hQ : ∀ F2, Rel F2 → Q (some (.int (k_pusherIs F0 pu w).1)) F2) : V2 L xs (d + 2) m_R_pusherIs 0 (xEntry [.ref 65, .int pu, .int w] 3) [] F Q := by
  have q0 : (0 : Int32).toInt = 0 := by decide
  have q1 : (1 : Int32).toInt = 1 := by decide
  have q2 : (2 : Int32).toInt = 2 := by decide
  have q3 : (3 : Int32).toInt = 3 := by decide
  have q4 : (4 : Int32).toInt = 4 := by decide
  have q5 : (5 : Int32).toInt = 5 := by decide
  have q6 : (6 : Int32).toInt = 6 := by decide
  have q7 : (7 : Int32).toInt = 7 := by decide
  have q8 : (8 : Int32).toInt = 8 := by decide
  have q9 : (9 : Int32).toInt = 9 := by decide
  have q10 : (10 : Int32).toInt = 10 := by decide
  have q12 : (12 : Int32).toInt = 12 := by decide
  have q16 : (16 : Int32).toInt = 16 := by decide
  have q20 : (20 : Int32).toInt = 20 := by decide
  have q24 : (24 : Int32).toInt = 24 := by decide
  have q30 : (30 : Int32).toInt = 30 := by decide
  have q32 : (32 : Int32).toInt = 32 := by decide
  have q40 : (40 : Int32).toInt = 40 := by decide
  have q60 : (60 : Int32).toInt = 60 := by decide
  have q69 : (69 : Int32).toInt = 69 := by decide
  have q99 : (99 : Int32).toInt = 99 := by decide
  have q9999 : (9999 : Int32).toInt = 9999 := by decide
  have q274 : (274 : Int32).toInt = 274 := by decide
  have q334 : (334 : Int32).toInt = 334 := by decide
  obtain ⟨eP, hP6⟩ := inv_PN hR.2.1.2.2.1
  have nP : (F0 66 11).toInt = (PN (F0 66) : Int) := PN_int hR.2.1.2.2.1
  have e66 : F 66 = F0 66 := hM.1 66 (by decide)
  have e66b : F 66 11 = F0 66 11 := congrFun e66 11
  have s1 : (F 66 11 - 1).toInt = (PN (F0 66) : Int) - 1 := by
    rw [e66b, eP]
    have := nI_toInt (n := PN (F0 66)) (by omega)
    rw [toI_sub (by omega) (by omega) (by decide) (by decide), this]
    rfl
  refine V2.to (l' := [some (.ref 65), some (.int pu), some (.int w)]) ?_ rfl rfl rfl rfl
  refine V2_aload_n (i := 0) d_R_pusherIs_0 rfl rfl ?_
  refine V2_iload_n (i := 1) d_R_pusherIs_1 rfl rfl ?_
  refine V2_callV [.int pu] d_R_pusherIs_2 rfl rfl lk_R_168 mo_R_isPusher (by decide) rfl rfl rfl (Nat.le_of_ble_eq_true rfl) (Nat.le_of_ble_eq_true rfl) ?_
  refine c_R_isPusher ?_
  refine V2_topi (fun v1 ev1 => ?_)
  refine V2_if_eq (tgt := 17) d_R_pusherIs_5 rfl (fun c2 => ?_) (fun c2 => ?_)
  · refine V2_aload_n (i := 0) d_R_pusherIs_17 rfl rfl ?_
    refine V2_iconst (v := 1) d_R_pusherIs_18 rfl ?_
    refine V2_callV [.int (1 : Int32)] d_R_pusherIs_19 rfl rfl lk_R_55 mo_R_error (by decide) rfl rfl rfl (Nat.le_of_ble_eq_true rfl) (Nat.le_of_ble_eq_true rfl) ?_
    refine c_R_error1 ?_
    refine V2_topi (fun v3 ev3 => ?_)
    refine V2_ireturn d_R_pusherIs_22 rfl ?_
    have hb0 : ¬ ((0 ≤ pu.toInt ∧ pu.toInt < (PN (F0 66) : Int)) ∧ 0 ≤ w.toInt ∧ w.toInt ≤ 3) := (by (try clear hQ); (try subst ev3 ev1); ((try simp only [xb_eq, xb_ne, Int32.lt_iff_toInt_lt, Int32.le_iff_toInt_le] at *) <;> (try simp only [← Int32.toInt_inj, true_and, false_and, or_false, false_or, or_true, true_or, and_true, and_false] at *) <;> omega))
    have e : k_pusherIs F0 pu w = (-1000000000 - 1, errF F0 1) := if_neg hb0
    rw [e] at hQ hM
    subst ev3 ev1
    exact xQi (hQ _ (rel_err hR hM)) rfl rfl
  · obtain ⟨p, hp, epp⟩ := in_of (x := pu) (P := PN (F0 66)) (by (try clear hQ); (try subst ev1); ((try simp only [xb_eq, xb_ne, Int32.lt_iff_toInt_lt, Int32.le_iff_toInt_le] at *) <;> (try simp only [← Int32.toInt_inj, true_and, false_and, or_false, false_or, or_true, true_or, and_true, and_false] at *) <;> omega)) (by (try clear hQ); (try subst ev1); ((try simp only [xb_eq, xb_ne, Int32.lt_iff_toInt_lt, Int32.le_iff_toInt_le] at *) <;> (try simp only [← Int32.toInt_inj, true_and, false_and, or_false, false_or, or_true, true_or, and_true, and_false] at *) <;> omega)) (by omega)
    subst epp
    have np : (nI p).toInt = (p : Int) := nI_toInt (by omega)
    have kp : (nI p).toNatClampNeg = p := nI_clamp (by omega)
    refine V2_iload_n (i := 2) d_R_pusherIs_8 rfl rfl ?_
    refine V2_iconst (v := 0) d_R_pusherIs_9 rfl ?_
    refine V2_iconst (v := 3) d_R_pusherIs_10 rfl ?_
    refine V2_callS [.int w, .int (0 : Int32), .int (3 : Int32)] d_R_pusherIs_11 rfl rfl lk_R_51 mo_R_in (Nat.le_of_ble_eq_true rfl) (Nat.le_of_ble_eq_true rfl) ?_
    refine c_R_in ?_
    refine V2_topi (fun v4 ev4 => ?_)
    refine V2_if_ne (tgt := 23) d_R_pusherIs_14 rfl (fun c5 => ?_) (fun c5 => ?_)
    · refine V2_iload_n (i := 2) d_R_pusherIs_23 rfl rfl ?_
      refine V2_iconst (v := 2) d_R_pusherIs_24 rfl ?_
      refine V2_icmp_ge (tgt := 37) d_R_pusherIs_25 rfl (fun c6 => ?_) (fun c6 => ?_)
      · refine V2_iload_n (i := 2) d_R_pusherIs_37 rfl rfl ?_
        refine V2_iconst (v := 2) d_R_pusherIs_38 rfl ?_
        refine V2_icmp_ne (tgt := 50) d_R_pusherIs_39 rfl (fun c7 => ?_) (fun c7 => ?_)
        · refine V2_aload_n (i := 0) d_R_pusherIs_50 rfl rfl ?_
          refine V2_iload_n (i := 1) d_R_pusherIs_51 rfl rfl ?_
          refine V2_callV [.int (nI p)] d_R_pusherIs_52 rfl rfl lk_R_121 mo_R_weightOf (by decide) rfl rfl rfl (Nat.le_of_ble_eq_true rfl) (Nat.le_of_ble_eq_true rfl) ?_
          refine c_R_weightOf (p := p) (by omega) ?_
          refine V2_topi (fun v8 ev8 => ?_)
          refine V2_ireturn d_R_pusherIs_55 rfl ?_
          have hb0 : (0 ≤ (nI p).toInt ∧ (nI p).toInt < (PN (F0 66) : Int)) ∧ 0 ≤ w.toInt ∧ w.toInt ≤ 3 := (by (try clear hQ); (try subst ev8 ev4 ev1); ((try simp only [xb_eq, xb_ne, Int32.lt_iff_toInt_lt, Int32.le_iff_toInt_le] at *) <;> (try simp only [← Int32.toInt_inj, true_and, false_and, or_false, false_or, or_true, true_or, and_true, and_false] at *) <;> omega))
          have e : k_pusherIs F0 (nI p) w = ((if w.toInt = 0 then F0 66 (12 + 2 * p) else if w.toInt = 1 then F0 66 (12 + 2 * p + 1) else if w.toInt = 2 then pushS (F0 66) p else weightS (F0 66) p), F0) := (if_pos hb0).trans (by rw [kp])
          rw [e] at hQ hM
          have w2 : ¬ w.toInt = 2 := (by (try clear hQ); (try subst ev8 ev4 ev1); ((try simp only [xb_eq, xb_ne, Int32.lt_iff_toInt_lt, Int32.le_iff_toInt_le] at *) <;> (try simp only [← Int32.toInt_inj, true_and, false_and, or_false, false_or, or_true, true_or, and_true, and_false] at *) <;> omega))
          have w3 : 2 ≤ w.toInt := (by (try clear hQ); (try subst ev8 ev4 ev1); ((try simp only [xb_eq, xb_ne, Int32.lt_iff_toInt_lt, Int32.le_iff_toInt_le] at *) <;> (try simp only [← Int32.toInt_inj, true_and, false_and, or_false, false_or, or_true, true_or, and_true, and_false] at *) <;> omega))
          subst ev8 ev4 ev1
          refine xQi (hQ _ (rel_same hR hM)) ?_ rfl
          rw [if_neg (by omega), if_neg (by omega), if_neg w2, e66]
        · refine V2_aload_n (i := 0) d_R_pusherIs_42 rfl rfl ?_
          refine V2_iload_n (i := 1) d_R_pusherIs_43 rfl rfl ?_
          refine V2_callV [.int (nI p)] d_R_pusherIs_44 rfl rfl lk_R_118 mo_R_pushOf (by decide) rfl rfl rfl (Nat.le_of_ble_eq_true rfl) (Nat.le_of_ble_eq_true rfl) ?_
          refine c_R_pushOf (p := p) (by omega) ?_
          refine V2_topi (fun v9 ev9 => ?_)
          refine V2_goto (tgt := 55) d_R_pusherIs_47 rfl ?_
          refine V2_ireturn d_R_pusherIs_55 rfl ?_
          have hb0 : (0 ≤ (nI p).toInt ∧ (nI p).toInt < (PN (F0 66) : Int)) ∧ 0 ≤ w.toInt ∧ w.toInt ≤ 3 := (by (try clear hQ); (try subst ev9 ev4 ev1); ((try simp only [xb_eq, xb_ne, Int32.lt_iff_toInt_lt, Int32.le_iff_toInt_le] at *) <;> (try simp only [← Int32.toInt_inj, true_and, false_and, or_false, false_or, or_true, true_or, and_true, and_false] at *) <;> omega))
          have e : k_pusherIs F0 (nI p) w = ((if w.toInt = 0 then F0 66 (12 + 2 * p) else if w.toInt = 1 then F0 66 (12 + 2 * p + 1) else if w.toInt = 2 then pushS (F0 66) p else weightS (F0 66) p), F0) := (if_pos hb0).trans (by rw [kp])
          rw [e] at hQ hM
          have w2 : w.toInt = 2 := (by (try clear hQ); (try subst ev9 ev4 ev1); ((try simp only [xb_eq, xb_ne, Int32.lt_iff_toInt_lt, Int32.le_iff_toInt_le] at *) <;> (try simp only [← Int32.toInt_inj, true_and, false_and, or_false, false_or, or_true, true_or, and_true, and_false] at *) <;> omega))
          subst ev9 ev4 ev1
          refine xQi (hQ _ (rel_same hR hM)) ?_ rfl
          rw [if_neg (by omega), if_neg (by omega), if_pos w2, e66]
      · obtain ⟨q, hq, epq⟩ := in_of (x := w) (P := 2) (by (try clear hQ); (try subst ev4 ev1); ((try simp only [xb_eq, xb_ne, Int32.lt_iff_toInt_lt, Int32.le_iff_toInt_le] at *) <;> (try simp only [← Int32.toInt_inj, true_and, false_and, or_false, false_or, or_true, true_or, and_true, and_false] at *) <;> omega)) (by (try clear hQ); (try subst ev4 ev1); ((try simp only [xb_eq, xb_ne, Int32.lt_iff_toInt_lt, Int32.le_iff_toInt_le] at *) <;> (try simp only [← Int32.toInt_inj, true_and, false_and, or_false, false_or, or_true, true_or, and_true, and_false] at *) <;> omega)) (by omega)
        subst epq
        have nq : (nI q).toInt = (q : Int) := nI_toInt (by omega)
        have kq : (nI q).toNatClampNeg = q := nI_clamp (by omega)
        refine V2_aload_n (i := 0) d_R_pusherIs_28 rfl rfl ?_
        refine V2_iload_n (i := 1) d_R_pusherIs_29 rfl rfl ?_
        refine V2_iload_n (i := 2) d_R_pusherIs_30 rfl rfl ?_
        refine V2_callV [.int (nI p), .int (nI q)] d_R_pusherIs_31 rfl rfl lk_R_114 mo_R_its (by decide) rfl rfl rfl (Nat.le_of_ble_eq_true rfl) (Nat.le_of_ble_eq_true rfl) ?_
        refine c_R_itsW (p := p) (q := q) (by omega) hq ?_
        refine V2_topi (fun v10 ev10 => ?_)
        refine V2_goto (tgt := 55) d_R_pusherIs_34 rfl ?_
        refine V2_ireturn d_R_pusherIs_55 rfl ?_
        have hb0 : (0 ≤ (nI p).toInt ∧ (nI p).toInt < (PN (F0 66) : Int)) ∧ 0 ≤ (nI q).toInt ∧ (nI q).toInt ≤ 3 := (by (try clear hQ); (try subst ev10 ev4 ev1); ((try simp only [xb_eq, xb_ne, Int32.lt_iff_toInt_lt, Int32.le_iff_toInt_le] at *) <;> (try simp only [← Int32.toInt_inj, true_and, false_and, or_false, false_or, or_true, true_or, and_true, and_false] at *) <;> omega))
        have e : k_pusherIs F0 (nI p) (nI q) = ((if (nI q).toInt = 0 then F0 66 (12 + 2 * p) else if (nI q).toInt = 1 then F0 66 (12 + 2 * p + 1) else if (nI q).toInt = 2 then pushS (F0 66) p else weightS (F0 66) p), F0) := (if_pos hb0).trans (by rw [kp])
        rw [e] at hQ hM
        subst ev10 ev4 ev1
        refine xQi (hQ _ (rel_same hR hM)) ?_ rfl
        rcases (show q = 0 ∨ q = 1 by omega) with hq | hq <;> subst hq
        · rw [if_pos (by decide), e66]
          rfl
        · rw [if_neg (by decide), if_pos (by decide), e66]
    · refine V2_aload_n (i := 0) d_R_pusherIs_17 rfl rfl ?_
      refine V2_iconst (v := 1) d_R_pusherIs_18 rfl ?_
      refine V2_callV [.int (1 : Int32)] d_R_pusherIs_19 rfl rfl lk_R_55 mo_R_error (by decide) rfl rfl rfl (Nat.le_of_ble_eq_true rfl) (Nat.le_of_ble_eq_true rfl) ?_
      refine c_R_error1 ?_
      refine V2_topi (fun v11 ev11 => ?_)
      refine V2_ireturn d_R_pusherIs_22 rfl ?_
      have hb0 : ¬ ((0 ≤ (nI p).toInt ∧ (nI p).toInt < (PN (F0 66) : Int)) ∧ 0 ≤ w.toInt ∧ w.toInt ≤ 3) := (by (try clear hQ); (try subst ev11 ev4 ev1); ((try simp only [xb_eq, xb_ne, Int32.lt_iff_toInt_lt, Int32.le_iff_toInt_le] at *) <;> (try simp only [← Int32.toInt_inj, true_and, false_and, or_false, false_or, or_true, true_or, and_true, and_false] at *) <;> omega))
      have e : k_pusherIs F0 (nI p) w = (-1000000000 - 1, errF F0 1) := if_neg hb0
      rw [e] at hQ hM
      subst ev11 ev4 ev1
      exact xQi (hQ _ (rel_err hR hM)) rfl rfl
def k_untell (F : xF) (u : Int32) : Int32 × xF := if u = 0 then (xb (0 < F 66 24), xrw F 66 (upd (F 66) 24 0)) else if u = 1 then (xb (0 < F 66 149), xrw F 66 (upd (F 66) 149 0)) else (-1000000000 - 1, errF F 1)
theorem relL_un0 {F : xF} {S : Nat → Int32} (h : relL F 8 0 S) : relL (xp F 8 4 0) 8 0 (upd S 24 0) := by
  refine ⟨⟨?_, ?_⟩, ?_, fun hp => ?_⟩
  · rw [xp_ne (Or.inr (by decide))]; exact h.1.1
  · rw [xp_ne (Or.inr (by decide))]; exact h.1.2
  · exact (xp_same F 8 4 0).trans (xb_0 (by rw [upd_same]; decide)).symm
  · rw [upd_same] at hp
    exact absurd hp (by decide)
theorem relL_un1 {F : xF} {S : Nat → Int32} (h : relL F 11 1 S) : relL (xp F 11 4 0) 11 1 (upd S 149 0) := by
  refine ⟨⟨?_, ?_⟩, ?_, fun hp => ?_⟩
  · rw [xp_ne (Or.inr (by decide))]; exact h.1.1
  · rw [xp_ne (Or.inr (by decide))]; exact h.1.2
  · exact (xp_same F 11 4 0).trans (xb_0 (by rw [upd_same]; decide)).symm
  · rw [upd_same] at hp
    exact absurd hp (by decide)
theorem c_cls_untell0 {L : Nat} {xs : Nat → Int32} {d : Nat} {Q : Option Value → xF → Prop} {F : xF}  (hR : Rel F) (hQ : ∀ F1, Mid F F1 (k_untell F 0).2 → Q (some (.int (k_untell F 0).1)) F1) : V2 L xs (d + 1) m_P_untell 0 (xEntry [.ref 0, .int (0 : Int32)] 2) [] F Q := by
  have q0 : (0 : Int32).toInt = 0 := by decide
  have q1 : (1 : Int32).toInt = 1 := by decide
  have q2 : (2 : Int32).toInt = 2 := by decide
  have q3 : (3 : Int32).toInt = 3 := by decide
  have q4 : (4 : Int32).toInt = 4 := by decide
  have q5 : (5 : Int32).toInt = 5 := by decide
  have q6 : (6 : Int32).toInt = 6 := by decide
  have q7 : (7 : Int32).toInt = 7 := by decide
  have q8 : (8 : Int32).toInt = 8 := by decide
  have q9 : (9 : Int32).toInt = 9 := by decide
  have q10 : (10 : Int32).toInt = 10 := by decide
  have q12 : (12 : Int32).toInt = 12 := by decide
  have q16 : (16 : Int32).toInt = 16 := by decide
  have q20 : (20 : Int32).toInt = 20 := by decide
  have q24 : (24 : Int32).toInt = 24 := by decide
  have q30 : (30 : Int32).toInt = 30 := by decide
  have q32 : (32 : Int32).toInt = 32 := by decide
  have q40 : (40 : Int32).toInt = 40 := by decide
  have q60 : (60 : Int32).toInt = 60 := by decide
  have q69 : (69 : Int32).toInt = 69 := by decide
  have q99 : (99 : Int32).toInt = 99 := by decide
  have q9999 : (9999 : Int32).toInt = 9999 := by decide
  have q274 : (274 : Int32).toInt = 274 := by decide
  have q334 : (334 : Int32).toInt = 334 := by decide
  have bz : F 8 4 = 0 ∨ F 8 4 = 1 := by
    rw [hR.1.1.2.2.1.2.1]
    exact xb_01
  have by_ : F 11 4 = 0 ∨ F 11 4 = 1 := by
    rw [hR.1.1.2.2.2.1.2.1]
    exact xb_01
  refine V2.to (l' := [some (.ref 0), some (.int (0 : Int32))]) ?_ rfl rfl rfl rfl
  refine V2_iload_n (i := 1) d_P_untell_0 rfl rfl ?_
  refine V2_iconst (v := 0) d_P_untell_1 rfl ?_
  refine V2_iconst (v := 1) d_P_untell_2 rfl ?_
  refine V2_callS [.int (0 : Int32), .int (0 : Int32), .int (1 : Int32)] d_P_untell_3 rfl rfl lk_P_133 mo_P_within (Nat.le_of_ble_eq_true rfl) (Nat.le_of_ble_eq_true rfl) ?_
  refine V2.to (l' := [some (.int (0 : Int32)), some (.int (0 : Int32)), some (.int (1 : Int32))]) ?_ rfl rfl rfl rfl
  refine V2_iload_n (i := 0) d_P_within_0 rfl rfl ?_
  refine V2_iload_n (i := 1) d_P_within_1 rfl rfl ?_
  refine V2_icmp_lt (tgt := 14) d_P_within_2 rfl (fun c => (by first | exact absurd c (by decide) | exact absurd (by decide) c)) (fun _ => ?_)
  refine V2_iload_n (i := 0) d_P_within_5 rfl rfl ?_
  refine V2_iload_n (i := 2) d_P_within_6 rfl rfl ?_
  refine V2_icmp_gt (tgt := 14) d_P_within_7 rfl (fun c => (by first | exact absurd c (by decide) | exact absurd (by decide) c)) (fun _ => ?_)
  refine V2_iconst (v := 1) d_P_within_10 rfl ?_
  refine V2_goto (tgt := 15) d_P_within_11 rfl ?_
  refine V2_zreturn d_P_within_15 rfl (by decide) ?_
  refine V2.to (st' := [.int (1 : Int32)]) ?_ rfl rfl rfl rfl
  refine V2_if_ne (tgt := 15) d_P_untell_6 rfl (fun _ => ?_) (fun c => (by first | exact absurd c (by decide) | exact absurd (by decide) c))
  refine V2_aload_n (i := 0) d_P_untell_15 rfl rfl ?_
  refine V2_getr (a := 1) d_P_untell_16 fl_P_10 (by decide) rfl (by decide) rfl ?_
  refine V2_iload_n (i := 1) d_P_untell_19 rfl rfl ?_
  refine V2_callV [.int (0 : Int32)] d_P_untell_20 rfl rfl lk_P_168 mo_World_lawOf (by decide) rfl rfl rfl (Nat.le_of_ble_eq_true rfl) (Nat.le_of_ble_eq_true rfl) ?_
  refine V2.to (l' := [some (.ref 1), some (.int (0 : Int32))]) ?_ rfl rfl rfl rfl
  refine V2_iload_n (i := 1) d_World_lawOf_0 rfl rfl ?_
  refine V2_if_ne (tgt := 11) d_World_lawOf_1 rfl (fun c => (by first | exact absurd c (by decide) | exact absurd (by decide) c)) (fun _ => ?_)
  refine V2_aload_n (i := 0) d_World_lawOf_4 rfl rfl ?_
  refine V2_getr (a := 8) d_World_lawOf_5 fl_World_28 (by decide) rfl (by decide) rfl ?_
  refine V2_goto (tgt := 15) d_World_lawOf_8 rfl ?_
  refine V2_areturn d_World_lawOf_15 rfl (Or.inl ⟨_, rfl⟩) ?_
  refine V2.to (st' := [.ref 8]) ?_ rfl rfl rfl rfl
  refine V2_callV [] d_P_untell_23 rfl rfl lk_P_182 mo_Law_forgets (by decide) rfl rfl rfl (Nat.le_of_ble_eq_true rfl) (Nat.le_of_ble_eq_true rfl) ?_
  refine V2.to (l' := [some (.ref 8), none]) ?_ rfl rfl rfl rfl
  refine V2_aload_n (i := 0) d_Law_forgets_0 rfl rfl ?_
  refine V2_get (v := F 8 4) d_Law_forgets_1 fl_Law_20 (by decide) rfl (by decide) rfl rfl ?_
  refine V2_topi (fun v1 ev1 => ?_)
  refine V2_istore_n (i := 1) (l' := [some (.ref 8), some (.int v1)]) d_Law_forgets_4 rfl (xst_r (Nat.le_of_ble_eq_true rfl) rfl rfl) ?_
  refine V2_aload_n (i := 0) d_Law_forgets_5 rfl rfl ?_
  refine V2_iconst (v := 0) d_Law_forgets_6 rfl ?_
  refine V2_putz d_Law_forgets_7 fl_Law_20 (by decide) rfl (by decide) rfl (by decide) ?_
  have hz9 : v1 = 0 ∨ v1 = 1 := by subst ev1; first | exact bz | exact by_
  refine V2_iload_n (i := 1) d_Law_forgets_10 rfl rfl ?_
  refine V2_zreturn d_Law_forgets_11 rfl (by assumption) ?_
  refine V2.to (st' := [.int v1]) ?_ rfl rfl rfl rfl
  refine V2_if_eq (tgt := 33) d_P_untell_26 rfl (fun c2 => ?_) (fun c2 => ?_)
  · refine V2_iconst (v := 0) d_P_untell_33 rfl ?_
    refine V2_ireturn d_P_untell_34 rfl ?_
    have e : k_untell F 0 = (xb (0 < F 66 24), xrw F 66 (upd (F 66) 24 0)) := if_pos rfl
    rw [e] at hQ
    have hx : F 8 4 = xb (0 < F 66 24) := hR.1.1.2.2.1.2.1
    subst ev1
    refine xQi (hQ _ (mid_W hR (fun k hk => xp_row_ne (by omega)) (relW_law0 hR.1.1 hR.2.1 (relL_un0 hR.1.1.2.2.1) (fun k a b c => xp_row_ne a) (fun j hj => upd_ne (by omega))))) ?_ rfl
    exact c2.symm.trans hx
  · refine V2_iconst (v := 1) d_P_untell_29 rfl ?_
    refine V2_goto (tgt := 34) d_P_untell_30 rfl ?_
    refine V2_ireturn d_P_untell_34 rfl ?_
    have e : k_untell F 0 = (xb (0 < F 66 24), xrw F 66 (upd (F 66) 24 0)) := if_pos rfl
    rw [e] at hQ
    have hx : F 8 4 = xb (0 < F 66 24) := hR.1.1.2.2.1.2.1
    subst ev1
    refine xQi (hQ _ (mid_W hR (fun k hk => xp_row_ne (by omega)) (relW_law0 hR.1.1 hR.2.1 (relL_un0 hR.1.1.2.2.1) (fun k a b c => xp_row_ne a) (fun j hj => upd_ne (by omega))))) ?_ rfl
    have h9 := c2
    rw [hx] at h9
    exact (xb_1 (xb_ne.mp h9)).symm
theorem c_mod_untell0 {L : Nat} {xs : Nat → Int32} {d : Nat} {Q : Option Value → xF → Prop} {F : xF}  {F0 : xF} (hR : Rel F0) (hM : Mid F0 F (k_untell F0 0).2) (hQ : ∀ F2, Rel F2 → Q (some (.int (k_untell F0 0).1)) F2) : V2 L xs (d + 1) m_R_untell 0 (xEntry [.ref 65, .int (0 : Int32)] 3) [] F Q := by
  have q0 : (0 : Int32).toInt = 0 := by decide
  have q1 : (1 : Int32).toInt = 1 := by decide
  have q2 : (2 : Int32).toInt = 2 := by decide
  have q3 : (3 : Int32).toInt = 3 := by decide
  have q4 : (4 : Int32).toInt = 4 := by decide
  have q5 : (5 : Int32).toInt = 5 := by decide
  have q6 : (6 : Int32).toInt = 6 := by decide
  have q7 : (7 : Int32).toInt = 7 := by decide
  have q8 : (8 : Int32).toInt = 8 := by decide
  have q9 : (9 : Int32).toInt = 9 := by decide
  have q10 : (10 : Int32).toInt = 10 := by decide
  have q12 : (12 : Int32).toInt = 12 := by decide
  have q16 : (16 : Int32).toInt = 16 := by decide
  have q20 : (20 : Int32).toInt = 20 := by decide
  have q24 : (24 : Int32).toInt = 24 := by decide
  have q30 : (30 : Int32).toInt = 30 := by decide
  have q32 : (32 : Int32).toInt = 32 := by decide
  have q40 : (40 : Int32).toInt = 40 := by decide
  have q60 : (60 : Int32).toInt = 60 := by decide
  have q69 : (69 : Int32).toInt = 69 := by decide
  have q99 : (99 : Int32).toInt = 99 := by decide
  have q9999 : (9999 : Int32).toInt = 9999 := by decide
  have q274 : (274 : Int32).toInt = 274 := by decide
  have q334 : (334 : Int32).toInt = 334 := by decide
  have e66 : F 66 = F0 66 := hM.1 66 (by decide)
  refine V2.to (l' := [some (.ref 65), some (.int (0 : Int32)), none]) ?_ rfl rfl rfl rfl
  refine V2_iload_n (i := 1) d_R_untell_0 rfl rfl ?_
  refine V2_iconst (v := 0) d_R_untell_1 rfl ?_
  refine V2_iconst (v := 1) d_R_untell_2 rfl ?_
  refine V2_callS [.int (0 : Int32), .int (0 : Int32), .int (1 : Int32)] d_R_untell_3 rfl rfl lk_R_51 mo_R_in (Nat.le_of_ble_eq_true rfl) (Nat.le_of_ble_eq_true rfl) ?_
  refine c_R_in ?_
  refine V2_topi (fun v1 ev1 => ?_)
  refine V2_if_ne (tgt := 15) d_R_untell_6 rfl (fun c2 => ?_) (fun c2 => ?_)
  · refine V2_aload_n (i := 0) d_R_untell_15 rfl rfl ?_
    refine V2_iload_n (i := 1) d_R_untell_16 rfl rfl ?_
    refine V2_callV [.int (0 : Int32)] d_R_untell_17 rfl rfl lk_R_107 mo_R_hasText (by decide) rfl rfl rfl (Nat.le_of_ble_eq_true rfl) (Nat.le_of_ble_eq_true rfl) ?_
    refine c_R_hasText0 ?_
    refine V2_topi (fun v3 ev3 => ?_)
    refine V2_if_eq (tgt := 27) d_R_untell_20 rfl (fun c4 => ?_) (fun c4 => ?_)
    · refine V2_iconst (v := 0) d_R_untell_27 rfl ?_
      refine V2_istore_n (i := 2) (l' := [some (.ref 65), some (.int (0 : Int32)), some (.int (0 : Int32))]) d_R_untell_28 rfl (xst_i (Nat.le_of_ble_eq_true rfl) rfl rfl) ?_
      refine V2_aload_n (i := 0) d_R_untell_29 rfl rfl ?_
      refine V2_getr (a := 66) d_R_untell_30 fl_R_7 (by decide) rfl (by decide) rfl ?_
      refine V2_bipush (v := 24) d_R_untell_33 rfl ?_
      refine V2_bipush (v := 125) d_R_untell_35 rfl ?_
      refine V2_iload_n (i := 1) d_R_untell_37 rfl rfl ?_
      refine V2_imul d_R_untell_38 ?_
      refine V2_lit (v := 0) (by decide) ?_
      refine V2_iadd d_R_untell_39 ?_
      refine V2_lit (v := 24) (by decide) ?_
      refine V2_iconst (v := 0) d_R_untell_40 rfl ?_
      refine V2_iastore (j := 24) d_R_untell_41 (by decide) rfl (xixA (n := 24) rfl (by decide) (by decide)) rfl ?_
      refine V2_iload_n (i := 2) d_R_untell_42 rfl rfl ?_
      refine V2_ireturn d_R_untell_43 rfl ?_
      have e : k_untell F0 0 = (xb (0 < F0 66 24), xrw F0 66 (upd (F0 66) 24 0)) := if_pos rfl
      rw [e] at hQ hM
      subst ev3 ev1
      refine xQi (hQ (xrw F 66 (upd (F0 66) 24 0)) (rel_W hR hM (invS_law0 hR.2.1 ⟨0, upd_same, Or.inl rfl⟩ (fun j hj => upd_ne (by omega))))) ?_ (by rw [xp_row F, e66])
      rw [← e66]
      exact c4.symm
    · refine V2_iconst (v := 1) d_R_untell_23 rfl ?_
      refine V2_goto (tgt := 28) d_R_untell_24 rfl ?_
      refine V2_istore_n (i := 2) (l' := [some (.ref 65), some (.int (0 : Int32)), some (.int (1 : Int32))]) d_R_untell_28 rfl (xst_i (Nat.le_of_ble_eq_true rfl) rfl rfl) ?_
      refine V2_aload_n (i := 0) d_R_untell_29 rfl rfl ?_
      refine V2_getr (a := 66) d_R_untell_30 fl_R_7 (by decide) rfl (by decide) rfl ?_
      refine V2_bipush (v := 24) d_R_untell_33 rfl ?_
      refine V2_bipush (v := 125) d_R_untell_35 rfl ?_
      refine V2_iload_n (i := 1) d_R_untell_37 rfl rfl ?_
      refine V2_imul d_R_untell_38 ?_
      refine V2_lit (v := 0) (by decide) ?_
      refine V2_iadd d_R_untell_39 ?_
      refine V2_lit (v := 24) (by decide) ?_
      refine V2_iconst (v := 0) d_R_untell_40 rfl ?_
      refine V2_iastore (j := 24) d_R_untell_41 (by decide) rfl (xixA (n := 24) rfl (by decide) (by decide)) rfl ?_
      refine V2_iload_n (i := 2) d_R_untell_42 rfl rfl ?_
      refine V2_ireturn d_R_untell_43 rfl ?_
      have e : k_untell F0 0 = (xb (0 < F0 66 24), xrw F0 66 (upd (F0 66) 24 0)) := if_pos rfl
      rw [e] at hQ hM
      subst ev3 ev1
      refine xQi (hQ (xrw F 66 (upd (F0 66) 24 0)) (rel_W hR hM (invS_law0 hR.2.1 ⟨0, upd_same, Or.inl rfl⟩ (fun j hj => upd_ne (by omega))))) ?_ (by rw [xp_row F, e66])
      rw [← e66]
      exact (xb_1 (xb_ne.mp c4)).symm
  · refine V2_aload_n (i := 0) d_R_untell_9 rfl rfl ?_
    refine V2_iconst (v := 1) d_R_untell_10 rfl ?_
    refine V2_callV [.int (1 : Int32)] d_R_untell_11 rfl rfl lk_R_55 mo_R_error (by decide) rfl rfl rfl (Nat.le_of_ble_eq_true rfl) (Nat.le_of_ble_eq_true rfl) ?_
    refine c_R_error1 ?_
    refine V2_topi (fun v5 ev5 => ?_)
    refine V2_ireturn d_R_untell_14 rfl ?_
    exfalso
    exact (by (try clear hQ); (try subst ev5 ev1); ((try simp only [xb_eq, xb_ne, Int32.lt_iff_toInt_lt, Int32.le_iff_toInt_le] at *) <;> (try simp only [← Int32.toInt_inj, true_and, false_and, or_false, false_or, or_true, true_or, and_true, and_false] at *) <;> omega))
theorem c_cls_untell1 {L : Nat} {xs : Nat → Int32} {d : Nat} {Q : Option Value → xF → Prop} {F : xF}  (hR : Rel F) (hQ : ∀ F1, Mid F F1 (k_untell F 1).2 → Q (some (.int (k_untell F 1).1)) F1) : V2 L xs (d + 1) m_P_untell 0 (xEntry [.ref 0, .int (1 : Int32)] 2) [] F Q := by
  have q0 : (0 : Int32).toInt = 0 := by decide
  have q1 : (1 : Int32).toInt = 1 := by decide
  have q2 : (2 : Int32).toInt = 2 := by decide
  have q3 : (3 : Int32).toInt = 3 := by decide
  have q4 : (4 : Int32).toInt = 4 := by decide
  have q5 : (5 : Int32).toInt = 5 := by decide
  have q6 : (6 : Int32).toInt = 6 := by decide
  have q7 : (7 : Int32).toInt = 7 := by decide
  have q8 : (8 : Int32).toInt = 8 := by decide
  have q9 : (9 : Int32).toInt = 9 := by decide
  have q10 : (10 : Int32).toInt = 10 := by decide
  have q12 : (12 : Int32).toInt = 12 := by decide
  have q16 : (16 : Int32).toInt = 16 := by decide
  have q20 : (20 : Int32).toInt = 20 := by decide
  have q24 : (24 : Int32).toInt = 24 := by decide
  have q30 : (30 : Int32).toInt = 30 := by decide
  have q32 : (32 : Int32).toInt = 32 := by decide
  have q40 : (40 : Int32).toInt = 40 := by decide
  have q60 : (60 : Int32).toInt = 60 := by decide
  have q69 : (69 : Int32).toInt = 69 := by decide
  have q99 : (99 : Int32).toInt = 99 := by decide
  have q9999 : (9999 : Int32).toInt = 9999 := by decide
  have q274 : (274 : Int32).toInt = 274 := by decide
  have q334 : (334 : Int32).toInt = 334 := by decide
  have bz : F 8 4 = 0 ∨ F 8 4 = 1 := by
    rw [hR.1.1.2.2.1.2.1]
    exact xb_01
  have by_ : F 11 4 = 0 ∨ F 11 4 = 1 := by
    rw [hR.1.1.2.2.2.1.2.1]
    exact xb_01
  refine V2.to (l' := [some (.ref 0), some (.int (1 : Int32))]) ?_ rfl rfl rfl rfl
  refine V2_iload_n (i := 1) d_P_untell_0 rfl rfl ?_
  refine V2_iconst (v := 0) d_P_untell_1 rfl ?_
  refine V2_iconst (v := 1) d_P_untell_2 rfl ?_
  refine V2_callS [.int (1 : Int32), .int (0 : Int32), .int (1 : Int32)] d_P_untell_3 rfl rfl lk_P_133 mo_P_within (Nat.le_of_ble_eq_true rfl) (Nat.le_of_ble_eq_true rfl) ?_
  refine V2.to (l' := [some (.int (1 : Int32)), some (.int (0 : Int32)), some (.int (1 : Int32))]) ?_ rfl rfl rfl rfl
  refine V2_iload_n (i := 0) d_P_within_0 rfl rfl ?_
  refine V2_iload_n (i := 1) d_P_within_1 rfl rfl ?_
  refine V2_icmp_lt (tgt := 14) d_P_within_2 rfl (fun c => (by first | exact absurd c (by decide) | exact absurd (by decide) c)) (fun _ => ?_)
  refine V2_iload_n (i := 0) d_P_within_5 rfl rfl ?_
  refine V2_iload_n (i := 2) d_P_within_6 rfl rfl ?_
  refine V2_icmp_gt (tgt := 14) d_P_within_7 rfl (fun c => (by first | exact absurd c (by decide) | exact absurd (by decide) c)) (fun _ => ?_)
  refine V2_iconst (v := 1) d_P_within_10 rfl ?_
  refine V2_goto (tgt := 15) d_P_within_11 rfl ?_
  refine V2_zreturn d_P_within_15 rfl (by decide) ?_
  refine V2.to (st' := [.int (1 : Int32)]) ?_ rfl rfl rfl rfl
  refine V2_if_ne (tgt := 15) d_P_untell_6 rfl (fun _ => ?_) (fun c => (by first | exact absurd c (by decide) | exact absurd (by decide) c))
  refine V2_aload_n (i := 0) d_P_untell_15 rfl rfl ?_
  refine V2_getr (a := 1) d_P_untell_16 fl_P_10 (by decide) rfl (by decide) rfl ?_
  refine V2_iload_n (i := 1) d_P_untell_19 rfl rfl ?_
  refine V2_callV [.int (1 : Int32)] d_P_untell_20 rfl rfl lk_P_168 mo_World_lawOf (by decide) rfl rfl rfl (Nat.le_of_ble_eq_true rfl) (Nat.le_of_ble_eq_true rfl) ?_
  refine V2.to (l' := [some (.ref 1), some (.int (1 : Int32))]) ?_ rfl rfl rfl rfl
  refine V2_iload_n (i := 1) d_World_lawOf_0 rfl rfl ?_
  refine V2_if_ne (tgt := 11) d_World_lawOf_1 rfl (fun _ => ?_) (fun c => (by first | exact absurd c (by decide) | exact absurd (by decide) c))
  refine V2_aload_n (i := 0) d_World_lawOf_11 rfl rfl ?_
  refine V2_getr (a := 11) d_World_lawOf_12 fl_World_32 (by decide) rfl (by decide) rfl ?_
  refine V2_areturn d_World_lawOf_15 rfl (Or.inl ⟨_, rfl⟩) ?_
  refine V2.to (st' := [.ref 11]) ?_ rfl rfl rfl rfl
  refine V2_callV [] d_P_untell_23 rfl rfl lk_P_182 mo_Law_forgets (by decide) rfl rfl rfl (Nat.le_of_ble_eq_true rfl) (Nat.le_of_ble_eq_true rfl) ?_
  refine V2.to (l' := [some (.ref 11), none]) ?_ rfl rfl rfl rfl
  refine V2_aload_n (i := 0) d_Law_forgets_0 rfl rfl ?_
  refine V2_get (v := F 11 4) d_Law_forgets_1 fl_Law_20 (by decide) rfl (by decide) rfl rfl ?_
  refine V2_topi (fun v1 ev1 => ?_)
  refine V2_istore_n (i := 1) (l' := [some (.ref 11), some (.int v1)]) d_Law_forgets_4 rfl (xst_r (Nat.le_of_ble_eq_true rfl) rfl rfl) ?_
  refine V2_aload_n (i := 0) d_Law_forgets_5 rfl rfl ?_
  refine V2_iconst (v := 0) d_Law_forgets_6 rfl ?_
  refine V2_putz d_Law_forgets_7 fl_Law_20 (by decide) rfl (by decide) rfl (by decide) ?_
  have hz9 : v1 = 0 ∨ v1 = 1 := by subst ev1; first | exact bz | exact by_
  refine V2_iload_n (i := 1) d_Law_forgets_10 rfl rfl ?_
  refine V2_zreturn d_Law_forgets_11 rfl (by assumption) ?_
  refine V2.to (st' := [.int v1]) ?_ rfl rfl rfl rfl
  refine V2_if_eq (tgt := 33) d_P_untell_26 rfl (fun c2 => ?_) (fun c2 => ?_)
  · refine V2_iconst (v := 0) d_P_untell_33 rfl ?_
    refine V2_ireturn d_P_untell_34 rfl ?_
    have e : k_untell F 1 = (xb (0 < F 66 149), xrw F 66 (upd (F 66) 149 0)) := (if_neg (by decide)).trans (if_pos rfl)
    rw [e] at hQ
    have hx : F 11 4 = xb (0 < F 66 149) := hR.1.1.2.2.2.1.2.1
    subst ev1
    refine xQi (hQ _ (mid_W hR (fun k hk => xp_row_ne (by omega)) (relW_law1 hR.1.1 hR.2.1 (relL_un1 hR.1.1.2.2.2.1) (fun k a b c => xp_row_ne a) (fun j hj => upd_ne (by omega))))) ?_ rfl
    exact c2.symm.trans hx
  · refine V2_iconst (v := 1) d_P_untell_29 rfl ?_
    refine V2_goto (tgt := 34) d_P_untell_30 rfl ?_
    refine V2_ireturn d_P_untell_34 rfl ?_
    have e : k_untell F 1 = (xb (0 < F 66 149), xrw F 66 (upd (F 66) 149 0)) := (if_neg (by decide)).trans (if_pos rfl)
    rw [e] at hQ
    have hx : F 11 4 = xb (0 < F 66 149) := hR.1.1.2.2.2.1.2.1
    subst ev1
    refine xQi (hQ _ (mid_W hR (fun k hk => xp_row_ne (by omega)) (relW_law1 hR.1.1 hR.2.1 (relL_un1 hR.1.1.2.2.2.1) (fun k a b c => xp_row_ne a) (fun j hj => upd_ne (by omega))))) ?_ rfl
    have h9 := c2
    rw [hx] at h9
    exact (xb_1 (xb_ne.mp h9)).symm
theorem c_mod_untell1 {L : Nat} {xs : Nat → Int32} {d : Nat} {Q : Option Value → xF → Prop} {F : xF}  {F0 : xF} (hR : Rel F0) (hM : Mid F0 F (k_untell F0 1).2) (hQ : ∀ F2, Rel F2 → Q (some (.int (k_untell F0 1).1)) F2) : V2 L xs (d + 1) m_R_untell 0 (xEntry [.ref 65, .int (1 : Int32)] 3) [] F Q := by
  have q0 : (0 : Int32).toInt = 0 := by decide
  have q1 : (1 : Int32).toInt = 1 := by decide
  have q2 : (2 : Int32).toInt = 2 := by decide
  have q3 : (3 : Int32).toInt = 3 := by decide
  have q4 : (4 : Int32).toInt = 4 := by decide
  have q5 : (5 : Int32).toInt = 5 := by decide
  have q6 : (6 : Int32).toInt = 6 := by decide
  have q7 : (7 : Int32).toInt = 7 := by decide
  have q8 : (8 : Int32).toInt = 8 := by decide
  have q9 : (9 : Int32).toInt = 9 := by decide
  have q10 : (10 : Int32).toInt = 10 := by decide
  have q12 : (12 : Int32).toInt = 12 := by decide
  have q16 : (16 : Int32).toInt = 16 := by decide
  have q20 : (20 : Int32).toInt = 20 := by decide
  have q24 : (24 : Int32).toInt = 24 := by decide
  have q30 : (30 : Int32).toInt = 30 := by decide
  have q32 : (32 : Int32).toInt = 32 := by decide
  have q40 : (40 : Int32).toInt = 40 := by decide
  have q60 : (60 : Int32).toInt = 60 := by decide
  have q69 : (69 : Int32).toInt = 69 := by decide
  have q99 : (99 : Int32).toInt = 99 := by decide
  have q9999 : (9999 : Int32).toInt = 9999 := by decide
  have q274 : (274 : Int32).toInt = 274 := by decide
  have q334 : (334 : Int32).toInt = 334 := by decide
  have e66 : F 66 = F0 66 := hM.1 66 (by decide)
  refine V2.to (l' := [some (.ref 65), some (.int (1 : Int32)), none]) ?_ rfl rfl rfl rfl
  refine V2_iload_n (i := 1) d_R_untell_0 rfl rfl ?_
  refine V2_iconst (v := 0) d_R_untell_1 rfl ?_
  refine V2_iconst (v := 1) d_R_untell_2 rfl ?_
  refine V2_callS [.int (1 : Int32), .int (0 : Int32), .int (1 : Int32)] d_R_untell_3 rfl rfl lk_R_51 mo_R_in (Nat.le_of_ble_eq_true rfl) (Nat.le_of_ble_eq_true rfl) ?_
  refine c_R_in ?_
  refine V2_topi (fun v1 ev1 => ?_)
  refine V2_if_ne (tgt := 15) d_R_untell_6 rfl (fun c2 => ?_) (fun c2 => ?_)
  · refine V2_aload_n (i := 0) d_R_untell_15 rfl rfl ?_
    refine V2_iload_n (i := 1) d_R_untell_16 rfl rfl ?_
    refine V2_callV [.int (1 : Int32)] d_R_untell_17 rfl rfl lk_R_107 mo_R_hasText (by decide) rfl rfl rfl (Nat.le_of_ble_eq_true rfl) (Nat.le_of_ble_eq_true rfl) ?_
    refine c_R_hasText1 ?_
    refine V2_topi (fun v3 ev3 => ?_)
    refine V2_if_eq (tgt := 27) d_R_untell_20 rfl (fun c4 => ?_) (fun c4 => ?_)
    · refine V2_iconst (v := 0) d_R_untell_27 rfl ?_
      refine V2_istore_n (i := 2) (l' := [some (.ref 65), some (.int (1 : Int32)), some (.int (0 : Int32))]) d_R_untell_28 rfl (xst_i (Nat.le_of_ble_eq_true rfl) rfl rfl) ?_
      refine V2_aload_n (i := 0) d_R_untell_29 rfl rfl ?_
      refine V2_getr (a := 66) d_R_untell_30 fl_R_7 (by decide) rfl (by decide) rfl ?_
      refine V2_bipush (v := 24) d_R_untell_33 rfl ?_
      refine V2_bipush (v := 125) d_R_untell_35 rfl ?_
      refine V2_iload_n (i := 1) d_R_untell_37 rfl rfl ?_
      refine V2_imul d_R_untell_38 ?_
      refine V2_lit (v := 125) (by decide) ?_
      refine V2_iadd d_R_untell_39 ?_
      refine V2_lit (v := 149) (by decide) ?_
      refine V2_iconst (v := 0) d_R_untell_40 rfl ?_
      refine V2_iastore (j := 149) d_R_untell_41 (by decide) rfl (xixA (n := 149) rfl (by decide) (by decide)) rfl ?_
      refine V2_iload_n (i := 2) d_R_untell_42 rfl rfl ?_
      refine V2_ireturn d_R_untell_43 rfl ?_
      have e : k_untell F0 1 = (xb (0 < F0 66 149), xrw F0 66 (upd (F0 66) 149 0)) := (if_neg (by decide)).trans (if_pos rfl)
      rw [e] at hQ hM
      subst ev3 ev1
      refine xQi (hQ (xrw F 66 (upd (F0 66) 149 0)) (rel_W hR hM (invS_law1 hR.2.1 ⟨0, upd_same, Or.inl rfl⟩ (fun j hj => upd_ne (by omega))))) ?_ (by rw [xp_row F, e66])
      rw [← e66]
      exact c4.symm
    · refine V2_iconst (v := 1) d_R_untell_23 rfl ?_
      refine V2_goto (tgt := 28) d_R_untell_24 rfl ?_
      refine V2_istore_n (i := 2) (l' := [some (.ref 65), some (.int (1 : Int32)), some (.int (1 : Int32))]) d_R_untell_28 rfl (xst_i (Nat.le_of_ble_eq_true rfl) rfl rfl) ?_
      refine V2_aload_n (i := 0) d_R_untell_29 rfl rfl ?_
      refine V2_getr (a := 66) d_R_untell_30 fl_R_7 (by decide) rfl (by decide) rfl ?_
      refine V2_bipush (v := 24) d_R_untell_33 rfl ?_
      refine V2_bipush (v := 125) d_R_untell_35 rfl ?_
      refine V2_iload_n (i := 1) d_R_untell_37 rfl rfl ?_
      refine V2_imul d_R_untell_38 ?_
      refine V2_lit (v := 125) (by decide) ?_
      refine V2_iadd d_R_untell_39 ?_
      refine V2_lit (v := 149) (by decide) ?_
      refine V2_iconst (v := 0) d_R_untell_40 rfl ?_
      refine V2_iastore (j := 149) d_R_untell_41 (by decide) rfl (xixA (n := 149) rfl (by decide) (by decide)) rfl ?_
      refine V2_iload_n (i := 2) d_R_untell_42 rfl rfl ?_
      refine V2_ireturn d_R_untell_43 rfl ?_
      have e : k_untell F0 1 = (xb (0 < F0 66 149), xrw F0 66 (upd (F0 66) 149 0)) := (if_neg (by decide)).trans (if_pos rfl)
      rw [e] at hQ hM
      subst ev3 ev1
      refine xQi (hQ (xrw F 66 (upd (F0 66) 149 0)) (rel_W hR hM (invS_law1 hR.2.1 ⟨0, upd_same, Or.inl rfl⟩ (fun j hj => upd_ne (by omega))))) ?_ (by rw [xp_row F, e66])
      rw [← e66]
      exact (xb_1 (xb_ne.mp c4)).symm
  · refine V2_aload_n (i := 0) d_R_untell_9 rfl rfl ?_
    refine V2_iconst (v := 1) d_R_untell_10 rfl ?_
    refine V2_callV [.int (1 : Int32)] d_R_untell_11 rfl rfl lk_R_55 mo_R_error (by decide) rfl rfl rfl (Nat.le_of_ble_eq_true rfl) (Nat.le_of_ble_eq_true rfl) ?_
    refine c_R_error1 ?_
    refine V2_topi (fun v5 ev5 => ?_)
    refine V2_ireturn d_R_untell_14 rfl ?_
    exfalso
    exact (by (try clear hQ); (try subst ev5 ev1); ((try simp only [xb_eq, xb_ne, Int32.lt_iff_toInt_lt, Int32.le_iff_toInt_le] at *) <;> (try simp only [← Int32.toInt_inj, true_and, false_and, or_false, false_or, or_true, true_or, and_true, and_false] at *) <;> omega))
theorem c_cls_untell2 {L : Nat} {xs : Nat → Int32} {d : Nat} {Q : Option Value → xF → Prop} {F : xF} {u : Int32} (hR : Rel F) (hu : ¬ u = 0) (hv : ¬ u = 1) (hQ : ∀ F1, Mid F F1 (k_untell F u).2 → Q (some (.int (k_untell F u).1)) F1) : V2 L xs (d + 1) m_P_untell 0 (xEntry [.ref 0, .int u] 2) [] F Q := by
  have q0 : (0 : Int32).toInt = 0 := by decide
  have q1 : (1 : Int32).toInt = 1 := by decide
  have q2 : (2 : Int32).toInt = 2 := by decide
  have q3 : (3 : Int32).toInt = 3 := by decide
  have q4 : (4 : Int32).toInt = 4 := by decide
  have q5 : (5 : Int32).toInt = 5 := by decide
  have q6 : (6 : Int32).toInt = 6 := by decide
  have q7 : (7 : Int32).toInt = 7 := by decide
  have q8 : (8 : Int32).toInt = 8 := by decide
  have q9 : (9 : Int32).toInt = 9 := by decide
  have q10 : (10 : Int32).toInt = 10 := by decide
  have q12 : (12 : Int32).toInt = 12 := by decide
  have q16 : (16 : Int32).toInt = 16 := by decide
  have q20 : (20 : Int32).toInt = 20 := by decide
  have q24 : (24 : Int32).toInt = 24 := by decide
  have q30 : (30 : Int32).toInt = 30 := by decide
  have q32 : (32 : Int32).toInt = 32 := by decide
  have q40 : (40 : Int32).toInt = 40 := by decide
  have q60 : (60 : Int32).toInt = 60 := by decide
  have q69 : (69 : Int32).toInt = 69 := by decide
  have q99 : (99 : Int32).toInt = 99 := by decide
  have q9999 : (9999 : Int32).toInt = 9999 := by decide
  have q274 : (274 : Int32).toInt = 274 := by decide
  have q334 : (334 : Int32).toInt = 334 := by decide
  have bz : F 8 4 = 0 ∨ F 8 4 = 1 := by
    rw [hR.1.1.2.2.1.2.1]
    exact xb_01
  have by_ : F 11 4 = 0 ∨ F 11 4 = 1 := by
    rw [hR.1.1.2.2.2.1.2.1]
    exact xb_01
  refine V2.to (l' := [some (.ref 0), some (.int u)]) ?_ rfl rfl rfl rfl
  refine V2_iload_n (i := 1) d_P_untell_0 rfl rfl ?_
  refine V2_iconst (v := 0) d_P_untell_1 rfl ?_
  refine V2_iconst (v := 1) d_P_untell_2 rfl ?_
  refine V2_callS [.int u, .int (0 : Int32), .int (1 : Int32)] d_P_untell_3 rfl rfl lk_P_133 mo_P_within (Nat.le_of_ble_eq_true rfl) (Nat.le_of_ble_eq_true rfl) ?_
  refine V2.to (l' := [some (.int u), some (.int (0 : Int32)), some (.int (1 : Int32))]) ?_ rfl rfl rfl rfl
  refine V2_iload_n (i := 0) d_P_within_0 rfl rfl ?_
  refine V2_iload_n (i := 1) d_P_within_1 rfl rfl ?_
  refine V2_icmp_lt (tgt := 14) d_P_within_2 rfl (fun c1 => ?_) (fun c1 => ?_)
  · refine V2_iconst (v := 0) d_P_within_14 rfl ?_
    refine V2_zreturn d_P_within_15 rfl (by decide) ?_
    refine V2.to (st' := [.int (0 : Int32)]) ?_ rfl rfl rfl rfl
    refine V2_if_ne (tgt := 15) d_P_untell_6 rfl (fun c => (by first | exact absurd c (by decide) | exact absurd (by decide) c)) (fun _ => ?_)
    refine V2_aload_n (i := 0) d_P_untell_9 rfl rfl ?_
    refine V2_iconst (v := 1) d_P_untell_10 rfl ?_
    refine V2_callV [.int (1 : Int32)] d_P_untell_11 rfl rfl lk_P_66 mo_P_fails (by decide) rfl rfl rfl (Nat.le_of_ble_eq_true rfl) (Nat.le_of_ble_eq_true rfl) ?_
    refine c_P_fails1 ?_
    refine V2_topi (fun v2 ev2 => ?_)
    refine V2_ireturn d_P_untell_14 rfl ?_
    have e : k_untell F u = (-1000000000 - 1, errF F 1) := (if_neg hu).trans (if_neg hv)
    rw [e] at hQ
    subst ev2
    exact xQi (hQ _ (mid_err hR (by decide))) rfl rfl
  · refine V2_iload_n (i := 0) d_P_within_5 rfl rfl ?_
    refine V2_iload_n (i := 2) d_P_within_6 rfl rfl ?_
    refine V2_icmp_gt (tgt := 14) d_P_within_7 rfl (fun c3 => ?_) (fun c3 => ?_)
    · refine V2_iconst (v := 0) d_P_within_14 rfl ?_
      refine V2_zreturn d_P_within_15 rfl (by decide) ?_
      refine V2.to (st' := [.int (0 : Int32)]) ?_ rfl rfl rfl rfl
      refine V2_if_ne (tgt := 15) d_P_untell_6 rfl (fun c => (by first | exact absurd c (by decide) | exact absurd (by decide) c)) (fun _ => ?_)
      refine V2_aload_n (i := 0) d_P_untell_9 rfl rfl ?_
      refine V2_iconst (v := 1) d_P_untell_10 rfl ?_
      refine V2_callV [.int (1 : Int32)] d_P_untell_11 rfl rfl lk_P_66 mo_P_fails (by decide) rfl rfl rfl (Nat.le_of_ble_eq_true rfl) (Nat.le_of_ble_eq_true rfl) ?_
      refine c_P_fails1 ?_
      refine V2_topi (fun v4 ev4 => ?_)
      refine V2_ireturn d_P_untell_14 rfl ?_
      have e : k_untell F u = (-1000000000 - 1, errF F 1) := (if_neg hu).trans (if_neg hv)
      rw [e] at hQ
      subst ev4
      exact xQi (hQ _ (mid_err hR (by decide))) rfl rfl
    · refine V2_iconst (v := 1) d_P_within_10 rfl ?_
      refine V2_goto (tgt := 15) d_P_within_11 rfl ?_
      refine V2_zreturn d_P_within_15 rfl (by decide) ?_
      refine V2.to (st' := [.int (1 : Int32)]) ?_ rfl rfl rfl rfl
      refine V2_if_ne (tgt := 15) d_P_untell_6 rfl (fun _ => ?_) (fun c => (by first | exact absurd c (by decide) | exact absurd (by decide) c))
      refine V2_aload_n (i := 0) d_P_untell_15 rfl rfl ?_
      refine V2_getr (a := 1) d_P_untell_16 fl_P_10 (by decide) rfl (by decide) rfl ?_
      refine V2_iload_n (i := 1) d_P_untell_19 rfl rfl ?_
      refine V2_callV [.int u] d_P_untell_20 rfl rfl lk_P_168 mo_World_lawOf (by decide) rfl rfl rfl (Nat.le_of_ble_eq_true rfl) (Nat.le_of_ble_eq_true rfl) ?_
      refine V2.to (l' := [some (.ref 1), some (.int u)]) ?_ rfl rfl rfl rfl
      refine V2_iload_n (i := 1) d_World_lawOf_0 rfl rfl ?_
      refine V2_if_ne (tgt := 11) d_World_lawOf_1 rfl (fun c5 => ?_) (fun c5 => ?_)
      · refine V2_aload_n (i := 0) d_World_lawOf_11 rfl rfl ?_
        refine V2_getr (a := 11) d_World_lawOf_12 fl_World_32 (by decide) rfl (by decide) rfl ?_
        refine V2_areturn d_World_lawOf_15 rfl (Or.inl ⟨_, rfl⟩) ?_
        refine V2.to (st' := [.ref 11]) ?_ rfl rfl rfl rfl
        refine V2_callV [] d_P_untell_23 rfl rfl lk_P_182 mo_Law_forgets (by decide) rfl rfl rfl (Nat.le_of_ble_eq_true rfl) (Nat.le_of_ble_eq_true rfl) ?_
        refine V2.to (l' := [some (.ref 11), none]) ?_ rfl rfl rfl rfl
        refine V2_aload_n (i := 0) d_Law_forgets_0 rfl rfl ?_
        refine V2_get (v := F 11 4) d_Law_forgets_1 fl_Law_20 (by decide) rfl (by decide) rfl rfl ?_
        refine V2_topi (fun v6 ev6 => ?_)
        refine V2_istore_n (i := 1) (l' := [some (.ref 11), some (.int v6)]) d_Law_forgets_4 rfl (xst_r (Nat.le_of_ble_eq_true rfl) rfl rfl) ?_
        refine V2_aload_n (i := 0) d_Law_forgets_5 rfl rfl ?_
        refine V2_iconst (v := 0) d_Law_forgets_6 rfl ?_
        refine V2_putz d_Law_forgets_7 fl_Law_20 (by decide) rfl (by decide) rfl (by decide) ?_
        have hz9 : v6 = 0 ∨ v6 = 1 := by subst ev6; first | exact bz | exact by_
        refine V2_iload_n (i := 1) d_Law_forgets_10 rfl rfl ?_
        refine V2_zreturn d_Law_forgets_11 rfl (by assumption) ?_
        refine V2.to (st' := [.int v6]) ?_ rfl rfl rfl rfl
        refine V2_if_eq (tgt := 33) d_P_untell_26 rfl (fun c7 => ?_) (fun c7 => ?_)
        · refine V2_iconst (v := 0) d_P_untell_33 rfl ?_
          refine V2_ireturn d_P_untell_34 rfl ?_
          exfalso
          exact (by (try clear hQ); (try subst ev6); ((try simp only [xb_eq, xb_ne, Int32.lt_iff_toInt_lt, Int32.le_iff_toInt_le] at *) <;> (try simp only [← Int32.toInt_inj, true_and, false_and, or_false, false_or, or_true, true_or, and_true, and_false] at *) <;> omega))
        · refine V2_iconst (v := 1) d_P_untell_29 rfl ?_
          refine V2_goto (tgt := 34) d_P_untell_30 rfl ?_
          refine V2_ireturn d_P_untell_34 rfl ?_
          exfalso
          exact (by (try clear hQ); (try subst ev6); ((try simp only [xb_eq, xb_ne, Int32.lt_iff_toInt_lt, Int32.le_iff_toInt_le] at *) <;> (try simp only [← Int32.toInt_inj, true_and, false_and, or_false, false_or, or_true, true_or, and_true, and_false] at *) <;> omega))
      · refine V2_aload_n (i := 0) d_World_lawOf_4 rfl rfl ?_
        refine V2_getr (a := 8) d_World_lawOf_5 fl_World_28 (by decide) rfl (by decide) rfl ?_
        refine V2_goto (tgt := 15) d_World_lawOf_8 rfl ?_
        refine V2_areturn d_World_lawOf_15 rfl (Or.inl ⟨_, rfl⟩) ?_
        refine V2.to (st' := [.ref 8]) ?_ rfl rfl rfl rfl
        refine V2_callV [] d_P_untell_23 rfl rfl lk_P_182 mo_Law_forgets (by decide) rfl rfl rfl (Nat.le_of_ble_eq_true rfl) (Nat.le_of_ble_eq_true rfl) ?_
        refine V2.to (l' := [some (.ref 8), none]) ?_ rfl rfl rfl rfl
        refine V2_aload_n (i := 0) d_Law_forgets_0 rfl rfl ?_
        refine V2_get (v := F 8 4) d_Law_forgets_1 fl_Law_20 (by decide) rfl (by decide) rfl rfl ?_
        refine V2_topi (fun v8 ev8 => ?_)
        refine V2_istore_n (i := 1) (l' := [some (.ref 8), some (.int v8)]) d_Law_forgets_4 rfl (xst_r (Nat.le_of_ble_eq_true rfl) rfl rfl) ?_
        refine V2_aload_n (i := 0) d_Law_forgets_5 rfl rfl ?_
        refine V2_iconst (v := 0) d_Law_forgets_6 rfl ?_
        refine V2_putz d_Law_forgets_7 fl_Law_20 (by decide) rfl (by decide) rfl (by decide) ?_
        have hz9 : v8 = 0 ∨ v8 = 1 := by subst ev8; first | exact bz | exact by_
        refine V2_iload_n (i := 1) d_Law_forgets_10 rfl rfl ?_
        refine V2_zreturn d_Law_forgets_11 rfl (by assumption) ?_
        refine V2.to (st' := [.int v8]) ?_ rfl rfl rfl rfl
        refine V2_if_eq (tgt := 33) d_P_untell_26 rfl (fun c9 => ?_) (fun c9 => ?_)
        · refine V2_iconst (v := 0) d_P_untell_33 rfl ?_
          refine V2_ireturn d_P_untell_34 rfl ?_
          exfalso
          exact (by (try clear hQ); (try subst ev8); ((try simp only [xb_eq, xb_ne, Int32.lt_iff_toInt_lt, Int32.le_iff_toInt_le] at *) <;> (try simp only [← Int32.toInt_inj, true_and, false_and, or_false, false_or, or_true, true_or, and_true, and_false] at *) <;> omega))
        · refine V2_iconst (v := 1) d_P_untell_29 rfl ?_
          refine V2_goto (tgt := 34) d_P_untell_30 rfl ?_
          refine V2_ireturn d_P_untell_34 rfl ?_
          exfalso
          exact (by (try clear hQ); (try subst ev8); ((try simp only [xb_eq, xb_ne, Int32.lt_iff_toInt_lt, Int32.le_iff_toInt_le] at *) <;> (try simp only [← Int32.toInt_inj, true_and, false_and, or_false, false_or, or_true, true_or, and_true, and_false] at *) <;> omega))
theorem c_mod_untell2 {L : Nat} {xs : Nat → Int32} {d : Nat} {Q : Option Value → xF → Prop} {F : xF} {u : Int32} {F0 : xF} (hR : Rel F0) (hM : Mid F0 F (k_untell F0 u).2) (hu : ¬ u = 0) (hv : ¬ u = 1) (hQ : ∀ F2, Rel F2 → Q (some (.int (k_untell F0 u).1)) F2) : V2 L xs (d + 1) m_R_untell 0 (xEntry [.ref 65, .int u] 3) [] F Q := by
  have q0 : (0 : Int32).toInt = 0 := by decide
  have q1 : (1 : Int32).toInt = 1 := by decide
  have q2 : (2 : Int32).toInt = 2 := by decide
  have q3 : (3 : Int32).toInt = 3 := by decide
  have q4 : (4 : Int32).toInt = 4 := by decide
  have q5 : (5 : Int32).toInt = 5 := by decide
  have q6 : (6 : Int32).toInt = 6 := by decide
  have q7 : (7 : Int32).toInt = 7 := by decide
  have q8 : (8 : Int32).toInt = 8 := by decide
  have q9 : (9 : Int32).toInt = 9 := by decide
  have q10 : (10 : Int32).toInt = 10 := by decide
  have q12 : (12 : Int32).toInt = 12 := by decide
  have q16 : (16 : Int32).toInt = 16 := by decide
  have q20 : (20 : Int32).toInt = 20 := by decide
  have q24 : (24 : Int32).toInt = 24 := by decide
  have q30 : (30 : Int32).toInt = 30 := by decide
  have q32 : (32 : Int32).toInt = 32 := by decide
  have q40 : (40 : Int32).toInt = 40 := by decide
  have q60 : (60 : Int32).toInt = 60 := by decide
  have q69 : (69 : Int32).toInt = 69 := by decide
  have q99 : (99 : Int32).toInt = 99 := by decide
  have q9999 : (9999 : Int32).toInt = 9999 := by decide
  have q274 : (274 : Int32).toInt = 274 := by decide
  have q334 : (334 : Int32).toInt = 334 := by decide
  have e66 : F 66 = F0 66 := hM.1 66 (by decide)
  refine V2.to (l' := [some (.ref 65), some (.int u), none]) ?_ rfl rfl rfl rfl
  refine V2_iload_n (i := 1) d_R_untell_0 rfl rfl ?_
  refine V2_iconst (v := 0) d_R_untell_1 rfl ?_
  refine V2_iconst (v := 1) d_R_untell_2 rfl ?_
  refine V2_callS [.int u, .int (0 : Int32), .int (1 : Int32)] d_R_untell_3 rfl rfl lk_R_51 mo_R_in (Nat.le_of_ble_eq_true rfl) (Nat.le_of_ble_eq_true rfl) ?_
  refine c_R_in ?_
  refine V2_topi (fun v1 ev1 => ?_)
  refine V2_if_ne (tgt := 15) d_R_untell_6 rfl (fun c2 => ?_) (fun c2 => ?_)
  · refine V2_aload_n (i := 0) d_R_untell_15 rfl rfl ?_
    refine V2_iload_n (i := 1) d_R_untell_16 rfl rfl ?_
    refine V2_callV [.int u] d_R_untell_17 rfl rfl lk_R_107 mo_R_hasText (by decide) rfl rfl rfl (Nat.le_of_ble_eq_true rfl) (Nat.le_of_ble_eq_true rfl) ?_
    exfalso
    exact (by (try clear hQ); (try subst ev1); ((try simp only [xb_eq, xb_ne, Int32.lt_iff_toInt_lt, Int32.le_iff_toInt_le] at *) <;> (try simp only [← Int32.toInt_inj, true_and, false_and, or_false, false_or, or_true, true_or, and_true, and_false] at *) <;> omega))
  · refine V2_aload_n (i := 0) d_R_untell_9 rfl rfl ?_
    refine V2_iconst (v := 1) d_R_untell_10 rfl ?_
    refine V2_callV [.int (1 : Int32)] d_R_untell_11 rfl rfl lk_R_55 mo_R_error (by decide) rfl rfl rfl (Nat.le_of_ble_eq_true rfl) (Nat.le_of_ble_eq_true rfl) ?_
    refine c_R_error1 ?_
    refine V2_topi (fun v3 ev3 => ?_)
    refine V2_ireturn d_R_untell_14 rfl ?_
    have e : k_untell F0 u = (-1000000000 - 1, errF F0 1) := (if_neg hu).trans (if_neg hv)
    rw [e] at hQ hM
    subst ev3 ev1
    exact xQi (hQ _ (rel_err hR hM)) rfl rfl
