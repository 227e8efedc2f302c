/-! the class: rows of numbers, place by place -/
theorem xcap {P n : Nat} {m : Int32} (hm : m = nI n) (h : P ≤ n) (hn : n ≤ 1000) : (if (0 : Int32) < (if m < nI P then m else nI P) then (if m < nI P then m else nI P) else (0 : Int32)) = nI P := by
  subst hm
  have e1 : (if nI n < nI P then nI n else nI P) = nI P := if_neg (nI_nlt h (by omega))
  rw [e1]
  by_cases h0 : P = 0
  · subst h0
    decide
  · exact if_pos (nI_lt (a := 0) (by omega) (by omega))
theorem xmin3 {P : Nat} (h : P ≤ 3) : (if (3 : Int32) < nI P then (3 : Int32) else nI P) = nI P := if_neg (nI_nlt (a := 3) (b := P) h (by decide))
theorem xmin6 {P : Nat} (h : P ≤ 6) : (if (6 : Int32) < nI P then (6 : Int32) else nI P) = nI P := if_neg (nI_nlt (a := 6) (b := P) h (by decide))
theorem xmin24 {P : Nat} (h : P ≤ 24) : (if (24 : Int32) < nI P then (24 : Int32) else nI P) = nI P := if_neg (nI_nlt (a := 24) (b := P) h (by decide))
theorem xmin30 {P : Nat} (h : P ≤ 30) : (if (30 : Int32) < nI P then (30 : Int32) else nI P) = nI P := if_neg (nI_nlt (a := 30) (b := P) h (by decide))
theorem xmin60 {P : Nat} (h : P ≤ 60) : (if (60 : Int32) < nI P then (60 : Int32) else nI P) = nI P := if_neg (nI_nlt (a := 60) (b := P) h (by decide))
theorem c_Nums_has_14 {L : Nat} {xs : Nat → Int32} {d : Nat} {Q : Option Value → xF → Prop} {F : xF} {i : Int32}  (hQ : Q (some (.int (xb (0 ≤ i ∧ i < F 14 1)))) F) : V2 L xs d m_Nums_has 0 (xEntry [.ref 14, .int i] 2) [] F Q := by
  refine V2.to (l' := [some (.ref 14), some (.int i)]) ?_ rfl rfl rfl rfl
  refine V2_iload_n (i := 1) d_Nums_has_0 rfl rfl ?_
  refine V2_if_lt (tgt := 16) d_Nums_has_1 rfl (fun c1 => ?_) (fun c1 => ?_)
  · refine V2_iconst (v := 0) d_Nums_has_16 rfl ?_
    refine V2_zreturn d_Nums_has_17 rfl (by decide) ?_
    exact xQi hQ (by clear hQ; (try skip); (try simp only [xb_eq, xb_ne, Int32.lt_iff_toInt_lt, Int32.le_iff_toInt_le] at *); (try simp only [xb]); (repeat' split); all_goals first | rfl | omega | (exfalso; simp only [← Int32.toInt_inj] at *; omega)) rfl
  · refine V2_iload_n (i := 1) d_Nums_has_4 rfl rfl ?_
    refine V2_aload_n (i := 0) d_Nums_has_5 rfl rfl ?_
    refine V2_get (v := F 14 1) d_Nums_has_6 fl_Nums_7 (by decide) rfl (by decide) rfl rfl ?_
    refine V2_topi (fun v2 ev2 => ?_)
    refine V2_icmp_ge (tgt := 16) d_Nums_has_9 rfl (fun c3 => ?_) (fun c3 => ?_)
    · refine V2_iconst (v := 0) d_Nums_has_16 rfl ?_
      refine V2_zreturn d_Nums_has_17 rfl (by decide) ?_
      exact xQi hQ (by clear hQ; (try subst ev2); (try simp only [xb_eq, xb_ne, Int32.lt_iff_toInt_lt, Int32.le_iff_toInt_le] at *); (try simp only [xb]); (repeat' split); all_goals first | rfl | omega | (exfalso; simp only [← Int32.toInt_inj] at *; omega)) rfl
    · refine V2_iconst (v := 1) d_Nums_has_12 rfl ?_
      refine V2_goto (tgt := 17) d_Nums_has_13 rfl ?_
      refine V2_zreturn d_Nums_has_17 rfl (by decide) ?_
      exact xQi hQ (by clear hQ; (try subst ev2); (try simp only [xb_eq, xb_ne, Int32.lt_iff_toInt_lt, Int32.le_iff_toInt_le] at *); (try simp only [xb]); (repeat' split); all_goals first | rfl | omega | (exfalso; simp only [← Int32.toInt_inj] at *; omega)) rfl
theorem c_Nums_at_14 {L : Nat} {xs : Nat → Int32} {d : Nat} {Q : Option Value → xF → Prop} {F : xF} {p P : Nat} (hP : F 14 1 = nI P) (hl : P ≤ 60) (hp : p < P) (hQ : Q (some (.int (F 15 p))) F) : V2 L xs (d + 1) m_Nums_at 0 (xEntry [.ref 14, .int (nI p)] 2) [] F Q := by
  refine V2.to (l' := [some (.ref 14), some (.int (nI p))]) ?_ rfl rfl rfl rfl
  refine V2_aload_n (i := 0) d_Nums_at_0 rfl rfl ?_
  refine V2_iload_n (i := 1) d_Nums_at_1 rfl rfl ?_
  refine V2_callV [.int (nI p)] d_Nums_at_2 rfl rfl lk_Nums_23 mo_Nums_has (by decide) rfl rfl rfl (Nat.le_of_ble_eq_true rfl) (Nat.le_of_ble_eq_true rfl) ?_
  refine c_Nums_has_14 ?_
  refine V2_topi (fun v1 ev1 => ?_)
  refine V2_if_eq (tgt := 26) d_Nums_at_5 rfl (fun c2 => (by first | exact absurd c2 (show ¬ v1 = 0 from by subst ev1; rw [xb_1 ⟨nI_pos' (by omega), by rw [hP]; exact nI_lt hp (by omega)⟩]; decide) | exact absurd (show ¬ v1 = 0 from by subst ev1; rw [xb_1 ⟨nI_pos' (by omega), by rw [hP]; exact nI_lt hp (by omega)⟩]; decide) c2)) (fun c2 => ?_)
  refine V2_iload_n (i := 1) d_Nums_at_8 rfl rfl ?_
  refine V2_aload_n (i := 0) d_Nums_at_9 rfl rfl ?_
  refine V2_getr (a := 15) d_Nums_at_10 fl_Nums_19 (by decide) rfl (by decide) rfl ?_
  refine V2_alen (t := 0) (v := 60) d_Nums_at_13 (by decide) rfl (by decide) rfl ?_
  refine V2_icmp_ge (tgt := 26) d_Nums_at_14 rfl (fun c3 => (by first | exact absurd c3 (show ¬ (60 : Int32) ≤ nI p from nI_ge (a := p) (b := 60) (by omega) (by decide)) | exact absurd (show ¬ (60 : Int32) ≤ nI p from nI_ge (a := p) (b := 60) (by omega) (by decide)) c3)) (fun c3 => ?_)
  refine V2_aload_n (i := 0) d_Nums_at_17 rfl rfl ?_
  refine V2_getr (a := 15) d_Nums_at_18 fl_Nums_19 (by decide) rfl (by decide) rfl ?_
  refine V2_iload_n (i := 1) d_Nums_at_21 rfl rfl ?_
  refine V2_ialoadJ (p) d_Nums_at_22 (by decide) rfl (xixA (n := p) rfl (by omega) (by decide)) (xixB (n := p) rfl (by omega)) rfl ?_
  refine V2_topi (fun v4 ev4 => ?_)
  refine V2_goto (tgt := 27) d_Nums_at_23 rfl ?_
  refine V2_ireturn d_Nums_at_27 rfl ?_
  exact xQi hQ (by clear hQ; (try subst ev4 ev1); (try simp only [xb_eq, xb_ne, Int32.lt_iff_toInt_lt, Int32.le_iff_toInt_le] at *); (try simp only [xb]); (repeat' split); all_goals first | rfl | omega | (exfalso; simp only [← Int32.toInt_inj] at *; omega)) rfl
theorem c_Nums_hasRoom_14 {L : Nat} {xs : Nat → Int32} {d : Nat} {Q : Option Value → xF → Prop} {F : xF} {i : Int32}  (hQ : Q (some (.int (xb (i ≤ 60 - F 14 1)))) F) : V2 L xs d m_Nums_hasRoom 0 (xEntry [.ref 14, .int i] 2) [] F Q := by
  refine V2.to (l' := [some (.ref 14), some (.int i)]) ?_ rfl rfl rfl rfl
  refine V2_iload_n (i := 1) d_Nums_hasRoom_0 rfl rfl ?_
  refine V2_aload_n (i := 0) d_Nums_hasRoom_1 rfl rfl ?_
  refine V2_getr (a := 15) d_Nums_hasRoom_2 fl_Nums_19 (by decide) rfl (by decide) rfl ?_
  refine V2_alen (t := 0) (v := 60) d_Nums_hasRoom_5 (by decide) rfl (by decide) rfl ?_
  refine V2_aload_n (i := 0) d_Nums_hasRoom_6 rfl rfl ?_
  refine V2_get (v := F 14 1) d_Nums_hasRoom_7 fl_Nums_7 (by decide) rfl (by decide) rfl rfl ?_
  refine V2_topi (fun v1 ev1 => ?_)
  refine V2_isub d_Nums_hasRoom_10 ?_
  refine V2_topi (fun v2 ev2 => ?_)
  refine V2_icmp_gt (tgt := 18) d_Nums_hasRoom_11 rfl (fun c3 => ?_) (fun c3 => ?_)
  · refine V2_iconst (v := 0) d_Nums_hasRoom_18 rfl ?_
    refine V2_zreturn d_Nums_hasRoom_19 rfl (by decide) ?_
    exact xQi hQ (by subst ev2 ev1; simp_all [xb]) rfl
  · refine V2_iconst (v := 1) d_Nums_hasRoom_14 rfl ?_
    refine V2_goto (tgt := 19) d_Nums_hasRoom_15 rfl ?_
    refine V2_zreturn d_Nums_hasRoom_19 rfl (by decide) ?_
    exact xQi hQ (by subst ev2 ev1; simp_all [xb]) rfl
theorem c_Nums_add_14 {L : Nat} {xs : Nat → Int32} {d : Nat} {Q : Option Value → xF → Prop} {F : xF} {v : Int32} {P : Nat} (hP : F 14 1 = nI P) (hl : P < 60) (hQ : Q none (xp (xp F 15 P v) 14 1 (nI (P + 1)))) : V2 L xs d m_Nums_add 0 (xEntry [.ref 14, .int v] 2) [] F Q := by
  refine V2.to (l' := [some (.ref 14), some (.int v)]) ?_ rfl rfl rfl rfl
  refine V2_aload_n (i := 0) d_Nums_add_0 rfl rfl ?_
  refine V2_get (v := F 14 1) d_Nums_add_1 fl_Nums_7 (by decide) rfl (by decide) rfl rfl ?_
  refine V2_topi (fun v1 ev1 => ?_)
  refine V2_if_lt (tgt := 39) d_Nums_add_4 rfl (fun c2 => (by first | exact absurd c2 (show ¬ v1 < (0 : Int32) from by subst ev1; rw [hP]; exact nI_pos (by omega)) | exact absurd (show ¬ v1 < (0 : Int32) from by subst ev1; rw [hP]; exact nI_pos (by omega)) c2)) (fun c2 => ?_)
  refine V2_aload_n (i := 0) d_Nums_add_7 rfl rfl ?_
  refine V2_get (v := F 14 1) d_Nums_add_8 fl_Nums_7 (by decide) rfl (by decide) rfl rfl ?_
  refine V2_topi (fun v3 ev3 => ?_)
  refine V2_aload_n (i := 0) d_Nums_add_11 rfl rfl ?_
  refine V2_getr (a := 15) d_Nums_add_12 fl_Nums_19 (by decide) rfl (by decide) rfl ?_
  refine V2_alen (t := 0) (v := 60) d_Nums_add_15 (by decide) rfl (by decide) rfl ?_
  refine V2_icmp_ge (tgt := 39) d_Nums_add_16 rfl (fun c4 => (by first | exact absurd c4 (show ¬ (60 : Int32) ≤ v3 from by subst ev3 ev1; rw [hP]; exact nI_ge (b := 60) (by omega) (by decide)) | exact absurd (show ¬ (60 : Int32) ≤ v3 from by subst ev3 ev1; rw [hP]; exact nI_ge (b := 60) (by omega) (by decide)) c4)) (fun c4 => ?_)
  refine V2_aload_n (i := 0) d_Nums_add_19 rfl rfl ?_
  refine V2_getr (a := 15) d_Nums_add_20 fl_Nums_19 (by decide) rfl (by decide) rfl ?_
  refine V2_aload_n (i := 0) d_Nums_add_23 rfl rfl ?_
  refine V2_get (v := F 14 1) d_Nums_add_24 fl_Nums_7 (by decide) rfl (by decide) rfl rfl ?_
  refine V2_topi (fun v5 ev5 => ?_)
  refine V2_iload_n (i := 1) d_Nums_add_27 rfl rfl ?_
  refine V2_iastore (j := (P)) d_Nums_add_28 (by decide) rfl (xixA (n := P) (by subst ev5 ev3 ev1; exact hP) (by omega) (by decide)) (xixB (n := P) (by subst ev5 ev3 ev1; exact hP) (by omega)) ?_
  refine V2_aload_n (i := 0) d_Nums_add_29 rfl rfl ?_
  refine V2_dup d_Nums_add_30 rfl ?_
  refine V2_get (v := F 14 1) d_Nums_add_31 fl_Nums_7 (by decide) rfl (by decide) rfl rfl ?_
  refine V2_topi (fun v6 ev6 => ?_)
  refine V2_iconst (v := 1) d_Nums_add_34 rfl ?_
  refine V2_iadd d_Nums_add_35 ?_
  refine V2_topi (fun v7 ev7 => ?_)
  refine V2_put d_Nums_add_36 fl_Nums_7 (by decide) rfl (by decide) rfl ?_
  refine V2_return d_Nums_add_39 rfl ?_
  subst ev7 ev6 ev5 ev3 ev1
  rw [hP, nI_1] at *
  exact hQ
theorem c_Nums_empty_14 {L : Nat} {xs : Nat → Int32} {d : Nat} {Q : Option Value → xF → Prop} {F : xF}   (hQ : Q none (xp F 14 1 0)) : V2 L xs d m_Nums_empty 0 (xEntry [.ref 14] 1) [] F Q := by
  refine V2.to (l' := [some (.ref 14)]) ?_ rfl rfl rfl rfl
  refine V2_aload_n (i := 0) d_Nums_empty_0 rfl rfl ?_
  refine V2_iconst (v := 0) d_Nums_empty_1 rfl ?_
  refine V2_put d_Nums_empty_2 fl_Nums_7 (by decide) rfl (by decide) rfl ?_
  refine V2_return d_Nums_empty_5 rfl ?_
  exact xQv hQ rfl
theorem c_Nums_has_16 {L : Nat} {xs : Nat → Int32} {d : Nat} {Q : Option Value → xF → Prop} {F : xF} {i : Int32}  (hQ : Q (some (.int (xb (0 ≤ i ∧ i < F 16 1)))) F) : V2 L xs d m_Nums_has 0 (xEntry [.ref 16, .int i] 2) [] F Q := by
  refine V2.to (l' := [some (.ref 16), some (.int i)]) ?_ rfl rfl rfl rfl
  refine V2_iload_n (i := 1) d_Nums_has_0 rfl rfl ?_
  refine V2_if_lt (tgt := 16) d_Nums_has_1 rfl (fun c1 => ?_) (fun c1 => ?_)
  · refine V2_iconst (v := 0) d_Nums_has_16 rfl ?_
    refine V2_zreturn d_Nums_has_17 rfl (by decide) ?_
    exact xQi hQ (by clear hQ; (try skip); (try simp only [xb_eq, xb_ne, Int32.lt_iff_toInt_lt, Int32.le_iff_toInt_le] at *); (try simp only [xb]); (repeat' split); all_goals first | rfl | omega | (exfalso; simp only [← Int32.toInt_inj] at *; omega)) rfl
  · refine V2_iload_n (i := 1) d_Nums_has_4 rfl rfl ?_
    refine V2_aload_n (i := 0) d_Nums_has_5 rfl rfl ?_
    refine V2_get (v := F 16 1) d_Nums_has_6 fl_Nums_7 (by decide) rfl (by decide) rfl rfl ?_
    refine V2_topi (fun v2 ev2 => ?_)
    refine V2_icmp_ge (tgt := 16) d_Nums_has_9 rfl (fun c3 => ?_) (fun c3 => ?_)
    · refine V2_iconst (v := 0) d_Nums_has_16 rfl ?_
      refine V2_zreturn d_Nums_has_17 rfl (by decide) ?_
      exact xQi hQ (by clear hQ; (try subst ev2); (try simp only [xb_eq, xb_ne, Int32.lt_iff_toInt_lt, Int32.le_iff_toInt_le] at *); (try simp only [xb]); (repeat' split); all_goals first | rfl | omega | (exfalso; simp only [← Int32.toInt_inj] at *; omega)) rfl
    · refine V2_iconst (v := 1) d_Nums_has_12 rfl ?_
      refine V2_goto (tgt := 17) d_Nums_has_13 rfl ?_
      refine V2_zreturn d_Nums_has_17 rfl (by decide) ?_
      exact xQi hQ (by clear hQ; (try subst ev2); (try simp only [xb_eq, xb_ne, Int32.lt_iff_toInt_lt, Int32.le_iff_toInt_le] at *); (try simp only [xb]); (repeat' split); all_goals first | rfl | omega | (exfalso; simp only [← Int32.toInt_inj] at *; omega)) rfl
theorem c_Nums_at_16 {L : Nat} {xs : Nat → Int32} {d : Nat} {Q : Option Value → xF → Prop} {F : xF} {p P : Nat} (hP : F 16 1 = nI P) (hl : P ≤ 24) (hp : p < P) (hQ : Q (some (.int (F 17 p))) F) : V2 L xs (d + 1) m_Nums_at 0 (xEntry [.ref 16, .int (nI p)] 2) [] F Q := by
  refine V2.to (l' := [some (.ref 16), some (.int (nI p))]) ?_ rfl rfl rfl rfl
  refine V2_aload_n (i := 0) d_Nums_at_0 rfl rfl ?_
  refine V2_iload_n (i := 1) d_Nums_at_1 rfl rfl ?_
  refine V2_callV [.int (nI p)] d_Nums_at_2 rfl rfl lk_Nums_23 mo_Nums_has (by decide) rfl rfl rfl (Nat.le_of_ble_eq_true rfl) (Nat.le_of_ble_eq_true rfl) ?_
  refine c_Nums_has_16 ?_
  refine V2_topi (fun v1 ev1 => ?_)
  refine V2_if_eq (tgt := 26) d_Nums_at_5 rfl (fun c2 => (by first | exact absurd c2 (show ¬ v1 = 0 from by subst ev1; rw [xb_1 ⟨nI_pos' (by omega), by rw [hP]; exact nI_lt hp (by omega)⟩]; decide) | exact absurd (show ¬ v1 = 0 from by subst ev1; rw [xb_1 ⟨nI_pos' (by omega), by rw [hP]; exact nI_lt hp (by omega)⟩]; decide) c2)) (fun c2 => ?_)
  refine V2_iload_n (i := 1) d_Nums_at_8 rfl rfl ?_
  refine V2_aload_n (i := 0) d_Nums_at_9 rfl rfl ?_
  refine V2_getr (a := 17) d_Nums_at_10 fl_Nums_19 (by decide) rfl (by decide) rfl ?_
  refine V2_alen (t := 0) (v := 24) d_Nums_at_13 (by decide) rfl (by decide) rfl ?_
  refine V2_icmp_ge (tgt := 26) d_Nums_at_14 rfl (fun c3 => (by first | exact absurd c3 (show ¬ (24 : Int32) ≤ nI p from nI_ge (a := p) (b := 24) (by omega) (by decide)) | exact absurd (show ¬ (24 : Int32) ≤ nI p from nI_ge (a := p) (b := 24) (by omega) (by decide)) c3)) (fun c3 => ?_)
  refine V2_aload_n (i := 0) d_Nums_at_17 rfl rfl ?_
  refine V2_getr (a := 17) d_Nums_at_18 fl_Nums_19 (by decide) rfl (by decide) rfl ?_
  refine V2_iload_n (i := 1) d_Nums_at_21 rfl rfl ?_
  refine V2_ialoadJ (p) d_Nums_at_22 (by decide) rfl (xixA (n := p) rfl (by omega) (by decide)) (xixB (n := p) rfl (by omega)) rfl ?_
  refine V2_topi (fun v4 ev4 => ?_)
  refine V2_goto (tgt := 27) d_Nums_at_23 rfl ?_
  refine V2_ireturn d_Nums_at_27 rfl ?_
  exact xQi hQ (by clear hQ; (try subst ev4 ev1); (try simp only [xb_eq, xb_ne, Int32.lt_iff_toInt_lt, Int32.le_iff_toInt_le] at *); (try simp only [xb]); (repeat' split); all_goals first | rfl | omega | (exfalso; simp only [← Int32.toInt_inj] at *; omega)) rfl
theorem c_Nums_hasRoom_16 {L : Nat} {xs : Nat → Int32} {d : Nat} {Q : Option Value → xF → Prop} {F : xF} {i : Int32}  (hQ : Q (some (.int (xb (i ≤ 24 - F 16 1)))) F) : V2 L xs d m_Nums_hasRoom 0 (xEntry [.ref 16, .int i] 2) [] F Q := by
  refine V2.to (l' := [some (.ref 16), some (.int i)]) ?_ rfl rfl rfl rfl
  refine V2_iload_n (i := 1) d_Nums_hasRoom_0 rfl rfl ?_
  refine V2_aload_n (i := 0) d_Nums_hasRoom_1 rfl rfl ?_
  refine V2_getr (a := 17) d_Nums_hasRoom_2 fl_Nums_19 (by decide) rfl (by decide) rfl ?_
  refine V2_alen (t := 0) (v := 24) d_Nums_hasRoom_5 (by decide) rfl (by decide) rfl ?_
  refine V2_aload_n (i := 0) d_Nums_hasRoom_6 rfl rfl ?_
  refine V2_get (v := F 16 1) d_Nums_hasRoom_7 fl_Nums_7 (by decide) rfl (by decide) rfl rfl ?_
  refine V2_topi (fun v1 ev1 => ?_)
  refine V2_isub d_Nums_hasRoom_10 ?_
  refine V2_topi (fun v2 ev2 => ?_)
  refine V2_icmp_gt (tgt := 18) d_Nums_hasRoom_11 rfl (fun c3 => ?_) (fun c3 => ?_)
  · refine V2_iconst (v := 0) d_Nums_hasRoom_18 rfl ?_
    refine V2_zreturn d_Nums_hasRoom_19 rfl (by decide) ?_
    exact xQi hQ (by subst ev2 ev1; simp_all [xb]) rfl
  · refine V2_iconst (v := 1) d_Nums_hasRoom_14 rfl ?_
    refine V2_goto (tgt := 19) d_Nums_hasRoom_15 rfl ?_
    refine V2_zreturn d_Nums_hasRoom_19 rfl (by decide) ?_
    exact xQi hQ (by subst ev2 ev1; simp_all [xb]) rfl
theorem c_Nums_add_16 {L : Nat} {xs : Nat → Int32} {d : Nat} {Q : Option Value → xF → Prop} {F : xF} {v : Int32} {P : Nat} (hP : F 16 1 = nI P) (hl : P < 24) (hQ : Q none (xp (xp F 17 P v) 16 1 (nI (P + 1)))) : V2 L xs d m_Nums_add 0 (xEntry [.ref 16, .int v] 2) [] F Q := by
  refine V2.to (l' := [some (.ref 16), some (.int v)]) ?_ rfl rfl rfl rfl
  refine V2_aload_n (i := 0) d_Nums_add_0 rfl rfl ?_
  refine V2_get (v := F 16 1) d_Nums_add_1 fl_Nums_7 (by decide) rfl (by decide) rfl rfl ?_
  refine V2_topi (fun v1 ev1 => ?_)
  refine V2_if_lt (tgt := 39) d_Nums_add_4 rfl (fun c2 => (by first | exact absurd c2 (show ¬ v1 < (0 : Int32) from by subst ev1; rw [hP]; exact nI_pos (by omega)) | exact absurd (show ¬ v1 < (0 : Int32) from by subst ev1; rw [hP]; exact nI_pos (by omega)) c2)) (fun c2 => ?_)
  refine V2_aload_n (i := 0) d_Nums_add_7 rfl rfl ?_
  refine V2_get (v := F 16 1) d_Nums_add_8 fl_Nums_7 (by decide) rfl (by decide) rfl rfl ?_
  refine V2_topi (fun v3 ev3 => ?_)
  refine V2_aload_n (i := 0) d_Nums_add_11 rfl rfl ?_
  refine V2_getr (a := 17) d_Nums_add_12 fl_Nums_19 (by decide) rfl (by decide) rfl ?_
  refine V2_alen (t := 0) (v := 24) d_Nums_add_15 (by decide) rfl (by decide) rfl ?_
  refine V2_icmp_ge (tgt := 39) d_Nums_add_16 rfl (fun c4 => (by first | exact absurd c4 (show ¬ (24 : Int32) ≤ v3 from by subst ev3 ev1; rw [hP]; exact nI_ge (b := 24) (by omega) (by decide)) | exact absurd (show ¬ (24 : Int32) ≤ v3 from by subst ev3 ev1; rw [hP]; exact nI_ge (b := 24) (by omega) (by decide)) c4)) (fun c4 => ?_)
  refine V2_aload_n (i := 0) d_Nums_add_19 rfl rfl ?_
  refine V2_getr (a := 17) d_Nums_add_20 fl_Nums_19 (by decide) rfl (by decide) rfl ?_
  refine V2_aload_n (i := 0) d_Nums_add_23 rfl rfl ?_
  refine V2_get (v := F 16 1) d_Nums_add_24 fl_Nums_7 (by decide) rfl (by decide) rfl rfl ?_
  refine V2_topi (fun v5 ev5 => ?_)
  refine V2_iload_n (i := 1) d_Nums_add_27 rfl rfl ?_
  refine V2_iastore (j := (P)) d_Nums_add_28 (by decide) rfl (xixA (n := P) (by subst ev5 ev3 ev1; exact hP) (by omega) (by decide)) (xixB (n := P) (by subst ev5 ev3 ev1; exact hP) (by omega)) ?_
  refine V2_aload_n (i := 0) d_Nums_add_29 rfl rfl ?_
  refine V2_dup d_Nums_add_30 rfl ?_
  refine V2_get (v := F 16 1) d_Nums_add_31 fl_Nums_7 (by decide) rfl (by decide) rfl rfl ?_
  refine V2_topi (fun v6 ev6 => ?_)
  refine V2_iconst (v := 1) d_Nums_add_34 rfl ?_
  refine V2_iadd d_Nums_add_35 ?_
  refine V2_topi (fun v7 ev7 => ?_)
  refine V2_put d_Nums_add_36 fl_Nums_7 (by decide) rfl (by decide) rfl ?_
  refine V2_return d_Nums_add_39 rfl ?_
  subst ev7 ev6 ev5 ev3 ev1
  rw [hP, nI_1] at *
  exact hQ
theorem c_Nums_empty_16 {L : Nat} {xs : Nat → Int32} {d : Nat} {Q : Option Value → xF → Prop} {F : xF}   (hQ : Q none (xp F 16 1 0)) : V2 L xs d m_Nums_empty 0 (xEntry [.ref 16] 1) [] F Q := by
  refine V2.to (l' := [some (.ref 16)]) ?_ rfl rfl rfl rfl
  refine V2_aload_n (i := 0) d_Nums_empty_0 rfl rfl ?_
  refine V2_iconst (v := 0) d_Nums_empty_1 rfl ?_
  refine V2_put d_Nums_empty_2 fl_Nums_7 (by decide) rfl (by decide) rfl ?_
  refine V2_return d_Nums_empty_5 rfl ?_
  exact xQv hQ rfl
theorem c_Nums_has_31 {L : Nat} {xs : Nat → Int32} {d : Nat} {Q : Option Value → xF → Prop} {F : xF} {i : Int32}  (hQ : Q (some (.int (xb (0 ≤ i ∧ i < F 31 1)))) F) : V2 L xs d m_Nums_has 0 (xEntry [.ref 31, .int i] 2) [] F Q := by
  refine V2.to (l' := [some (.ref 31), some (.int i)]) ?_ rfl rfl rfl rfl
  refine V2_iload_n (i := 1) d_Nums_has_0 rfl rfl ?_
  refine V2_if_lt (tgt := 16) d_Nums_has_1 rfl (fun c1 => ?_) (fun c1 => ?_)
  · refine V2_iconst (v := 0) d_Nums_has_16 rfl ?_
    refine V2_zreturn d_Nums_has_17 rfl (by decide) ?_
    exact xQi hQ (by clear hQ; (try skip); (try simp only [xb_eq, xb_ne, Int32.lt_iff_toInt_lt, Int32.le_iff_toInt_le] at *); (try simp only [xb]); (repeat' split); all_goals first | rfl | omega | (exfalso; simp only [← Int32.toInt_inj] at *; omega)) rfl
  · refine V2_iload_n (i := 1) d_Nums_has_4 rfl rfl ?_
    refine V2_aload_n (i := 0) d_Nums_has_5 rfl rfl ?_
    refine V2_get (v := F 31 1) d_Nums_has_6 fl_Nums_7 (by decide) rfl (by decide) rfl rfl ?_
    refine V2_topi (fun v2 ev2 => ?_)
    refine V2_icmp_ge (tgt := 16) d_Nums_has_9 rfl (fun c3 => ?_) (fun c3 => ?_)
    · refine V2_iconst (v := 0) d_Nums_has_16 rfl ?_
      refine V2_zreturn d_Nums_has_17 rfl (by decide) ?_
      exact xQi hQ (by clear hQ; (try subst ev2); (try simp only [xb_eq, xb_ne, Int32.lt_iff_toInt_lt, Int32.le_iff_toInt_le] at *); (try simp only [xb]); (repeat' split); all_goals first | rfl | omega | (exfalso; simp only [← Int32.toInt_inj] at *; omega)) rfl
    · refine V2_iconst (v := 1) d_Nums_has_12 rfl ?_
      refine V2_goto (tgt := 17) d_Nums_has_13 rfl ?_
      refine V2_zreturn d_Nums_has_17 rfl (by decide) ?_
      exact xQi hQ (by clear hQ; (try subst ev2); (try simp only [xb_eq, xb_ne, Int32.lt_iff_toInt_lt, Int32.le_iff_toInt_le] at *); (try simp only [xb]); (repeat' split); all_goals first | rfl | omega | (exfalso; simp only [← Int32.toInt_inj] at *; omega)) rfl
theorem c_Nums_at_31 {L : Nat} {xs : Nat → Int32} {d : Nat} {Q : Option Value → xF → Prop} {F : xF} {p P : Nat} (hP : F 31 1 = nI P) (hl : P ≤ 60) (hp : p < P) (hQ : Q (some (.int (F 32 p))) F) : V2 L xs (d + 1) m_Nums_at 0 (xEntry [.ref 31, .int (nI p)] 2) [] F Q := by
  refine V2.to (l' := [some (.ref 31), some (.int (nI p))]) ?_ rfl rfl rfl rfl
  refine V2_aload_n (i := 0) d_Nums_at_0 rfl rfl ?_
  refine V2_iload_n (i := 1) d_Nums_at_1 rfl rfl ?_
  refine V2_callV [.int (nI p)] d_Nums_at_2 rfl rfl lk_Nums_23 mo_Nums_has (by decide) rfl rfl rfl (Nat.le_of_ble_eq_true rfl) (Nat.le_of_ble_eq_true rfl) ?_
  refine c_Nums_has_31 ?_
  refine V2_topi (fun v1 ev1 => ?_)
  refine V2_if_eq (tgt := 26) d_Nums_at_5 rfl (fun c2 => (by first | exact absurd c2 (show ¬ v1 = 0 from by subst ev1; rw [xb_1 ⟨nI_pos' (by omega), by rw [hP]; exact nI_lt hp (by omega)⟩]; decide) | exact absurd (show ¬ v1 = 0 from by subst ev1; rw [xb_1 ⟨nI_pos' (by omega), by rw [hP]; exact nI_lt hp (by omega)⟩]; decide) c2)) (fun c2 => ?_)
  refine V2_iload_n (i := 1) d_Nums_at_8 rfl rfl ?_
  refine V2_aload_n (i := 0) d_Nums_at_9 rfl rfl ?_
  refine V2_getr (a := 32) d_Nums_at_10 fl_Nums_19 (by decide) rfl (by decide) rfl ?_
  refine V2_alen (t := 0) (v := 60) d_Nums_at_13 (by decide) rfl (by decide) rfl ?_
  refine V2_icmp_ge (tgt := 26) d_Nums_at_14 rfl (fun c3 => (by first | exact absurd c3 (show ¬ (60 : Int32) ≤ nI p from nI_ge (a := p) (b := 60) (by omega) (by decide)) | exact absurd (show ¬ (60 : Int32) ≤ nI p from nI_ge (a := p) (b := 60) (by omega) (by decide)) c3)) (fun c3 => ?_)
  refine V2_aload_n (i := 0) d_Nums_at_17 rfl rfl ?_
  refine V2_getr (a := 32) d_Nums_at_18 fl_Nums_19 (by decide) rfl (by decide) rfl ?_
  refine V2_iload_n (i := 1) d_Nums_at_21 rfl rfl ?_
  refine V2_ialoadJ (p) d_Nums_at_22 (by decide) rfl (xixA (n := p) rfl (by omega) (by decide)) (xixB (n := p) rfl (by omega)) rfl ?_
  refine V2_topi (fun v4 ev4 => ?_)
  refine V2_goto (tgt := 27) d_Nums_at_23 rfl ?_
  refine V2_ireturn d_Nums_at_27 rfl ?_
  exact xQi hQ (by clear hQ; (try subst ev4 ev1); (try simp only [xb_eq, xb_ne, Int32.lt_iff_toInt_lt, Int32.le_iff_toInt_le] at *); (try simp only [xb]); (repeat' split); all_goals first | rfl | omega | (exfalso; simp only [← Int32.toInt_inj] at *; omega)) rfl
theorem c_Nums_hasRoom_31 {L : Nat} {xs : Nat → Int32} {d : Nat} {Q : Option Value → xF → Prop} {F : xF} {i : Int32}  (hQ : Q (some (.int (xb (i ≤ 60 - F 31 1)))) F) : V2 L xs d m_Nums_hasRoom 0 (xEntry [.ref 31, .int i] 2) [] F Q := by
  refine V2.to (l' := [some (.ref 31), some (.int i)]) ?_ rfl rfl rfl rfl
  refine V2_iload_n (i := 1) d_Nums_hasRoom_0 rfl rfl ?_
  refine V2_aload_n (i := 0) d_Nums_hasRoom_1 rfl rfl ?_
  refine V2_getr (a := 32) d_Nums_hasRoom_2 fl_Nums_19 (by decide) rfl (by decide) rfl ?_
  refine V2_alen (t := 0) (v := 60) d_Nums_hasRoom_5 (by decide) rfl (by decide) rfl ?_
  refine V2_aload_n (i := 0) d_Nums_hasRoom_6 rfl rfl ?_
  refine V2_get (v := F 31 1) d_Nums_hasRoom_7 fl_Nums_7 (by decide) rfl (by decide) rfl rfl ?_
  refine V2_topi (fun v1 ev1 => ?_)
  refine V2_isub d_Nums_hasRoom_10 ?_
  refine V2_topi (fun v2 ev2 => ?_)
  refine V2_icmp_gt (tgt := 18) d_Nums_hasRoom_11 rfl (fun c3 => ?_) (fun c3 => ?_)
  · refine V2_iconst (v := 0) d_Nums_hasRoom_18 rfl ?_
    refine V2_zreturn d_Nums_hasRoom_19 rfl (by decide) ?_
    exact xQi hQ (by subst ev2 ev1; simp_all [xb]) rfl
  · refine V2_iconst (v := 1) d_Nums_hasRoom_14 rfl ?_
    refine V2_goto (tgt := 19) d_Nums_hasRoom_15 rfl ?_
    refine V2_zreturn d_Nums_hasRoom_19 rfl (by decide) ?_
    exact xQi hQ (by subst ev2 ev1; simp_all [xb]) rfl
theorem c_Nums_add_31 {L : Nat} {xs : Nat → Int32} {d : Nat} {Q : Option Value → xF → Prop} {F : xF} {v : Int32} {P : Nat} (hP : F 31 1 = nI P) (hl : P < 60) (hQ : Q none (xp (xp F 32 P v) 31 1 (nI (P + 1)))) : V2 L xs d m_Nums_add 0 (xEntry [.ref 31, .int v] 2) [] F Q := by
  refine V2.to (l' := [some (.ref 31), some (.int v)]) ?_ rfl rfl rfl rfl
  refine V2_aload_n (i := 0) d_Nums_add_0 rfl rfl ?_
  refine V2_get (v := F 31 1) d_Nums_add_1 fl_Nums_7 (by decide) rfl (by decide) rfl rfl ?_
  refine V2_topi (fun v1 ev1 => ?_)
  refine V2_if_lt (tgt := 39) d_Nums_add_4 rfl (fun c2 => (by first | exact absurd c2 (show ¬ v1 < (0 : Int32) from by subst ev1; rw [hP]; exact nI_pos (by omega)) | exact absurd (show ¬ v1 < (0 : Int32) from by subst ev1; rw [hP]; exact nI_pos (by omega)) c2)) (fun c2 => ?_)
  refine V2_aload_n (i := 0) d_Nums_add_7 rfl rfl ?_
  refine V2_get (v := F 31 1) d_Nums_add_8 fl_Nums_7 (by decide) rfl (by decide) rfl rfl ?_
  refine V2_topi (fun v3 ev3 => ?_)
  refine V2_aload_n (i := 0) d_Nums_add_11 rfl rfl ?_
  refine V2_getr (a := 32) d_Nums_add_12 fl_Nums_19 (by decide) rfl (by decide) rfl ?_
  refine V2_alen (t := 0) (v := 60) d_Nums_add_15 (by decide) rfl (by decide) rfl ?_
  refine V2_icmp_ge (tgt := 39) d_Nums_add_16 rfl (fun c4 => (by first | exact absurd c4 (show ¬ (60 : Int32) ≤ v3 from by subst ev3 ev1; rw [hP]; exact nI_ge (b := 60) (by omega) (by decide)) | exact absurd (show ¬ (60 : Int32) ≤ v3 from by subst ev3 ev1; rw [hP]; exact nI_ge (b := 60) (by omega) (by decide)) c4)) (fun c4 => ?_)
  refine V2_aload_n (i := 0) d_Nums_add_19 rfl rfl ?_
  refine V2_getr (a := 32) d_Nums_add_20 fl_Nums_19 (by decide) rfl (by decide) rfl ?_
  refine V2_aload_n (i := 0) d_Nums_add_23 rfl rfl ?_
  refine V2_get (v := F 31 1) d_Nums_add_24 fl_Nums_7 (by decide) rfl (by decide) rfl rfl ?_
  refine V2_topi (fun v5 ev5 => ?_)
  refine V2_iload_n (i := 1) d_Nums_add_27 rfl rfl ?_
  refine V2_iastore (j := (P)) d_Nums_add_28 (by decide) rfl (xixA (n := P) (by subst ev5 ev3 ev1; exact hP) (by omega) (by decide)) (xixB (n := P) (by subst ev5 ev3 ev1; exact hP) (by omega)) ?_
  refine V2_aload_n (i := 0) d_Nums_add_29 rfl rfl ?_
  refine V2_dup d_Nums_add_30 rfl ?_
  refine V2_get (v := F 31 1) d_Nums_add_31 fl_Nums_7 (by decide) rfl (by decide) rfl rfl ?_
  refine V2_topi (fun v6 ev6 => ?_)
  refine V2_iconst (v := 1) d_Nums_add_34 rfl ?_
  refine V2_iadd d_Nums_add_35 ?_
  refine V2_topi (fun v7 ev7 => ?_)
  refine V2_put d_Nums_add_36 fl_Nums_7 (by decide) rfl (by decide) rfl ?_
  refine V2_return d_Nums_add_39 rfl ?_
  subst ev7 ev6 ev5 ev3 ev1
  rw [hP, nI_1] at *
  exact hQ
theorem c_Nums_empty_31 {L : Nat} {xs : Nat → Int32} {d : Nat} {Q : Option Value → xF → Prop} {F : xF}   (hQ : Q none (xp F 31 1 0)) : V2 L xs d m_Nums_empty 0 (xEntry [.ref 31] 1) [] F Q := by
  refine V2.to (l' := [some (.ref 31)]) ?_ rfl rfl rfl rfl
  refine V2_aload_n (i := 0) d_Nums_empty_0 rfl rfl ?_
  refine V2_iconst (v := 0) d_Nums_empty_1 rfl ?_
  refine V2_put d_Nums_empty_2 fl_Nums_7 (by decide) rfl (by decide) rfl ?_
  refine V2_return d_Nums_empty_5 rfl ?_
  exact xQv hQ rfl
theorem c_Nums_has_33 {L : Nat} {xs : Nat → Int32} {d : Nat} {Q : Option Value → xF → Prop} {F : xF} {i : Int32}  (hQ : Q (some (.int (xb (0 ≤ i ∧ i < F 33 1)))) F) : V2 L xs d m_Nums_has 0 (xEntry [.ref 33, .int i] 2) [] F Q := by
  refine V2.to (l' := [some (.ref 33), some (.int i)]) ?_ rfl rfl rfl rfl
  refine V2_iload_n (i := 1) d_Nums_has_0 rfl rfl ?_
  refine V2_if_lt (tgt := 16) d_Nums_has_1 rfl (fun c1 => ?_) (fun c1 => ?_)
  · refine V2_iconst (v := 0) d_Nums_has_16 rfl ?_
    refine V2_zreturn d_Nums_has_17 rfl (by decide) ?_
    exact xQi hQ (by clear hQ; (try skip); (try simp only [xb_eq, xb_ne, Int32.lt_iff_toInt_lt, Int32.le_iff_toInt_le] at *); (try simp only [xb]); (repeat' split); all_goals first | rfl | omega | (exfalso; simp only [← Int32.toInt_inj] at *; omega)) rfl
  · refine V2_iload_n (i := 1) d_Nums_has_4 rfl rfl ?_
    refine V2_aload_n (i := 0) d_Nums_has_5 rfl rfl ?_
    refine V2_get (v := F 33 1) d_Nums_has_6 fl_Nums_7 (by decide) rfl (by decide) rfl rfl ?_
    refine V2_topi (fun v2 ev2 => ?_)
    refine V2_icmp_ge (tgt := 16) d_Nums_has_9 rfl (fun c3 => ?_) (fun c3 => ?_)
    · refine V2_iconst (v := 0) d_Nums_has_16 rfl ?_
      refine V2_zreturn d_Nums_has_17 rfl (by decide) ?_
      exact xQi hQ (by clear hQ; (try subst ev2); (try simp only [xb_eq, xb_ne, Int32.lt_iff_toInt_lt, Int32.le_iff_toInt_le] at *); (try simp only [xb]); (repeat' split); all_goals first | rfl | omega | (exfalso; simp only [← Int32.toInt_inj] at *; omega)) rfl
    · refine V2_iconst (v := 1) d_Nums_has_12 rfl ?_
      refine V2_goto (tgt := 17) d_Nums_has_13 rfl ?_
      refine V2_zreturn d_Nums_has_17 rfl (by decide) ?_
      exact xQi hQ (by clear hQ; (try subst ev2); (try simp only [xb_eq, xb_ne, Int32.lt_iff_toInt_lt, Int32.le_iff_toInt_le] at *); (try simp only [xb]); (repeat' split); all_goals first | rfl | omega | (exfalso; simp only [← Int32.toInt_inj] at *; omega)) rfl
theorem c_Nums_at_33 {L : Nat} {xs : Nat → Int32} {d : Nat} {Q : Option Value → xF → Prop} {F : xF} {p P : Nat} (hP : F 33 1 = nI P) (hl : P ≤ 24) (hp : p < P) (hQ : Q (some (.int (F 34 p))) F) : V2 L xs (d + 1) m_Nums_at 0 (xEntry [.ref 33, .int (nI p)] 2) [] F Q := by
  refine V2.to (l' := [some (.ref 33), some (.int (nI p))]) ?_ rfl rfl rfl rfl
  refine V2_aload_n (i := 0) d_Nums_at_0 rfl rfl ?_
  refine V2_iload_n (i := 1) d_Nums_at_1 rfl rfl ?_
  refine V2_callV [.int (nI p)] d_Nums_at_2 rfl rfl lk_Nums_23 mo_Nums_has (by decide) rfl rfl rfl (Nat.le_of_ble_eq_true rfl) (Nat.le_of_ble_eq_true rfl) ?_
  refine c_Nums_has_33 ?_
  refine V2_topi (fun v1 ev1 => ?_)
  refine V2_if_eq (tgt := 26) d_Nums_at_5 rfl (fun c2 => (by first | exact absurd c2 (show ¬ v1 = 0 from by subst ev1; rw [xb_1 ⟨nI_pos' (by omega), by rw [hP]; exact nI_lt hp (by omega)⟩]; decide) | exact absurd (show ¬ v1 = 0 from by subst ev1; rw [xb_1 ⟨nI_pos' (by omega), by rw [hP]; exact nI_lt hp (by omega)⟩]; decide) c2)) (fun c2 => ?_)
  refine V2_iload_n (i := 1) d_Nums_at_8 rfl rfl ?_
  refine V2_aload_n (i := 0) d_Nums_at_9 rfl rfl ?_
  refine V2_getr (a := 34) d_Nums_at_10 fl_Nums_19 (by decide) rfl (by decide) rfl ?_
  refine V2_alen (t := 0) (v := 24) d_Nums_at_13 (by decide) rfl (by decide) rfl ?_
  refine V2_icmp_ge (tgt := 26) d_Nums_at_14 rfl (fun c3 => (by first | exact absurd c3 (show ¬ (24 : Int32) ≤ nI p from nI_ge (a := p) (b := 24) (by omega) (by decide)) | exact absurd (show ¬ (24 : Int32) ≤ nI p from nI_ge (a := p) (b := 24) (by omega) (by decide)) c3)) (fun c3 => ?_)
  refine V2_aload_n (i := 0) d_Nums_at_17 rfl rfl ?_
  refine V2_getr (a := 34) d_Nums_at_18 fl_Nums_19 (by decide) rfl (by decide) rfl ?_
  refine V2_iload_n (i := 1) d_Nums_at_21 rfl rfl ?_
  refine V2_ialoadJ (p) d_Nums_at_22 (by decide) rfl (xixA (n := p) rfl (by omega) (by decide)) (xixB (n := p) rfl (by omega)) rfl ?_
  refine V2_topi (fun v4 ev4 => ?_)
  refine V2_goto (tgt := 27) d_Nums_at_23 rfl ?_
  refine V2_ireturn d_Nums_at_27 rfl ?_
  exact xQi hQ (by clear hQ; (try subst ev4 ev1); (try simp only [xb_eq, xb_ne, Int32.lt_iff_toInt_lt, Int32.le_iff_toInt_le] at *); (try simp only [xb]); (repeat' split); all_goals first | rfl | omega | (exfalso; simp only [← Int32.toInt_inj] at *; omega)) rfl
theorem c_Nums_hasRoom_33 {L : Nat} {xs : Nat → Int32} {d : Nat} {Q : Option Value → xF → Prop} {F : xF} {i : Int32}  (hQ : Q (some (.int (xb (i ≤ 24 - F 33 1)))) F) : V2 L xs d m_Nums_hasRoom 0 (xEntry [.ref 33, .int i] 2) [] F Q := by
  refine V2.to (l' := [some (.ref 33), some (.int i)]) ?_ rfl rfl rfl rfl
  refine V2_iload_n (i := 1) d_Nums_hasRoom_0 rfl rfl ?_
  refine V2_aload_n (i := 0) d_Nums_hasRoom_1 rfl rfl ?_
  refine V2_getr (a := 34) d_Nums_hasRoom_2 fl_Nums_19 (by decide) rfl (by decide) rfl ?_
  refine V2_alen (t := 0) (v := 24) d_Nums_hasRoom_5 (by decide) rfl (by decide) rfl ?_
  refine V2_aload_n (i := 0) d_Nums_hasRoom_6 rfl rfl ?_
  refine V2_get (v := F 33 1) d_Nums_hasRoom_7 fl_Nums_7 (by decide) rfl (by decide) rfl rfl ?_
  refine V2_topi (fun v1 ev1 => ?_)
  refine V2_isub d_Nums_hasRoom_10 ?_
  refine V2_topi (fun v2 ev2 => ?_)
  refine V2_icmp_gt (tgt := 18) d_Nums_hasRoom_11 rfl (fun c3 => ?_) (fun c3 => ?_)
  · refine V2_iconst (v := 0) d_Nums_hasRoom_18 rfl ?_
    refine V2_zreturn d_Nums_hasRoom_19 rfl (by decide) ?_
    exact xQi hQ (by subst ev2 ev1; simp_all [xb]) rfl
  · refine V2_iconst (v := 1) d_Nums_hasRoom_14 rfl ?_
    refine V2_goto (tgt := 19) d_Nums_hasRoom_15 rfl ?_
    refine V2_zreturn d_Nums_hasRoom_19 rfl (by decide) ?_
    exact xQi hQ (by subst ev2 ev1; simp_all [xb]) rfl
theorem c_Nums_add_33 {L : Nat} {xs : Nat → Int32} {d : Nat} {Q : Option Value → xF → Prop} {F : xF} {v : Int32} {P : Nat} (hP : F 33 1 = nI P) (hl : P < 24) (hQ : Q none (xp (xp F 34 P v) 33 1 (nI (P + 1)))) : V2 L xs d m_Nums_add 0 (xEntry [.ref 33, .int v] 2) [] F Q := by
  refine V2.to (l' := [some (.ref 33), some (.int v)]) ?_ rfl rfl rfl rfl
  refine V2_aload_n (i := 0) d_Nums_add_0 rfl rfl ?_
  refine V2_get (v := F 33 1) d_Nums_add_1 fl_Nums_7 (by decide) rfl (by decide) rfl rfl ?_
  refine V2_topi (fun v1 ev1 => ?_)
  refine V2_if_lt (tgt := 39) d_Nums_add_4 rfl (fun c2 => (by first | exact absurd c2 (show ¬ v1 < (0 : Int32) from by subst ev1; rw [hP]; exact nI_pos (by omega)) | exact absurd (show ¬ v1 < (0 : Int32) from by subst ev1; rw [hP]; exact nI_pos (by omega)) c2)) (fun c2 => ?_)
  refine V2_aload_n (i := 0) d_Nums_add_7 rfl rfl ?_
  refine V2_get (v := F 33 1) d_Nums_add_8 fl_Nums_7 (by decide) rfl (by decide) rfl rfl ?_
  refine V2_topi (fun v3 ev3 => ?_)
  refine V2_aload_n (i := 0) d_Nums_add_11 rfl rfl ?_
  refine V2_getr (a := 34) d_Nums_add_12 fl_Nums_19 (by decide) rfl (by decide) rfl ?_
  refine V2_alen (t := 0) (v := 24) d_Nums_add_15 (by decide) rfl (by decide) rfl ?_
  refine V2_icmp_ge (tgt := 39) d_Nums_add_16 rfl (fun c4 => (by first | exact absurd c4 (show ¬ (24 : Int32) ≤ v3 from by subst ev3 ev1; rw [hP]; exact nI_ge (b := 24) (by omega) (by decide)) | exact absurd (show ¬ (24 : Int32) ≤ v3 from by subst ev3 ev1; rw [hP]; exact nI_ge (b := 24) (by omega) (by decide)) c4)) (fun c4 => ?_)
  refine V2_aload_n (i := 0) d_Nums_add_19 rfl rfl ?_
  refine V2_getr (a := 34) d_Nums_add_20 fl_Nums_19 (by decide) rfl (by decide) rfl ?_
  refine V2_aload_n (i := 0) d_Nums_add_23 rfl rfl ?_
  refine V2_get (v := F 33 1) d_Nums_add_24 fl_Nums_7 (by decide) rfl (by decide) rfl rfl ?_
  refine V2_topi (fun v5 ev5 => ?_)
  refine V2_iload_n (i := 1) d_Nums_add_27 rfl rfl ?_
  refine V2_iastore (j := (P)) d_Nums_add_28 (by decide) rfl (xixA (n := P) (by subst ev5 ev3 ev1; exact hP) (by omega) (by decide)) (xixB (n := P) (by subst ev5 ev3 ev1; exact hP) (by omega)) ?_
  refine V2_aload_n (i := 0) d_Nums_add_29 rfl rfl ?_
  refine V2_dup d_Nums_add_30 rfl ?_
  refine V2_get (v := F 33 1) d_Nums_add_31 fl_Nums_7 (by decide) rfl (by decide) rfl rfl ?_
  refine V2_topi (fun v6 ev6 => ?_)
  refine V2_iconst (v := 1) d_Nums_add_34 rfl ?_
  refine V2_iadd d_Nums_add_35 ?_
  refine V2_topi (fun v7 ev7 => ?_)
  refine V2_put d_Nums_add_36 fl_Nums_7 (by decide) rfl (by decide) rfl ?_
  refine V2_return d_Nums_add_39 rfl ?_
  subst ev7 ev6 ev5 ev3 ev1
  rw [hP, nI_1] at *
  exact hQ
theorem c_Nums_empty_33 {L : Nat} {xs : Nat → Int32} {d : Nat} {Q : Option Value → xF → Prop} {F : xF}   (hQ : Q none (xp F 33 1 0)) : V2 L xs d m_Nums_empty 0 (xEntry [.ref 33] 1) [] F Q := by
  refine V2.to (l' := [some (.ref 33)]) ?_ rfl rfl rfl rfl
  refine V2_aload_n (i := 0) d_Nums_empty_0 rfl rfl ?_
  refine V2_iconst (v := 0) d_Nums_empty_1 rfl ?_
  refine V2_put d_Nums_empty_2 fl_Nums_7 (by decide) rfl (by decide) rfl ?_
  refine V2_return d_Nums_empty_5 rfl ?_
  exact xQv hQ rfl
theorem c_Nums_has_38 {L : Nat} {xs : Nat → Int32} {d : Nat} {Q : Option Value → xF → Prop} {F : xF} {i : Int32}  (hQ : Q (some (.int (xb (0 ≤ i ∧ i < F 38 1)))) F) : V2 L xs d m_Nums_has 0 (xEntry [.ref 38, .int i] 2) [] F Q := by
  refine V2.to (l' := [some (.ref 38), some (.int i)]) ?_ rfl rfl rfl rfl
  refine V2_iload_n (i := 1) d_Nums_has_0 rfl rfl ?_
  refine V2_if_lt (tgt := 16) d_Nums_has_1 rfl (fun c1 => ?_) (fun c1 => ?_)
  · refine V2_iconst (v := 0) d_Nums_has_16 rfl ?_
    refine V2_zreturn d_Nums_has_17 rfl (by decide) ?_
    exact xQi hQ (by clear hQ; (try skip); (try simp only [xb_eq, xb_ne, Int32.lt_iff_toInt_lt, Int32.le_iff_toInt_le] at *); (try simp only [xb]); (repeat' split); all_goals first | rfl | omega | (exfalso; simp only [← Int32.toInt_inj] at *; omega)) rfl
  · refine V2_iload_n (i := 1) d_Nums_has_4 rfl rfl ?_
    refine V2_aload_n (i := 0) d_Nums_has_5 rfl rfl ?_
    refine V2_get (v := F 38 1) d_Nums_has_6 fl_Nums_7 (by decide) rfl (by decide) rfl rfl ?_
    refine V2_topi (fun v2 ev2 => ?_)
    refine V2_icmp_ge (tgt := 16) d_Nums_has_9 rfl (fun c3 => ?_) (fun c3 => ?_)
    · refine V2_iconst (v := 0) d_Nums_has_16 rfl ?_
      refine V2_zreturn d_Nums_has_17 rfl (by decide) ?_
      exact xQi hQ (by clear hQ; (try subst ev2); (try simp only [xb_eq, xb_ne, Int32.lt_iff_toInt_lt, Int32.le_iff_toInt_le] at *); (try simp only [xb]); (repeat' split); all_goals first | rfl | omega | (exfalso; simp only [← Int32.toInt_inj] at *; omega)) rfl
    · refine V2_iconst (v := 1) d_Nums_has_12 rfl ?_
      refine V2_goto (tgt := 17) d_Nums_has_13 rfl ?_
      refine V2_zreturn d_Nums_has_17 rfl (by decide) ?_
      exact xQi hQ (by clear hQ; (try subst ev2); (try simp only [xb_eq, xb_ne, Int32.lt_iff_toInt_lt, Int32.le_iff_toInt_le] at *); (try simp only [xb]); (repeat' split); all_goals first | rfl | omega | (exfalso; simp only [← Int32.toInt_inj] at *; omega)) rfl
theorem c_Nums_at_38 {L : Nat} {xs : Nat → Int32} {d : Nat} {Q : Option Value → xF → Prop} {F : xF} {p P : Nat} (hP : F 38 1 = nI P) (hl : P ≤ 3) (hp : p < P) (hQ : Q (some (.int (F 39 p))) F) : V2 L xs (d + 1) m_Nums_at 0 (xEntry [.ref 38, .int (nI p)] 2) [] F Q := by
  refine V2.to (l' := [some (.ref 38), some (.int (nI p))]) ?_ rfl rfl rfl rfl
  refine V2_aload_n (i := 0) d_Nums_at_0 rfl rfl ?_
  refine V2_iload_n (i := 1) d_Nums_at_1 rfl rfl ?_
  refine V2_callV [.int (nI p)] d_Nums_at_2 rfl rfl lk_Nums_23 mo_Nums_has (by decide) rfl rfl rfl (Nat.le_of_ble_eq_true rfl) (Nat.le_of_ble_eq_true rfl) ?_
  refine c_Nums_has_38 ?_
  refine V2_topi (fun v1 ev1 => ?_)
  refine V2_if_eq (tgt := 26) d_Nums_at_5 rfl (fun c2 => (by first | exact absurd c2 (show ¬ v1 = 0 from by subst ev1; rw [xb_1 ⟨nI_pos' (by omega), by rw [hP]; exact nI_lt hp (by omega)⟩]; decide) | exact absurd (show ¬ v1 = 0 from by subst ev1; rw [xb_1 ⟨nI_pos' (by omega), by rw [hP]; exact nI_lt hp (by omega)⟩]; decide) c2)) (fun c2 => ?_)
  refine V2_iload_n (i := 1) d_Nums_at_8 rfl rfl ?_
  refine V2_aload_n (i := 0) d_Nums_at_9 rfl rfl ?_
  refine V2_getr (a := 39) d_Nums_at_10 fl_Nums_19 (by decide) rfl (by decide) rfl ?_
  refine V2_alen (t := 0) (v := 3) d_Nums_at_13 (by decide) rfl (by decide) rfl ?_
  refine V2_icmp_ge (tgt := 26) d_Nums_at_14 rfl (fun c3 => (by first | exact absurd c3 (show ¬ (3 : Int32) ≤ nI p from nI_ge (a := p) (b := 3) (by omega) (by decide)) | exact absurd (show ¬ (3 : Int32) ≤ nI p from nI_ge (a := p) (b := 3) (by omega) (by decide)) c3)) (fun c3 => ?_)
  refine V2_aload_n (i := 0) d_Nums_at_17 rfl rfl ?_
  refine V2_getr (a := 39) d_Nums_at_18 fl_Nums_19 (by decide) rfl (by decide) rfl ?_
  refine V2_iload_n (i := 1) d_Nums_at_21 rfl rfl ?_
  refine V2_ialoadJ (p) d_Nums_at_22 (by decide) rfl (xixA (n := p) rfl (by omega) (by decide)) (xixB (n := p) rfl (by omega)) rfl ?_
  refine V2_topi (fun v4 ev4 => ?_)
  refine V2_goto (tgt := 27) d_Nums_at_23 rfl ?_
  refine V2_ireturn d_Nums_at_27 rfl ?_
  exact xQi hQ (by clear hQ; (try subst ev4 ev1); (try simp only [xb_eq, xb_ne, Int32.lt_iff_toInt_lt, Int32.le_iff_toInt_le] at *); (try simp only [xb]); (repeat' split); all_goals first | rfl | omega | (exfalso; simp only [← Int32.toInt_inj] at *; omega)) rfl
theorem c_Nums_hasRoom_38 {L : Nat} {xs : Nat → Int32} {d : Nat} {Q : Option Value → xF → Prop} {F : xF} {i : Int32}  (hQ : Q (some (.int (xb (i ≤ 3 - F 38 1)))) F) : V2 L xs d m_Nums_hasRoom 0 (xEntry [.ref 38, .int i] 2) [] F Q := by
  refine V2.to (l' := [some (.ref 38), some (.int i)]) ?_ rfl rfl rfl rfl
  refine V2_iload_n (i := 1) d_Nums_hasRoom_0 rfl rfl ?_
  refine V2_aload_n (i := 0) d_Nums_hasRoom_1 rfl rfl ?_
  refine V2_getr (a := 39) d_Nums_hasRoom_2 fl_Nums_19 (by decide) rfl (by decide) rfl ?_
  refine V2_alen (t := 0) (v := 3) d_Nums_hasRoom_5 (by decide) rfl (by decide) rfl ?_
  refine V2_aload_n (i := 0) d_Nums_hasRoom_6 rfl rfl ?_
  refine V2_get (v := F 38 1) d_Nums_hasRoom_7 fl_Nums_7 (by decide) rfl (by decide) rfl rfl ?_
  refine V2_topi (fun v1 ev1 => ?_)
  refine V2_isub d_Nums_hasRoom_10 ?_
  refine V2_topi (fun v2 ev2 => ?_)
  refine V2_icmp_gt (tgt := 18) d_Nums_hasRoom_11 rfl (fun c3 => ?_) (fun c3 => ?_)
  · refine V2_iconst (v := 0) d_Nums_hasRoom_18 rfl ?_
    refine V2_zreturn d_Nums_hasRoom_19 rfl (by decide) ?_
    exact xQi hQ (by subst ev2 ev1; simp_all [xb]) rfl
  · refine V2_iconst (v := 1) d_Nums_hasRoom_14 rfl ?_
    refine V2_goto (tgt := 19) d_Nums_hasRoom_15 rfl ?_
    refine V2_zreturn d_Nums_hasRoom_19 rfl (by decide) ?_
    exact xQi hQ (by subst ev2 ev1; simp_all [xb]) rfl
theorem c_Nums_add_38 {L : Nat} {xs : Nat → Int32} {d : Nat} {Q : Option Value → xF → Prop} {F : xF} {v : Int32} {P : Nat} (hP : F 38 1 = nI P) (hl : P < 3) (hQ : Q none (xp (xp F 39 P v) 38 1 (nI (P + 1)))) : V2 L xs d m_Nums_add 0 (xEntry [.ref 38, .int v] 2) [] F Q := by
  refine V2.to (l' := [some (.ref 38), some (.int v)]) ?_ rfl rfl rfl rfl
  refine V2_aload_n (i := 0) d_Nums_add_0 rfl rfl ?_
  refine V2_get (v := F 38 1) d_Nums_add_1 fl_Nums_7 (by decide) rfl (by decide) rfl rfl ?_
  refine V2_topi (fun v1 ev1 => ?_)
  refine V2_if_lt (tgt := 39) d_Nums_add_4 rfl (fun c2 => (by first | exact absurd c2 (show ¬ v1 < (0 : Int32) from by subst ev1; rw [hP]; exact nI_pos (by omega)) | exact absurd (show ¬ v1 < (0 : Int32) from by subst ev1; rw [hP]; exact nI_pos (by omega)) c2)) (fun c2 => ?_)
  refine V2_aload_n (i := 0) d_Nums_add_7 rfl rfl ?_
  refine V2_get (v := F 38 1) d_Nums_add_8 fl_Nums_7 (by decide) rfl (by decide) rfl rfl ?_
  refine V2_topi (fun v3 ev3 => ?_)
  refine V2_aload_n (i := 0) d_Nums_add_11 rfl rfl ?_
  refine V2_getr (a := 39) d_Nums_add_12 fl_Nums_19 (by decide) rfl (by decide) rfl ?_
  refine V2_alen (t := 0) (v := 3) d_Nums_add_15 (by decide) rfl (by decide) rfl ?_
  refine V2_icmp_ge (tgt := 39) d_Nums_add_16 rfl (fun c4 => (by first | exact absurd c4 (show ¬ (3 : Int32) ≤ v3 from by subst ev3 ev1; rw [hP]; exact nI_ge (b := 3) (by omega) (by decide)) | exact absurd (show ¬ (3 : Int32) ≤ v3 from by subst ev3 ev1; rw [hP]; exact nI_ge (b := 3) (by omega) (by decide)) c4)) (fun c4 => ?_)
  refine V2_aload_n (i := 0) d_Nums_add_19 rfl rfl ?_
  refine V2_getr (a := 39) d_Nums_add_20 fl_Nums_19 (by decide) rfl (by decide) rfl ?_
  refine V2_aload_n (i := 0) d_Nums_add_23 rfl rfl ?_
  refine V2_get (v := F 38 1) d_Nums_add_24 fl_Nums_7 (by decide) rfl (by decide) rfl rfl ?_
  refine V2_topi (fun v5 ev5 => ?_)
  refine V2_iload_n (i := 1) d_Nums_add_27 rfl rfl ?_
  refine V2_iastore (j := (P)) d_Nums_add_28 (by decide) rfl (xixA (n := P) (by subst ev5 ev3 ev1; exact hP) (by omega) (by decide)) (xixB (n := P) (by subst ev5 ev3 ev1; exact hP) (by omega)) ?_
  refine V2_aload_n (i := 0) d_Nums_add_29 rfl rfl ?_
  refine V2_dup d_Nums_add_30 rfl ?_
  refine V2_get (v := F 38 1) d_Nums_add_31 fl_Nums_7 (by decide) rfl (by decide) rfl rfl ?_
  refine V2_topi (fun v6 ev6 => ?_)
  refine V2_iconst (v := 1) d_Nums_add_34 rfl ?_
  refine V2_iadd d_Nums_add_35 ?_
  refine V2_topi (fun v7 ev7 => ?_)
  refine V2_put d_Nums_add_36 fl_Nums_7 (by decide) rfl (by decide) rfl ?_
  refine V2_return d_Nums_add_39 rfl ?_
  subst ev7 ev6 ev5 ev3 ev1
  rw [hP, nI_1] at *
  exact hQ
theorem c_Nums_empty_38 {L : Nat} {xs : Nat → Int32} {d : Nat} {Q : Option Value → xF → Prop} {F : xF}   (hQ : Q none (xp F 38 1 0)) : V2 L xs d m_Nums_empty 0 (xEntry [.ref 38] 1) [] F Q := by
  refine V2.to (l' := [some (.ref 38)]) ?_ rfl rfl rfl rfl
  refine V2_aload_n (i := 0) d_Nums_empty_0 rfl rfl ?_
  refine V2_iconst (v := 0) d_Nums_empty_1 rfl ?_
  refine V2_put d_Nums_empty_2 fl_Nums_7 (by decide) rfl (by decide) rfl ?_
  refine V2_return d_Nums_empty_5 rfl ?_
  exact xQv hQ rfl
theorem c_Nums_has_48 {L : Nat} {xs : Nat → Int32} {d : Nat} {Q : Option Value → xF → Prop} {F : xF} {i : Int32}  (hQ : Q (some (.int (xb (0 ≤ i ∧ i < F 48 1)))) F) : V2 L xs d m_Nums_has 0 (xEntry [.ref 48, .int i] 2) [] F Q := by
  refine V2.to (l' := [some (.ref 48), some (.int i)]) ?_ rfl rfl rfl rfl
  refine V2_iload_n (i := 1) d_Nums_has_0 rfl rfl ?_
  refine V2_if_lt (tgt := 16) d_Nums_has_1 rfl (fun c1 => ?_) (fun c1 => ?_)
  · refine V2_iconst (v := 0) d_Nums_has_16 rfl ?_
    refine V2_zreturn d_Nums_has_17 rfl (by decide) ?_
    exact xQi hQ (by clear hQ; (try skip); (try simp only [xb_eq, xb_ne, Int32.lt_iff_toInt_lt, Int32.le_iff_toInt_le] at *); (try simp only [xb]); (repeat' split); all_goals first | rfl | omega | (exfalso; simp only [← Int32.toInt_inj] at *; omega)) rfl
  · refine V2_iload_n (i := 1) d_Nums_has_4 rfl rfl ?_
    refine V2_aload_n (i := 0) d_Nums_has_5 rfl rfl ?_
    refine V2_get (v := F 48 1) d_Nums_has_6 fl_Nums_7 (by decide) rfl (by decide) rfl rfl ?_
    refine V2_topi (fun v2 ev2 => ?_)
    refine V2_icmp_ge (tgt := 16) d_Nums_has_9 rfl (fun c3 => ?_) (fun c3 => ?_)
    · refine V2_iconst (v := 0) d_Nums_has_16 rfl ?_
      refine V2_zreturn d_Nums_has_17 rfl (by decide) ?_
      exact xQi hQ (by clear hQ; (try subst ev2); (try simp only [xb_eq, xb_ne, Int32.lt_iff_toInt_lt, Int32.le_iff_toInt_le] at *); (try simp only [xb]); (repeat' split); all_goals first | rfl | omega | (exfalso; simp only [← Int32.toInt_inj] at *; omega)) rfl
    · refine V2_iconst (v := 1) d_Nums_has_12 rfl ?_
      refine V2_goto (tgt := 17) d_Nums_has_13 rfl ?_
      refine V2_zreturn d_Nums_has_17 rfl (by decide) ?_
      exact xQi hQ (by clear hQ; (try subst ev2); (try simp only [xb_eq, xb_ne, Int32.lt_iff_toInt_lt, Int32.le_iff_toInt_le] at *); (try simp only [xb]); (repeat' split); all_goals first | rfl | omega | (exfalso; simp only [← Int32.toInt_inj] at *; omega)) rfl
theorem c_Nums_at_48 {L : Nat} {xs : Nat → Int32} {d : Nat} {Q : Option Value → xF → Prop} {F : xF} {p P : Nat} (hP : F 48 1 = nI P) (hl : P ≤ 60) (hp : p < P) (hQ : Q (some (.int (F 49 p))) F) : V2 L xs (d + 1) m_Nums_at 0 (xEntry [.ref 48, .int (nI p)] 2) [] F Q := by
  refine V2.to (l' := [some (.ref 48), some (.int (nI p))]) ?_ rfl rfl rfl rfl
  refine V2_aload_n (i := 0) d_Nums_at_0 rfl rfl ?_
  refine V2_iload_n (i := 1) d_Nums_at_1 rfl rfl ?_
  refine V2_callV [.int (nI p)] d_Nums_at_2 rfl rfl lk_Nums_23 mo_Nums_has (by decide) rfl rfl rfl (Nat.le_of_ble_eq_true rfl) (Nat.le_of_ble_eq_true rfl) ?_
  refine c_Nums_has_48 ?_
  refine V2_topi (fun v1 ev1 => ?_)
  refine V2_if_eq (tgt := 26) d_Nums_at_5 rfl (fun c2 => (by first | exact absurd c2 (show ¬ v1 = 0 from by subst ev1; rw [xb_1 ⟨nI_pos' (by omega), by rw [hP]; exact nI_lt hp (by omega)⟩]; decide) | exact absurd (show ¬ v1 = 0 from by subst ev1; rw [xb_1 ⟨nI_pos' (by omega), by rw [hP]; exact nI_lt hp (by omega)⟩]; decide) c2)) (fun c2 => ?_)
  refine V2_iload_n (i := 1) d_Nums_at_8 rfl rfl ?_
  refine V2_aload_n (i := 0) d_Nums_at_9 rfl rfl ?_
  refine V2_getr (a := 49) d_Nums_at_10 fl_Nums_19 (by decide) rfl (by decide) rfl ?_
  refine V2_alen (t := 0) (v := 60) d_Nums_at_13 (by decide) rfl (by decide) rfl ?_
  refine V2_icmp_ge (tgt := 26) d_Nums_at_14 rfl (fun c3 => (by first | exact absurd c3 (show ¬ (60 : Int32) ≤ nI p from nI_ge (a := p) (b := 60) (by omega) (by decide)) | exact absurd (show ¬ (60 : Int32) ≤ nI p from nI_ge (a := p) (b := 60) (by omega) (by decide)) c3)) (fun c3 => ?_)
  refine V2_aload_n (i := 0) d_Nums_at_17 rfl rfl ?_
  refine V2_getr (a := 49) d_Nums_at_18 fl_Nums_19 (by decide) rfl (by decide) rfl ?_
  refine V2_iload_n (i := 1) d_Nums_at_21 rfl rfl ?_
  refine V2_ialoadJ (p) d_Nums_at_22 (by decide) rfl (xixA (n := p) rfl (by omega) (by decide)) (xixB (n := p) rfl (by omega)) rfl ?_
  refine V2_topi (fun v4 ev4 => ?_)
  refine V2_goto (tgt := 27) d_Nums_at_23 rfl ?_
  refine V2_ireturn d_Nums_at_27 rfl ?_
  exact xQi hQ (by clear hQ; (try subst ev4 ev1); (try simp only [xb_eq, xb_ne, Int32.lt_iff_toInt_lt, Int32.le_iff_toInt_le] at *); (try simp only [xb]); (repeat' split); all_goals first | rfl | omega | (exfalso; simp only [← Int32.toInt_inj] at *; omega)) rfl
theorem c_Nums_hasRoom_48 {L : Nat} {xs : Nat → Int32} {d : Nat} {Q : Option Value → xF → Prop} {F : xF} {i : Int32}  (hQ : Q (some (.int (xb (i ≤ 60 - F 48 1)))) F) : V2 L xs d m_Nums_hasRoom 0 (xEntry [.ref 48, .int i] 2) [] F Q := by
  refine V2.to (l' := [some (.ref 48), some (.int i)]) ?_ rfl rfl rfl rfl
  refine V2_iload_n (i := 1) d_Nums_hasRoom_0 rfl rfl ?_
  refine V2_aload_n (i := 0) d_Nums_hasRoom_1 rfl rfl ?_
  refine V2_getr (a := 49) d_Nums_hasRoom_2 fl_Nums_19 (by decide) rfl (by decide) rfl ?_
  refine V2_alen (t := 0) (v := 60) d_Nums_hasRoom_5 (by decide) rfl (by decide) rfl ?_
  refine V2_aload_n (i := 0) d_Nums_hasRoom_6 rfl rfl ?_
  refine V2_get (v := F 48 1) d_Nums_hasRoom_7 fl_Nums_7 (by decide) rfl (by decide) rfl rfl ?_
  refine V2_topi (fun v1 ev1 => ?_)
  refine V2_isub d_Nums_hasRoom_10 ?_
  refine V2_topi (fun v2 ev2 => ?_)
  refine V2_icmp_gt (tgt := 18) d_Nums_hasRoom_11 rfl (fun c3 => ?_) (fun c3 => ?_)
  · refine V2_iconst (v := 0) d_Nums_hasRoom_18 rfl ?_
    refine V2_zreturn d_Nums_hasRoom_19 rfl (by decide) ?_
    exact xQi hQ (by subst ev2 ev1; simp_all [xb]) rfl
  · refine V2_iconst (v := 1) d_Nums_hasRoom_14 rfl ?_
    refine V2_goto (tgt := 19) d_Nums_hasRoom_15 rfl ?_
    refine V2_zreturn d_Nums_hasRoom_19 rfl (by decide) ?_
    exact xQi hQ (by subst ev2 ev1; simp_all [xb]) rfl
theorem c_Nums_add_48 {L : Nat} {xs : Nat → Int32} {d : Nat} {Q : Option Value → xF → Prop} {F : xF} {v : Int32} {P : Nat} (hP : F 48 1 = nI P) (hl : P < 60) (hQ : Q none (xp (xp F 49 P v) 48 1 (nI (P + 1)))) : V2 L xs d m_Nums_add 0 (xEntry [.ref 48, .int v] 2) [] F Q := by
  refine V2.to (l' := [some (.ref 48), some (.int v)]) ?_ rfl rfl rfl rfl
  refine V2_aload_n (i := 0) d_Nums_add_0 rfl rfl ?_
  refine V2_get (v := F 48 1) d_Nums_add_1 fl_Nums_7 (by decide) rfl (by decide) rfl rfl ?_
  refine V2_topi (fun v1 ev1 => ?_)
  refine V2_if_lt (tgt := 39) d_Nums_add_4 rfl (fun c2 => (by first | exact absurd c2 (show ¬ v1 < (0 : Int32) from by subst ev1; rw [hP]; exact nI_pos (by omega)) | exact absurd (show ¬ v1 < (0 : Int32) from by subst ev1; rw [hP]; exact nI_pos (by omega)) c2)) (fun c2 => ?_)
  refine V2_aload_n (i := 0) d_Nums_add_7 rfl rfl ?_
  refine V2_get (v := F 48 1) d_Nums_add_8 fl_Nums_7 (by decide) rfl (by decide) rfl rfl ?_
  refine V2_topi (fun v3 ev3 => ?_)
  refine V2_aload_n (i := 0) d_Nums_add_11 rfl rfl ?_
  refine V2_getr (a := 49) d_Nums_add_12 fl_Nums_19 (by decide) rfl (by decide) rfl ?_
  refine V2_alen (t := 0) (v := 60) d_Nums_add_15 (by decide) rfl (by decide) rfl ?_
  refine V2_icmp_ge (tgt := 39) d_Nums_add_16 rfl (fun c4 => (by first | exact absurd c4 (show ¬ (60 : Int32) ≤ v3 from by subst ev3 ev1; rw [hP]; exact nI_ge (b := 60) (by omega) (by decide)) | exact absurd (show ¬ (60 : Int32) ≤ v3 from by subst ev3 ev1; rw [hP]; exact nI_ge (b := 60) (by omega) (by decide)) c4)) (fun c4 => ?_)
  refine V2_aload_n (i := 0) d_Nums_add_19 rfl rfl ?_
  refine V2_getr (a := 49) d_Nums_add_20 fl_Nums_19 (by decide) rfl (by decide) rfl ?_
  refine V2_aload_n (i := 0) d_Nums_add_23 rfl rfl ?_
  refine V2_get (v := F 48 1) d_Nums_add_24 fl_Nums_7 (by decide) rfl (by decide) rfl rfl ?_
  refine V2_topi (fun v5 ev5 => ?_)
  refine V2_iload_n (i := 1) d_Nums_add_27 rfl rfl ?_
  refine V2_iastore (j := (P)) d_Nums_add_28 (by decide) rfl (xixA (n := P) (by subst ev5 ev3 ev1; exact hP) (by omega) (by decide)) (xixB (n := P) (by subst ev5 ev3 ev1; exact hP) (by omega)) ?_
  refine V2_aload_n (i := 0) d_Nums_add_29 rfl rfl ?_
  refine V2_dup d_Nums_add_30 rfl ?_
  refine V2_get (v := F 48 1) d_Nums_add_31 fl_Nums_7 (by decide) rfl (by decide) rfl rfl ?_
  refine V2_topi (fun v6 ev6 => ?_)
  refine V2_iconst (v := 1) d_Nums_add_34 rfl ?_
  refine V2_iadd d_Nums_add_35 ?_
  refine V2_topi (fun v7 ev7 => ?_)
  refine V2_put d_Nums_add_36 fl_Nums_7 (by decide) rfl (by decide) rfl ?_
  refine V2_return d_Nums_add_39 rfl ?_
  subst ev7 ev6 ev5 ev3 ev1
  rw [hP, nI_1] at *
  exact hQ
theorem c_Nums_empty_48 {L : Nat} {xs : Nat → Int32} {d : Nat} {Q : Option Value → xF → Prop} {F : xF}   (hQ : Q none (xp F 48 1 0)) : V2 L xs d m_Nums_empty 0 (xEntry [.ref 48] 1) [] F Q := by
  refine V2.to (l' := [some (.ref 48)]) ?_ rfl rfl rfl rfl
  refine V2_aload_n (i := 0) d_Nums_empty_0 rfl rfl ?_
  refine V2_iconst (v := 0) d_Nums_empty_1 rfl ?_
  refine V2_put d_Nums_empty_2 fl_Nums_7 (by decide) rfl (by decide) rfl ?_
  refine V2_return d_Nums_empty_5 rfl ?_
  exact xQv hQ rfl
theorem c_Nums_has_50 {L : Nat} {xs : Nat → Int32} {d : Nat} {Q : Option Value → xF → Prop} {F : xF} {i : Int32}  (hQ : Q (some (.int (xb (0 ≤ i ∧ i < F 50 1)))) F) : V2 L xs d m_Nums_has 0 (xEntry [.ref 50, .int i] 2) [] F Q := by
  refine V2.to (l' := [some (.ref 50), some (.int i)]) ?_ rfl rfl rfl rfl
  refine V2_iload_n (i := 1) d_Nums_has_0 rfl rfl ?_
  refine V2_if_lt (tgt := 16) d_Nums_has_1 rfl (fun c1 => ?_) (fun c1 => ?_)
  · refine V2_iconst (v := 0) d_Nums_has_16 rfl ?_
    refine V2_zreturn d_Nums_has_17 rfl (by decide) ?_
    exact xQi hQ (by clear hQ; (try skip); (try simp only [xb_eq, xb_ne, Int32.lt_iff_toInt_lt, Int32.le_iff_toInt_le] at *); (try simp only [xb]); (repeat' split); all_goals first | rfl | omega | (exfalso; simp only [← Int32.toInt_inj] at *; omega)) rfl
  · refine V2_iload_n (i := 1) d_Nums_has_4 rfl rfl ?_
    refine V2_aload_n (i := 0) d_Nums_has_5 rfl rfl ?_
    refine V2_get (v := F 50 1) d_Nums_has_6 fl_Nums_7 (by decide) rfl (by decide) rfl rfl ?_
    refine V2_topi (fun v2 ev2 => ?_)
    refine V2_icmp_ge (tgt := 16) d_Nums_has_9 rfl (fun c3 => ?_) (fun c3 => ?_)
    · refine V2_iconst (v := 0) d_Nums_has_16 rfl ?_
      refine V2_zreturn d_Nums_has_17 rfl (by decide) ?_
      exact xQi hQ (by clear hQ; (try subst ev2); (try simp only [xb_eq, xb_ne, Int32.lt_iff_toInt_lt, Int32.le_iff_toInt_le] at *); (try simp only [xb]); (repeat' split); all_goals first | rfl | omega | (exfalso; simp only [← Int32.toInt_inj] at *; omega)) rfl
    · refine V2_iconst (v := 1) d_Nums_has_12 rfl ?_
      refine V2_goto (tgt := 17) d_Nums_has_13 rfl ?_
      refine V2_zreturn d_Nums_has_17 rfl (by decide) ?_
      exact xQi hQ (by clear hQ; (try subst ev2); (try simp only [xb_eq, xb_ne, Int32.lt_iff_toInt_lt, Int32.le_iff_toInt_le] at *); (try simp only [xb]); (repeat' split); all_goals first | rfl | omega | (exfalso; simp only [← Int32.toInt_inj] at *; omega)) rfl
theorem c_Nums_at_50 {L : Nat} {xs : Nat → Int32} {d : Nat} {Q : Option Value → xF → Prop} {F : xF} {p P : Nat} (hP : F 50 1 = nI P) (hl : P ≤ 60) (hp : p < P) (hQ : Q (some (.int (F 51 p))) F) : V2 L xs (d + 1) m_Nums_at 0 (xEntry [.ref 50, .int (nI p)] 2) [] F Q := by
  refine V2.to (l' := [some (.ref 50), some (.int (nI p))]) ?_ rfl rfl rfl rfl
  refine V2_aload_n (i := 0) d_Nums_at_0 rfl rfl ?_
  refine V2_iload_n (i := 1) d_Nums_at_1 rfl rfl ?_
  refine V2_callV [.int (nI p)] d_Nums_at_2 rfl rfl lk_Nums_23 mo_Nums_has (by decide) rfl rfl rfl (Nat.le_of_ble_eq_true rfl) (Nat.le_of_ble_eq_true rfl) ?_
  refine c_Nums_has_50 ?_
  refine V2_topi (fun v1 ev1 => ?_)
  refine V2_if_eq (tgt := 26) d_Nums_at_5 rfl (fun c2 => (by first | exact absurd c2 (show ¬ v1 = 0 from by subst ev1; rw [xb_1 ⟨nI_pos' (by omega), by rw [hP]; exact nI_lt hp (by omega)⟩]; decide) | exact absurd (show ¬ v1 = 0 from by subst ev1; rw [xb_1 ⟨nI_pos' (by omega), by rw [hP]; exact nI_lt hp (by omega)⟩]; decide) c2)) (fun c2 => ?_)
  refine V2_iload_n (i := 1) d_Nums_at_8 rfl rfl ?_
  refine V2_aload_n (i := 0) d_Nums_at_9 rfl rfl ?_
  refine V2_getr (a := 51) d_Nums_at_10 fl_Nums_19 (by decide) rfl (by decide) rfl ?_
  refine V2_alen (t := 0) (v := 60) d_Nums_at_13 (by decide) rfl (by decide) rfl ?_
  refine V2_icmp_ge (tgt := 26) d_Nums_at_14 rfl (fun c3 => (by first | exact absurd c3 (show ¬ (60 : Int32) ≤ nI p from nI_ge (a := p) (b := 60) (by omega) (by decide)) | exact absurd (show ¬ (60 : Int32) ≤ nI p from nI_ge (a := p) (b := 60) (by omega) (by decide)) c3)) (fun c3 => ?_)
  refine V2_aload_n (i := 0) d_Nums_at_17 rfl rfl ?_
  refine V2_getr (a := 51) d_Nums_at_18 fl_Nums_19 (by decide) rfl (by decide) rfl ?_
  refine V2_iload_n (i := 1) d_Nums_at_21 rfl rfl ?_
  refine V2_ialoadJ (p) d_Nums_at_22 (by decide) rfl (xixA (n := p) rfl (by omega) (by decide)) (xixB (n := p) rfl (by omega)) rfl ?_
  refine V2_topi (fun v4 ev4 => ?_)
  refine V2_goto (tgt := 27) d_Nums_at_23 rfl ?_
  refine V2_ireturn d_Nums_at_27 rfl ?_
  exact xQi hQ (by clear hQ; (try subst ev4 ev1); (try simp only [xb_eq, xb_ne, Int32.lt_iff_toInt_lt, Int32.le_iff_toInt_le] at *); (try simp only [xb]); (repeat' split); all_goals first | rfl | omega | (exfalso; simp only [← Int32.toInt_inj] at *; omega)) rfl
theorem c_Nums_hasRoom_50 {L : Nat} {xs : Nat → Int32} {d : Nat} {Q : Option Value → xF → Prop} {F : xF} {i : Int32}  (hQ : Q (some (.int (xb (i ≤ 60 - F 50 1)))) F) : V2 L xs d m_Nums_hasRoom 0 (xEntry [.ref 50, .int i] 2) [] F Q := by
  refine V2.to (l' := [some (.ref 50), some (.int i)]) ?_ rfl rfl rfl rfl
  refine V2_iload_n (i := 1) d_Nums_hasRoom_0 rfl rfl ?_
  refine V2_aload_n (i := 0) d_Nums_hasRoom_1 rfl rfl ?_
  refine V2_getr (a := 51) d_Nums_hasRoom_2 fl_Nums_19 (by decide) rfl (by decide) rfl ?_
  refine V2_alen (t := 0) (v := 60) d_Nums_hasRoom_5 (by decide) rfl (by decide) rfl ?_
  refine V2_aload_n (i := 0) d_Nums_hasRoom_6 rfl rfl ?_
  refine V2_get (v := F 50 1) d_Nums_hasRoom_7 fl_Nums_7 (by decide) rfl (by decide) rfl rfl ?_
  refine V2_topi (fun v1 ev1 => ?_)
  refine V2_isub d_Nums_hasRoom_10 ?_
  refine V2_topi (fun v2 ev2 => ?_)
  refine V2_icmp_gt (tgt := 18) d_Nums_hasRoom_11 rfl (fun c3 => ?_) (fun c3 => ?_)
  · refine V2_iconst (v := 0) d_Nums_hasRoom_18 rfl ?_
    refine V2_zreturn d_Nums_hasRoom_19 rfl (by decide) ?_
    exact xQi hQ (by subst ev2 ev1; simp_all [xb]) rfl
  · refine V2_iconst (v := 1) d_Nums_hasRoom_14 rfl ?_
    refine V2_goto (tgt := 19) d_Nums_hasRoom_15 rfl ?_
    refine V2_zreturn d_Nums_hasRoom_19 rfl (by decide) ?_
    exact xQi hQ (by subst ev2 ev1; simp_all [xb]) rfl
theorem c_Nums_add_50 {L : Nat} {xs : Nat → Int32} {d : Nat} {Q : Option Value → xF → Prop} {F : xF} {v : Int32} {P : Nat} (hP : F 50 1 = nI P) (hl : P < 60) (hQ : Q none (xp (xp F 51 P v) 50 1 (nI (P + 1)))) : V2 L xs d m_Nums_add 0 (xEntry [.ref 50, .int v] 2) [] F Q := by
  refine V2.to (l' := [some (.ref 50), some (.int v)]) ?_ rfl rfl rfl rfl
  refine V2_aload_n (i := 0) d_Nums_add_0 rfl rfl ?_
  refine V2_get (v := F 50 1) d_Nums_add_1 fl_Nums_7 (by decide) rfl (by decide) rfl rfl ?_
  refine V2_topi (fun v1 ev1 => ?_)
  refine V2_if_lt (tgt := 39) d_Nums_add_4 rfl (fun c2 => (by first | exact absurd c2 (show ¬ v1 < (0 : Int32) from by subst ev1; rw [hP]; exact nI_pos (by omega)) | exact absurd (show ¬ v1 < (0 : Int32) from by subst ev1; rw [hP]; exact nI_pos (by omega)) c2)) (fun c2 => ?_)
  refine V2_aload_n (i := 0) d_Nums_add_7 rfl rfl ?_
  refine V2_get (v := F 50 1) d_Nums_add_8 fl_Nums_7 (by decide) rfl (by decide) rfl rfl ?_
  refine V2_topi (fun v3 ev3 => ?_)
  refine V2_aload_n (i := 0) d_Nums_add_11 rfl rfl ?_
  refine V2_getr (a := 51) d_Nums_add_12 fl_Nums_19 (by decide) rfl (by decide) rfl ?_
  refine V2_alen (t := 0) (v := 60) d_Nums_add_15 (by decide) rfl (by decide) rfl ?_
  refine V2_icmp_ge (tgt := 39) d_Nums_add_16 rfl (fun c4 => (by first | exact absurd c4 (show ¬ (60 : Int32) ≤ v3 from by subst ev3 ev1; rw [hP]; exact nI_ge (b := 60) (by omega) (by decide)) | exact absurd (show ¬ (60 : Int32) ≤ v3 from by subst ev3 ev1; rw [hP]; exact nI_ge (b := 60) (by omega) (by decide)) c4)) (fun c4 => ?_)
  refine V2_aload_n (i := 0) d_Nums_add_19 rfl rfl ?_
  refine V2_getr (a := 51) d_Nums_add_20 fl_Nums_19 (by decide) rfl (by decide) rfl ?_
  refine V2_aload_n (i := 0) d_Nums_add_23 rfl rfl ?_
  refine V2_get (v := F 50 1) d_Nums_add_24 fl_Nums_7 (by decide) rfl (by decide) rfl rfl ?_
  refine V2_topi (fun v5 ev5 => ?_)
  refine V2_iload_n (i := 1) d_Nums_add_27 rfl rfl ?_
  refine V2_iastore (j := (P)) d_Nums_add_28 (by decide) rfl (xixA (n := P) (by subst ev5 ev3 ev1; exact hP) (by omega) (by decide)) (xixB (n := P) (by subst ev5 ev3 ev1; exact hP) (by omega)) ?_
  refine V2_aload_n (i := 0) d_Nums_add_29 rfl rfl ?_
  refine V2_dup d_Nums_add_30 rfl ?_
  refine V2_get (v := F 50 1) d_Nums_add_31 fl_Nums_7 (by decide) rfl (by decide) rfl rfl ?_
  refine V2_topi (fun v6 ev6 => ?_)
  refine V2_iconst (v := 1) d_Nums_add_34 rfl ?_
  refine V2_iadd d_Nums_add_35 ?_
  refine V2_topi (fun v7 ev7 => ?_)
  refine V2_put d_Nums_add_36 fl_Nums_7 (by decide) rfl (by decide) rfl ?_
  refine V2_return d_Nums_add_39 rfl ?_
  subst ev7 ev6 ev5 ev3 ev1
  rw [hP, nI_1] at *
  exact hQ
theorem c_Nums_empty_50 {L : Nat} {xs : Nat → Int32} {d : Nat} {Q : Option Value → xF → Prop} {F : xF}   (hQ : Q none (xp F 50 1 0)) : V2 L xs d m_Nums_empty 0 (xEntry [.ref 50] 1) [] F Q := by
  refine V2.to (l' := [some (.ref 50)]) ?_ rfl rfl rfl rfl
  refine V2_aload_n (i := 0) d_Nums_empty_0 rfl rfl ?_
  refine V2_iconst (v := 0) d_Nums_empty_1 rfl ?_
  refine V2_put d_Nums_empty_2 fl_Nums_7 (by decide) rfl (by decide) rfl ?_
  refine V2_return d_Nums_empty_5 rfl ?_
  exact xQv hQ rfl
theorem c_Nums_has_53 {L : Nat} {xs : Nat → Int32} {d : Nat} {Q : Option Value → xF → Prop} {F : xF} {i : Int32}  (hQ : Q (some (.int (xb (0 ≤ i ∧ i < F 53 1)))) F) : V2 L xs d m_Nums_has 0 (xEntry [.ref 53, .int i] 2) [] F Q := by
  refine V2.to (l' := [some (.ref 53), some (.int i)]) ?_ rfl rfl rfl rfl
  refine V2_iload_n (i := 1) d_Nums_has_0 rfl rfl ?_
  refine V2_if_lt (tgt := 16) d_Nums_has_1 rfl (fun c1 => ?_) (fun c1 => ?_)
  · refine V2_iconst (v := 0) d_Nums_has_16 rfl ?_
    refine V2_zreturn d_Nums_has_17 rfl (by decide) ?_
    exact xQi hQ (by clear hQ; (try skip); (try simp only [xb_eq, xb_ne, Int32.lt_iff_toInt_lt, Int32.le_iff_toInt_le] at *); (try simp only [xb]); (repeat' split); all_goals first | rfl | omega | (exfalso; simp only [← Int32.toInt_inj] at *; omega)) rfl
  · refine V2_iload_n (i := 1) d_Nums_has_4 rfl rfl ?_
    refine V2_aload_n (i := 0) d_Nums_has_5 rfl rfl ?_
    refine V2_get (v := F 53 1) d_Nums_has_6 fl_Nums_7 (by decide) rfl (by decide) rfl rfl ?_
    refine V2_topi (fun v2 ev2 => ?_)
    refine V2_icmp_ge (tgt := 16) d_Nums_has_9 rfl (fun c3 => ?_) (fun c3 => ?_)
    · refine V2_iconst (v := 0) d_Nums_has_16 rfl ?_
      refine V2_zreturn d_Nums_has_17 rfl (by decide) ?_
      exact xQi hQ (by clear hQ; (try subst ev2); (try simp only [xb_eq, xb_ne, Int32.lt_iff_toInt_lt, Int32.le_iff_toInt_le] at *); (try simp only [xb]); (repeat' split); all_goals first | rfl | omega | (exfalso; simp only [← Int32.toInt_inj] at *; omega)) rfl
    · refine V2_iconst (v := 1) d_Nums_has_12 rfl ?_
      refine V2_goto (tgt := 17) d_Nums_has_13 rfl ?_
      refine V2_zreturn d_Nums_has_17 rfl (by decide) ?_
      exact xQi hQ (by clear hQ; (try subst ev2); (try simp only [xb_eq, xb_ne, Int32.lt_iff_toInt_lt, Int32.le_iff_toInt_le] at *); (try simp only [xb]); (repeat' split); all_goals first | rfl | omega | (exfalso; simp only [← Int32.toInt_inj] at *; omega)) rfl
theorem c_Nums_at_53 {L : Nat} {xs : Nat → Int32} {d : Nat} {Q : Option Value → xF → Prop} {F : xF} {p P : Nat} (hP : F 53 1 = nI P) (hl : P ≤ 30) (hp : p < P) (hQ : Q (some (.int (F 54 p))) F) : V2 L xs (d + 1) m_Nums_at 0 (xEntry [.ref 53, .int (nI p)] 2) [] F Q := by
  refine V2.to (l' := [some (.ref 53), some (.int (nI p))]) ?_ rfl rfl rfl rfl
  refine V2_aload_n (i := 0) d_Nums_at_0 rfl rfl ?_
  refine V2_iload_n (i := 1) d_Nums_at_1 rfl rfl ?_
  refine V2_callV [.int (nI p)] d_Nums_at_2 rfl rfl lk_Nums_23 mo_Nums_has (by decide) rfl rfl rfl (Nat.le_of_ble_eq_true rfl) (Nat.le_of_ble_eq_true rfl) ?_
  refine c_Nums_has_53 ?_
  refine V2_topi (fun v1 ev1 => ?_)
  refine V2_if_eq (tgt := 26) d_Nums_at_5 rfl (fun c2 => (by first | exact absurd c2 (show ¬ v1 = 0 from by subst ev1; rw [xb_1 ⟨nI_pos' (by omega), by rw [hP]; exact nI_lt hp (by omega)⟩]; decide) | exact absurd (show ¬ v1 = 0 from by subst ev1; rw [xb_1 ⟨nI_pos' (by omega), by rw [hP]; exact nI_lt hp (by omega)⟩]; decide) c2)) (fun c2 => ?_)
  refine V2_iload_n (i := 1) d_Nums_at_8 rfl rfl ?_
  refine V2_aload_n (i := 0) d_Nums_at_9 rfl rfl ?_
  refine V2_getr (a := 54) d_Nums_at_10 fl_Nums_19 (by decide) rfl (by decide) rfl ?_
  refine V2_alen (t := 0) (v := 30) d_Nums_at_13 (by decide) rfl (by decide) rfl ?_
  refine V2_icmp_ge (tgt := 26) d_Nums_at_14 rfl (fun c3 => (by first | exact absurd c3 (show ¬ (30 : Int32) ≤ nI p from nI_ge (a := p) (b := 30) (by omega) (by decide)) | exact absurd (show ¬ (30 : Int32) ≤ nI p from nI_ge (a := p) (b := 30) (by omega) (by decide)) c3)) (fun c3 => ?_)
  refine V2_aload_n (i := 0) d_Nums_at_17 rfl rfl ?_
  refine V2_getr (a := 54) d_Nums_at_18 fl_Nums_19 (by decide) rfl (by decide) rfl ?_
  refine V2_iload_n (i := 1) d_Nums_at_21 rfl rfl ?_
  refine V2_ialoadJ (p) d_Nums_at_22 (by decide) rfl (xixA (n := p) rfl (by omega) (by decide)) (xixB (n := p) rfl (by omega)) rfl ?_
  refine V2_topi (fun v4 ev4 => ?_)
  refine V2_goto (tgt := 27) d_Nums_at_23 rfl ?_
  refine V2_ireturn d_Nums_at_27 rfl ?_
  exact xQi hQ (by clear hQ; (try subst ev4 ev1); (try simp only [xb_eq, xb_ne, Int32.lt_iff_toInt_lt, Int32.le_iff_toInt_le] at *); (try simp only [xb]); (repeat' split); all_goals first | rfl | omega | (exfalso; simp only [← Int32.toInt_inj] at *; omega)) rfl
theorem c_Nums_hasRoom_53 {L : Nat} {xs : Nat → Int32} {d : Nat} {Q : Option Value → xF → Prop} {F : xF} {i : Int32}  (hQ : Q (some (.int (xb (i ≤ 30 - F 53 1)))) F) : V2 L xs d m_Nums_hasRoom 0 (xEntry [.ref 53, .int i] 2) [] F Q := by
  refine V2.to (l' := [some (.ref 53), some (.int i)]) ?_ rfl rfl rfl rfl
  refine V2_iload_n (i := 1) d_Nums_hasRoom_0 rfl rfl ?_
  refine V2_aload_n (i := 0) d_Nums_hasRoom_1 rfl rfl ?_
  refine V2_getr (a := 54) d_Nums_hasRoom_2 fl_Nums_19 (by decide) rfl (by decide) rfl ?_
  refine V2_alen (t := 0) (v := 30) d_Nums_hasRoom_5 (by decide) rfl (by decide) rfl ?_
  refine V2_aload_n (i := 0) d_Nums_hasRoom_6 rfl rfl ?_
  refine V2_get (v := F 53 1) d_Nums_hasRoom_7 fl_Nums_7 (by decide) rfl (by decide) rfl rfl ?_
  refine V2_topi (fun v1 ev1 => ?_)
  refine V2_isub d_Nums_hasRoom_10 ?_
  refine V2_topi (fun v2 ev2 => ?_)
  refine V2_icmp_gt (tgt := 18) d_Nums_hasRoom_11 rfl (fun c3 => ?_) (fun c3 => ?_)
  · refine V2_iconst (v := 0) d_Nums_hasRoom_18 rfl ?_
    refine V2_zreturn d_Nums_hasRoom_19 rfl (by decide) ?_
    exact xQi hQ (by subst ev2 ev1; simp_all [xb]) rfl
  · refine V2_iconst (v := 1) d_Nums_hasRoom_14 rfl ?_
    refine V2_goto (tgt := 19) d_Nums_hasRoom_15 rfl ?_
    refine V2_zreturn d_Nums_hasRoom_19 rfl (by decide) ?_
    exact xQi hQ (by subst ev2 ev1; simp_all [xb]) rfl
theorem c_Nums_add_53 {L : Nat} {xs : Nat → Int32} {d : Nat} {Q : Option Value → xF → Prop} {F : xF} {v : Int32} {P : Nat} (hP : F 53 1 = nI P) (hl : P < 30) (hQ : Q none (xp (xp F 54 P v) 53 1 (nI (P + 1)))) : V2 L xs d m_Nums_add 0 (xEntry [.ref 53, .int v] 2) [] F Q := by
  refine V2.to (l' := [some (.ref 53), some (.int v)]) ?_ rfl rfl rfl rfl
  refine V2_aload_n (i := 0) d_Nums_add_0 rfl rfl ?_
  refine V2_get (v := F 53 1) d_Nums_add_1 fl_Nums_7 (by decide) rfl (by decide) rfl rfl ?_
  refine V2_topi (fun v1 ev1 => ?_)
  refine V2_if_lt (tgt := 39) d_Nums_add_4 rfl (fun c2 => (by first | exact absurd c2 (show ¬ v1 < (0 : Int32) from by subst ev1; rw [hP]; exact nI_pos (by omega)) | exact absurd (show ¬ v1 < (0 : Int32) from by subst ev1; rw [hP]; exact nI_pos (by omega)) c2)) (fun c2 => ?_)
  refine V2_aload_n (i := 0) d_Nums_add_7 rfl rfl ?_
  refine V2_get (v := F 53 1) d_Nums_add_8 fl_Nums_7 (by decide) rfl (by decide) rfl rfl ?_
  refine V2_topi (fun v3 ev3 => ?_)
  refine V2_aload_n (i := 0) d_Nums_add_11 rfl rfl ?_
  refine V2_getr (a := 54) d_Nums_add_12 fl_Nums_19 (by decide) rfl (by decide) rfl ?_
  refine V2_alen (t := 0) (v := 30) d_Nums_add_15 (by decide) rfl (by decide) rfl ?_
  refine V2_icmp_ge (tgt := 39) d_Nums_add_16 rfl (fun c4 => (by first | exact absurd c4 (show ¬ (30 : Int32) ≤ v3 from by subst ev3 ev1; rw [hP]; exact nI_ge (b := 30) (by omega) (by decide)) | exact absurd (show ¬ (30 : Int32) ≤ v3 from by subst ev3 ev1; rw [hP]; exact nI_ge (b := 30) (by omega) (by decide)) c4)) (fun c4 => ?_)
  refine V2_aload_n (i := 0) d_Nums_add_19 rfl rfl ?_
  refine V2_getr (a := 54) d_Nums_add_20 fl_Nums_19 (by decide) rfl (by decide) rfl ?_
  refine V2_aload_n (i := 0) d_Nums_add_23 rfl rfl ?_
  refine V2_get (v := F 53 1) d_Nums_add_24 fl_Nums_7 (by decide) rfl (by decide) rfl rfl ?_
  refine V2_topi (fun v5 ev5 => ?_)
  refine V2_iload_n (i := 1) d_Nums_add_27 rfl rfl ?_
  refine V2_iastore (j := (P)) d_Nums_add_28 (by decide) rfl (xixA (n := P) (by subst ev5 ev3 ev1; exact hP) (by omega) (by decide)) (xixB (n := P) (by subst ev5 ev3 ev1; exact hP) (by omega)) ?_
  refine V2_aload_n (i := 0) d_Nums_add_29 rfl rfl ?_
  refine V2_dup d_Nums_add_30 rfl ?_
  refine V2_get (v := F 53 1) d_Nums_add_31 fl_Nums_7 (by decide) rfl (by decide) rfl rfl ?_
  refine V2_topi (fun v6 ev6 => ?_)
  refine V2_iconst (v := 1) d_Nums_add_34 rfl ?_
  refine V2_iadd d_Nums_add_35 ?_
  refine V2_topi (fun v7 ev7 => ?_)
  refine V2_put d_Nums_add_36 fl_Nums_7 (by decide) rfl (by decide) rfl ?_
  refine V2_return d_Nums_add_39 rfl ?_
  subst ev7 ev6 ev5 ev3 ev1
  rw [hP, nI_1] at *
  exact hQ
theorem c_Nums_empty_53 {L : Nat} {xs : Nat → Int32} {d : Nat} {Q : Option Value → xF → Prop} {F : xF}   (hQ : Q none (xp F 53 1 0)) : V2 L xs d m_Nums_empty 0 (xEntry [.ref 53] 1) [] F Q := by
  refine V2.to (l' := [some (.ref 53)]) ?_ rfl rfl rfl rfl
  refine V2_aload_n (i := 0) d_Nums_empty_0 rfl rfl ?_
  refine V2_iconst (v := 0) d_Nums_empty_1 rfl ?_
  refine V2_put d_Nums_empty_2 fl_Nums_7 (by decide) rfl (by decide) rfl ?_
  refine V2_return d_Nums_empty_5 rfl ?_
  exact xQv hQ rfl
theorem c_Nums_copy_31_14 {L : Nat} {xs : Nat → Int32} {d : Nat} {Q : Option Value → xF → Prop} {F : xF} {P : Nat} (hP : F 14 1 = nI P) (hl : P ≤ 60) (hQ : Q none (xrw (xp F 31 1 (nI P)) 32 (va_cpy (F 15) (F 32) 0 0 P))) : V2 L xs (d + 1) m_Nums_copyFrom 0 (xEntry [.ref 31, .ref 14] 2) [] F Q := by
  refine V2.to (l' := [some (.ref 31), some (.ref 14)]) ?_ rfl rfl rfl rfl
  refine V2_aload_n (i := 0) d_Nums_copyFrom_0 rfl rfl ?_
  refine V2_iconst (v := 0) d_Nums_copyFrom_1 rfl ?_
  refine V2_aload_n (i := 1) d_Nums_copyFrom_2 rfl rfl ?_
  refine V2_get (v := F 14 1) d_Nums_copyFrom_3 fl_Nums_7 (by decide) rfl (by decide) rfl rfl ?_
  refine V2_topi (fun v1 ev1 => ?_)
  refine V2_aload_n (i := 1) d_Nums_copyFrom_6 rfl rfl ?_
  refine V2_getr (a := 15) d_Nums_copyFrom_7 fl_Nums_19 (by decide) rfl (by decide) rfl ?_
  refine V2_alen (t := 0) (v := 60) d_Nums_copyFrom_10 (by decide) rfl (by decide) rfl ?_
  refine V2_aload_n (i := 0) d_Nums_copyFrom_11 rfl rfl ?_
  refine V2_getr (a := 32) d_Nums_copyFrom_12 fl_Nums_19 (by decide) rfl (by decide) rfl ?_
  refine V2_alen (t := 0) (v := 60) d_Nums_copyFrom_15 (by decide) rfl (by decide) rfl ?_
  refine V2_mmin d_Nums_copyFrom_16 lz_Nums_27 (Nat.le_of_ble_eq_true rfl) ?_
  refine V2_topi (fun v2 ev2 => ?_)
  refine V2_mmin d_Nums_copyFrom_19 lz_Nums_27 (Nat.le_of_ble_eq_true rfl) ?_
  refine V2_topi (fun v3 ev3 => ?_)
  refine V2_mmax d_Nums_copyFrom_22 lz_Nums_13 (Nat.le_of_ble_eq_true rfl) ?_
  refine V2_topi (fun v4 ev4 => ?_)
  have ez : v4 = nI P := by
    subst ev4 ev3 ev2 ev1
    rw [hP]
    exact xcap (n := 60) (by decide) (by omega) (by decide)
  rw [ez]
  refine V2_put d_Nums_copyFrom_25 fl_Nums_7 (by decide) rfl (by decide) rfl ?_
  refine V2_aload_n (i := 1) d_Nums_copyFrom_28 rfl rfl ?_
  refine V2_getr (a := 15) d_Nums_copyFrom_29 fl_Nums_19 (by decide) rfl (by decide) rfl ?_
  refine V2_iconst (v := 0) d_Nums_copyFrom_32 rfl ?_
  refine V2_aload_n (i := 0) d_Nums_copyFrom_33 rfl rfl ?_
  refine V2_getr (a := 32) d_Nums_copyFrom_34 fl_Nums_19 (by decide) rfl (by decide) rfl ?_
  refine V2_iconst (v := 0) d_Nums_copyFrom_37 rfl ?_
  refine V2_aload_n (i := 0) d_Nums_copyFrom_38 rfl rfl ?_
  refine V2_get (v := nI P) d_Nums_copyFrom_39 fl_Nums_7 (by decide) rfl (by decide) rfl rfl ?_
  refine V2_topi (fun v5 ev5 => ?_)
  refine V2_copy d_Nums_copyFrom_42 lz_Nums_30 (by decide) (by decide) rfl rfl (by decide) (by decide) (by subst ev5 ev4 ev3 ev2 ev1; exact nI_pos (by omega)) (by subst ev5 ev4 ev3 ev2 ev1; show 0 + _ ≤ _; rw [nI_clamp (by omega)]; omega) (by subst ev5 ev4 ev3 ev2 ev1; show 0 + _ ≤ _; rw [nI_clamp (by omega)]; omega) (Nat.le_of_ble_eq_true rfl) ?_
  refine V2_return d_Nums_copyFrom_45 rfl ?_
  subst ev5 ev4 ev3 ev2 ev1
  rw [nI_clamp (by omega)]
  exact hQ
theorem c_Nums_copy_33_16 {L : Nat} {xs : Nat → Int32} {d : Nat} {Q : Option Value → xF → Prop} {F : xF} {P : Nat} (hP : F 16 1 = nI P) (hl : P ≤ 24) (hQ : Q none (xrw (xp F 33 1 (nI P)) 34 (va_cpy (F 17) (F 34) 0 0 P))) : V2 L xs (d + 1) m_Nums_copyFrom 0 (xEntry [.ref 33, .ref 16] 2) [] F Q := by
  refine V2.to (l' := [some (.ref 33), some (.ref 16)]) ?_ rfl rfl rfl rfl
  refine V2_aload_n (i := 0) d_Nums_copyFrom_0 rfl rfl ?_
  refine V2_iconst (v := 0) d_Nums_copyFrom_1 rfl ?_
  refine V2_aload_n (i := 1) d_Nums_copyFrom_2 rfl rfl ?_
  refine V2_get (v := F 16 1) d_Nums_copyFrom_3 fl_Nums_7 (by decide) rfl (by decide) rfl rfl ?_
  refine V2_topi (fun v1 ev1 => ?_)
  refine V2_aload_n (i := 1) d_Nums_copyFrom_6 rfl rfl ?_
  refine V2_getr (a := 17) d_Nums_copyFrom_7 fl_Nums_19 (by decide) rfl (by decide) rfl ?_
  refine V2_alen (t := 0) (v := 24) d_Nums_copyFrom_10 (by decide) rfl (by decide) rfl ?_
  refine V2_aload_n (i := 0) d_Nums_copyFrom_11 rfl rfl ?_
  refine V2_getr (a := 34) d_Nums_copyFrom_12 fl_Nums_19 (by decide) rfl (by decide) rfl ?_
  refine V2_alen (t := 0) (v := 24) d_Nums_copyFrom_15 (by decide) rfl (by decide) rfl ?_
  refine V2_mmin d_Nums_copyFrom_16 lz_Nums_27 (Nat.le_of_ble_eq_true rfl) ?_
  refine V2_topi (fun v2 ev2 => ?_)
  refine V2_mmin d_Nums_copyFrom_19 lz_Nums_27 (Nat.le_of_ble_eq_true rfl) ?_
  refine V2_topi (fun v3 ev3 => ?_)
  refine V2_mmax d_Nums_copyFrom_22 lz_Nums_13 (Nat.le_of_ble_eq_true rfl) ?_
  refine V2_topi (fun v4 ev4 => ?_)
  have ez : v4 = nI P := by
    subst ev4 ev3 ev2 ev1
    rw [hP]
    exact xcap (n := 24) (by decide) (by omega) (by decide)
  rw [ez]
  refine V2_put d_Nums_copyFrom_25 fl_Nums_7 (by decide) rfl (by decide) rfl ?_
  refine V2_aload_n (i := 1) d_Nums_copyFrom_28 rfl rfl ?_
  refine V2_getr (a := 17) d_Nums_copyFrom_29 fl_Nums_19 (by decide) rfl (by decide) rfl ?_
  refine V2_iconst (v := 0) d_Nums_copyFrom_32 rfl ?_
  refine V2_aload_n (i := 0) d_Nums_copyFrom_33 rfl rfl ?_
  refine V2_getr (a := 34) d_Nums_copyFrom_34 fl_Nums_19 (by decide) rfl (by decide) rfl ?_
  refine V2_iconst (v := 0) d_Nums_copyFrom_37 rfl ?_
  refine V2_aload_n (i := 0) d_Nums_copyFrom_38 rfl rfl ?_
  refine V2_get (v := nI P) d_Nums_copyFrom_39 fl_Nums_7 (by decide) rfl (by decide) rfl rfl ?_
  refine V2_topi (fun v5 ev5 => ?_)
  refine V2_copy d_Nums_copyFrom_42 lz_Nums_30 (by decide) (by decide) rfl rfl (by decide) (by decide) (by subst ev5 ev4 ev3 ev2 ev1; exact nI_pos (by omega)) (by subst ev5 ev4 ev3 ev2 ev1; show 0 + _ ≤ _; rw [nI_clamp (by omega)]; omega) (by subst ev5 ev4 ev3 ev2 ev1; show 0 + _ ≤ _; rw [nI_clamp (by omega)]; omega) (Nat.le_of_ble_eq_true rfl) ?_
  refine V2_return d_Nums_copyFrom_45 rfl ?_
  subst ev5 ev4 ev3 ev2 ev1
  rw [nI_clamp (by omega)]
  exact hQ
theorem c_Nums_copy_14_31 {L : Nat} {xs : Nat → Int32} {d : Nat} {Q : Option Value → xF → Prop} {F : xF} {P : Nat} (hP : F 31 1 = nI P) (hl : P ≤ 60) (hQ : Q none (xrw (xp F 14 1 (nI P)) 15 (va_cpy (F 32) (F 15) 0 0 P))) : V2 L xs (d + 1) m_Nums_copyFrom 0 (xEntry [.ref 14, .ref 31] 2) [] F Q := by
  refine V2.to (l' := [some (.ref 14), some (.ref 31)]) ?_ rfl rfl rfl rfl
  refine V2_aload_n (i := 0) d_Nums_copyFrom_0 rfl rfl ?_
  refine V2_iconst (v := 0) d_Nums_copyFrom_1 rfl ?_
  refine V2_aload_n (i := 1) d_Nums_copyFrom_2 rfl rfl ?_
  refine V2_get (v := F 31 1) d_Nums_copyFrom_3 fl_Nums_7 (by decide) rfl (by decide) rfl rfl ?_
  refine V2_topi (fun v1 ev1 => ?_)
  refine V2_aload_n (i := 1) d_Nums_copyFrom_6 rfl rfl ?_
  refine V2_getr (a := 32) d_Nums_copyFrom_7 fl_Nums_19 (by decide) rfl (by decide) rfl ?_
  refine V2_alen (t := 0) (v := 60) d_Nums_copyFrom_10 (by decide) rfl (by decide) rfl ?_
  refine V2_aload_n (i := 0) d_Nums_copyFrom_11 rfl rfl ?_
  refine V2_getr (a := 15) d_Nums_copyFrom_12 fl_Nums_19 (by decide) rfl (by decide) rfl ?_
  refine V2_alen (t := 0) (v := 60) d_Nums_copyFrom_15 (by decide) rfl (by decide) rfl ?_
  refine V2_mmin d_Nums_copyFrom_16 lz_Nums_27 (Nat.le_of_ble_eq_true rfl) ?_
  refine V2_topi (fun v2 ev2 => ?_)
  refine V2_mmin d_Nums_copyFrom_19 lz_Nums_27 (Nat.le_of_ble_eq_true rfl) ?_
  refine V2_topi (fun v3 ev3 => ?_)
  refine V2_mmax d_Nums_copyFrom_22 lz_Nums_13 (Nat.le_of_ble_eq_true rfl) ?_
  refine V2_topi (fun v4 ev4 => ?_)
  have ez : v4 = nI P := by
    subst ev4 ev3 ev2 ev1
    rw [hP]
    exact xcap (n := 60) (by decide) (by omega) (by decide)
  rw [ez]
  refine V2_put d_Nums_copyFrom_25 fl_Nums_7 (by decide) rfl (by decide) rfl ?_
  refine V2_aload_n (i := 1) d_Nums_copyFrom_28 rfl rfl ?_
  refine V2_getr (a := 32) d_Nums_copyFrom_29 fl_Nums_19 (by decide) rfl (by decide) rfl ?_
  refine V2_iconst (v := 0) d_Nums_copyFrom_32 rfl ?_
  refine V2_aload_n (i := 0) d_Nums_copyFrom_33 rfl rfl ?_
  refine V2_getr (a := 15) d_Nums_copyFrom_34 fl_Nums_19 (by decide) rfl (by decide) rfl ?_
  refine V2_iconst (v := 0) d_Nums_copyFrom_37 rfl ?_
  refine V2_aload_n (i := 0) d_Nums_copyFrom_38 rfl rfl ?_
  refine V2_get (v := nI P) d_Nums_copyFrom_39 fl_Nums_7 (by decide) rfl (by decide) rfl rfl ?_
  refine V2_topi (fun v5 ev5 => ?_)
  refine V2_copy d_Nums_copyFrom_42 lz_Nums_30 (by decide) (by decide) rfl rfl (by decide) (by decide) (by subst ev5 ev4 ev3 ev2 ev1; exact nI_pos (by omega)) (by subst ev5 ev4 ev3 ev2 ev1; show 0 + _ ≤ _; rw [nI_clamp (by omega)]; omega) (by subst ev5 ev4 ev3 ev2 ev1; show 0 + _ ≤ _; rw [nI_clamp (by omega)]; omega) (Nat.le_of_ble_eq_true rfl) ?_
  refine V2_return d_Nums_copyFrom_45 rfl ?_
  subst ev5 ev4 ev3 ev2 ev1
  rw [nI_clamp (by omega)]
  exact hQ
theorem c_Nums_copy_16_33 {L : Nat} {xs : Nat → Int32} {d : Nat} {Q : Option Value → xF → Prop} {F : xF} {P : Nat} (hP : F 33 1 = nI P) (hl : P ≤ 24) (hQ : Q none (xrw (xp F 16 1 (nI P)) 17 (va_cpy (F 34) (F 17) 0 0 P))) : V2 L xs (d + 1) m_Nums_copyFrom 0 (xEntry [.ref 16, .ref 33] 2) [] F Q := by
  refine V2.to (l' := [some (.ref 16), some (.ref 33)]) ?_ rfl rfl rfl rfl
  refine V2_aload_n (i := 0) d_Nums_copyFrom_0 rfl rfl ?_
  refine V2_iconst (v := 0) d_Nums_copyFrom_1 rfl ?_
  refine V2_aload_n (i := 1) d_Nums_copyFrom_2 rfl rfl ?_
  refine V2_get (v := F 33 1) d_Nums_copyFrom_3 fl_Nums_7 (by decide) rfl (by decide) rfl rfl ?_
  refine V2_topi (fun v1 ev1 => ?_)
  refine V2_aload_n (i := 1) d_Nums_copyFrom_6 rfl rfl ?_
  refine V2_getr (a := 34) d_Nums_copyFrom_7 fl_Nums_19 (by decide) rfl (by decide) rfl ?_
  refine V2_alen (t := 0) (v := 24) d_Nums_copyFrom_10 (by decide) rfl (by decide) rfl ?_
  refine V2_aload_n (i := 0) d_Nums_copyFrom_11 rfl rfl ?_
  refine V2_getr (a := 17) d_Nums_copyFrom_12 fl_Nums_19 (by decide) rfl (by decide) rfl ?_
  refine V2_alen (t := 0) (v := 24) d_Nums_copyFrom_15 (by decide) rfl (by decide) rfl ?_
  refine V2_mmin d_Nums_copyFrom_16 lz_Nums_27 (Nat.le_of_ble_eq_true rfl) ?_
  refine V2_topi (fun v2 ev2 => ?_)
  refine V2_mmin d_Nums_copyFrom_19 lz_Nums_27 (Nat.le_of_ble_eq_true rfl) ?_
  refine V2_topi (fun v3 ev3 => ?_)
  refine V2_mmax d_Nums_copyFrom_22 lz_Nums_13 (Nat.le_of_ble_eq_true rfl) ?_
  refine V2_topi (fun v4 ev4 => ?_)
  have ez : v4 = nI P := by
    subst ev4 ev3 ev2 ev1
    rw [hP]
    exact xcap (n := 24) (by decide) (by omega) (by decide)
  rw [ez]
  refine V2_put d_Nums_copyFrom_25 fl_Nums_7 (by decide) rfl (by decide) rfl ?_
  refine V2_aload_n (i := 1) d_Nums_copyFrom_28 rfl rfl ?_
  refine V2_getr (a := 34) d_Nums_copyFrom_29 fl_Nums_19 (by decide) rfl (by decide) rfl ?_
  refine V2_iconst (v := 0) d_Nums_copyFrom_32 rfl ?_
  refine V2_aload_n (i := 0) d_Nums_copyFrom_33 rfl rfl ?_
  refine V2_getr (a := 17) d_Nums_copyFrom_34 fl_Nums_19 (by decide) rfl (by decide) rfl ?_
  refine V2_iconst (v := 0) d_Nums_copyFrom_37 rfl ?_
  refine V2_aload_n (i := 0) d_Nums_copyFrom_38 rfl rfl ?_
  refine V2_get (v := nI P) d_Nums_copyFrom_39 fl_Nums_7 (by decide) rfl (by decide) rfl rfl ?_
  refine V2_topi (fun v5 ev5 => ?_)
  refine V2_copy d_Nums_copyFrom_42 lz_Nums_30 (by decide) (by decide) rfl rfl (by decide) (by decide) (by subst ev5 ev4 ev3 ev2 ev1; exact nI_pos (by omega)) (by subst ev5 ev4 ev3 ev2 ev1; show 0 + _ ≤ _; rw [nI_clamp (by omega)]; omega) (by subst ev5 ev4 ev3 ev2 ev1; show 0 + _ ≤ _; rw [nI_clamp (by omega)]; omega) (Nat.le_of_ble_eq_true rfl) ?_
  refine V2_return d_Nums_copyFrom_45 rfl ?_
  subst ev5 ev4 ev3 ev2 ev1
  rw [nI_clamp (by omega)]
  exact hQ
theorem c_Nums_copy_48_14 {L : Nat} {xs : Nat → Int32} {d : Nat} {Q : Option Value → xF → Prop} {F : xF} {P : Nat} (hP : F 14 1 = nI P) (hl : P ≤ 60) (hQ : Q none (xrw (xp F 48 1 (nI P)) 49 (va_cpy (F 15) (F 49) 0 0 P))) : V2 L xs (d + 1) m_Nums_copyFrom 0 (xEntry [.ref 48, .ref 14] 2) [] F Q := by
  refine V2.to (l' := [some (.ref 48), some (.ref 14)]) ?_ rfl rfl rfl rfl
  refine V2_aload_n (i := 0) d_Nums_copyFrom_0 rfl rfl ?_
  refine V2_iconst (v := 0) d_Nums_copyFrom_1 rfl ?_
  refine V2_aload_n (i := 1) d_Nums_copyFrom_2 rfl rfl ?_
  refine V2_get (v := F 14 1) d_Nums_copyFrom_3 fl_Nums_7 (by decide) rfl (by decide) rfl rfl ?_
  refine V2_topi (fun v1 ev1 => ?_)
  refine V2_aload_n (i := 1) d_Nums_copyFrom_6 rfl rfl ?_
  refine V2_getr (a := 15) d_Nums_copyFrom_7 fl_Nums_19 (by decide) rfl (by decide) rfl ?_
  refine V2_alen (t := 0) (v := 60) d_Nums_copyFrom_10 (by decide) rfl (by decide) rfl ?_
  refine V2_aload_n (i := 0) d_Nums_copyFrom_11 rfl rfl ?_
  refine V2_getr (a := 49) d_Nums_copyFrom_12 fl_Nums_19 (by decide) rfl (by decide) rfl ?_
  refine V2_alen (t := 0) (v := 60) d_Nums_copyFrom_15 (by decide) rfl (by decide) rfl ?_
  refine V2_mmin d_Nums_copyFrom_16 lz_Nums_27 (Nat.le_of_ble_eq_true rfl) ?_
  refine V2_topi (fun v2 ev2 => ?_)
  refine V2_mmin d_Nums_copyFrom_19 lz_Nums_27 (Nat.le_of_ble_eq_true rfl) ?_
  refine V2_topi (fun v3 ev3 => ?_)
  refine V2_mmax d_Nums_copyFrom_22 lz_Nums_13 (Nat.le_of_ble_eq_true rfl) ?_
  refine V2_topi (fun v4 ev4 => ?_)
  have ez : v4 = nI P := by
    subst ev4 ev3 ev2 ev1
    rw [hP]
    exact xcap (n := 60) (by decide) (by omega) (by decide)
  rw [ez]
  refine V2_put d_Nums_copyFrom_25 fl_Nums_7 (by decide) rfl (by decide) rfl ?_
  refine V2_aload_n (i := 1) d_Nums_copyFrom_28 rfl rfl ?_
  refine V2_getr (a := 15) d_Nums_copyFrom_29 fl_Nums_19 (by decide) rfl (by decide) rfl ?_
  refine V2_iconst (v := 0) d_Nums_copyFrom_32 rfl ?_
  refine V2_aload_n (i := 0) d_Nums_copyFrom_33 rfl rfl ?_
  refine V2_getr (a := 49) d_Nums_copyFrom_34 fl_Nums_19 (by decide) rfl (by decide) rfl ?_
  refine V2_iconst (v := 0) d_Nums_copyFrom_37 rfl ?_
  refine V2_aload_n (i := 0) d_Nums_copyFrom_38 rfl rfl ?_
  refine V2_get (v := nI P) d_Nums_copyFrom_39 fl_Nums_7 (by decide) rfl (by decide) rfl rfl ?_
  refine V2_topi (fun v5 ev5 => ?_)
  refine V2_copy d_Nums_copyFrom_42 lz_Nums_30 (by decide) (by decide) rfl rfl (by decide) (by decide) (by subst ev5 ev4 ev3 ev2 ev1; exact nI_pos (by omega)) (by subst ev5 ev4 ev3 ev2 ev1; show 0 + _ ≤ _; rw [nI_clamp (by omega)]; omega) (by subst ev5 ev4 ev3 ev2 ev1; show 0 + _ ≤ _; rw [nI_clamp (by omega)]; omega) (Nat.le_of_ble_eq_true rfl) ?_
  refine V2_return d_Nums_copyFrom_45 rfl ?_
  subst ev5 ev4 ev3 ev2 ev1
  rw [nI_clamp (by omega)]
  exact hQ
