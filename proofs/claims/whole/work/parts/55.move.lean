/-! move -/
theorem mid_move {F : xF} {t u p q m Nt Nu : Nat} (h : Rel F) (ht : t < 4) (hu : u < 4) (eNt : F 75 t = nI Nt) (eNu : F 75 u = nI Nu) (hNt : Nt ≤ 24) (hNu : Nu ≤ 24) (hb : F 74 t = F 74 u) (h1 : p + m ≤ Nt) (h2 : q + m ≤ Nu) : Mid F (xrw F (58 + 2 * u) (va_cpy (F (58 + 2 * t)) (F (58 + 2 * u)) p q m)) (xrw F 76 (va_cpy (F 76) (F 76) (24 * t + p) (24 * u + q) m)) := by
  obtain ⟨s1, s2, s3⟩ := h.1.2.2.2.2.2.2 u hu
  refine mid_sheet h hu (fun k a b => xrw_ne b) (fun k a b c => xrw_ne c) ⟨?_, ?_, fun i hi => ?_⟩ (fun w hw e => ⟨?_, ?_, fun i hi => ?_⟩)
  · rw [xrw_ne (by omega), xrw_ne (by omega)]
    exact s1
  · rw [xrw_ne (by omega), xrw_ne (by omega)]
    exact s2
  · rw [xrw_ne (by omega)] at hi
    rw [xrw_ne (by omega), xrw_same, xrw_same]
    by_cases hc : q ≤ i ∧ i < q + m
    · rw [pk_cpy_in hc.1 hc.2, pk_cpy_in (by omega) (by omega), ← hb]
      have e : 24 * t + p + (24 * u + i - (24 * u + q)) = 24 * t + (p + (i - q)) := by omega
      rw [e]
      exact (h.1.2.2.2.2.2.2 t ht).2.2 _ (by rw [eNt, nI_clamp (by omega)]; omega)
    · rw [pk_cpy_out (by omega), pk_cpy_out (by omega)]
      exact s3 i hi
  · rw [xrw_ne (by omega)]
  · rw [xrw_ne (by omega)]
  · rw [xrw_same, pk_cpy_out (by omega)]
theorem rel_move {F0 F : xF} {t u p q m : Nat} {r : Nat → Int32} (h : Rel F0) (hu : u < 4) (hM : Mid F0 F (xrw F0 76 (va_cpy (F0 76) (F0 76) (24 * t + p) (24 * u + q) m))) : Rel (xrw (xrw F 77 r) 76 (va_cpy (F 76) (F 76) (24 * t + p) (24 * u + q) m)) := by
  rw [xrw_comm (by decide)]
  refine rel_xrw (rel_sheet h hu hM (fun k hk => xrw_ne (by omega)) (fun k hk => ?_) (fun k a b c => xrw_ne c) ?_ (fun w hw e => ⟨?_, ?_⟩)) (by omega)
  · rw [hM.1 76 (by decide)]
    exact xrw_on hM.1 k hk
  · unfold invSheet
    rw [xrw_ne (by omega), xrw_ne (by omega)]
    exact h.2.2.2.2.2 u hu
  · rw [xrw_ne (by omega)]
  · rw [xrw_ne (by omega)]
theorem cpy_upd {f g : Nat → Int32} {a k : Nat} : upd (va_cpy f g 0 a k) (a + k) (f k) = va_cpy f g 0 a (k + 1) := by
  funext j
  unfold upd
  by_cases h1 : j = a + k
  · subst h1
    rw [if_pos rfl, pk_cpy_in (by omega) (by omega)]
    congr 1
    omega
  · rw [if_neg h1]
    by_cases h2 : a ≤ j ∧ j < a + k
    · rw [pk_cpy_in h2.1 h2.2, pk_cpy_in (by omega) (by omega)]
    · rw [pk_cpy_out (by omega), pk_cpy_out (by omega)]
theorem cpy_0 {f g : Nat → Int32} {a : Nat} : va_cpy f g 0 a 0 = g := by
  funext j
  exact pk_cpy_out (by omega)
theorem cpy_cut {f g h : Nat → Int32} {b a m : Nat} : va_cpy (cutS (fun x => f (b + x)) g m) h 0 a m = va_cpy f h b a m := by
  funext j
  by_cases h2 : a ≤ j ∧ j < a + m
  · rw [pk_cpy_in h2.1 h2.2, pk_cpy_in h2.1 h2.2, cutS_in (by omega), Nat.zero_add]
  · rw [pk_cpy_out (by omega), pk_cpy_out (by omega)]
def k_move (F : xF) (sh i o j n : Int32) : Int32 × xF :=
  if (0 ≤ sh.toInt ∧ sh.toInt < 4) ∧ 0 ≤ o.toInt ∧ o.toInt < 4 then
    (if (F 74 sh.toNatClampNeg).toInt = 0 ∨ (F 74 o.toNatClampNeg).toInt = 0 then (-1000000000 - 2, errF F 2)
     else if (F 74 sh.toNatClampNeg).toInt = (F 74 o.toNatClampNeg).toInt then
       (if 0 ≤ n.toInt ∧ 0 ≤ i.toInt ∧ 0 ≤ j.toInt ∧ i.toInt + n.toInt ≤ (F 75 sh.toNatClampNeg).toInt ∧ j.toInt + n.toInt ≤ (F 75 o.toNatClampNeg).toInt then
          (n, xrw F 76 (va_cpy (F 76) (F 76) (24 * sh.toNatClampNeg + i.toNatClampNeg) (24 * o.toNatClampNeg + j.toNatClampNeg) n.toNatClampNeg)) else (-1000000000 - 1, errF F 1))
     else (-1000000000 - 5, errF F 5)) else (-1000000000 - 1, errF F 1)
set_option maxHeartbeats 4000000 in
theorem c_cls_move {L : Nat} {xs : Nat → Int32} {d : Nat} {Q : Option Value → xF → Prop} {F : xF} {sh i o j n : Int32} (hR : Rel F) (hQ : ∀ F1, Mid F F1 (k_move F sh i o j n).2 → Q (some (.int (k_move F sh i o j n).1)) F1) : V2 L xs (d + 2) m_P_move 0 (xEntry [.ref 0, .int sh, .int i, .int o, .int j, .int n] 8) [] F Q := by
  have q0 : (0 : Int32).toInt = 0 := by decide
  have q1 : (1 : Int32).toInt = 1 := by decide
  have q2 : (2 : Int32).toInt = 2 := by decide
  have q3 : (3 : Int32).toInt = 3 := by decide
  have q4 : (4 : Int32).toInt = 4 := by decide
  have q5 : (5 : Int32).toInt = 5 := by decide
  have q6 : (6 : Int32).toInt = 6 := by decide
  have q7 : (7 : Int32).toInt = 7 := by decide
  have q8 : (8 : Int32).toInt = 8 := by decide
  have q9 : (9 : Int32).toInt = 9 := by decide
  have q10 : (10 : Int32).toInt = 10 := by decide
  have q12 : (12 : Int32).toInt = 12 := by decide
  have q16 : (16 : Int32).toInt = 16 := by decide
  have q20 : (20 : Int32).toInt = 20 := by decide
  have q24 : (24 : Int32).toInt = 24 := by decide
  have q30 : (30 : Int32).toInt = 30 := by decide
  have q32 : (32 : Int32).toInt = 32 := by decide
  have q40 : (40 : Int32).toInt = 40 := by decide
  have q60 : (60 : Int32).toInt = 60 := by decide
  have q69 : (69 : Int32).toInt = 69 := by decide
  have q99 : (99 : Int32).toInt = 99 := by decide
  have q9999 : (9999 : Int32).toInt = 9999 := by decide
  have q274 : (274 : Int32).toInt = 274 := by decide
  have q334 : (334 : Int32).toInt = 334 := by decide
  refine V2.to (l' := [some (.ref 0), some (.int sh), some (.int i), some (.int o), some (.int j), some (.int n), none, none]) ?_ rfl rfl rfl rfl
  refine V2_aload_n (i := 0) d_P_move_0 rfl rfl ?_
  refine V2_iload_n (i := 1) d_P_move_1 rfl rfl ?_
  refine V2_callV [.int sh] d_P_move_2 rfl rfl lk_P_268 mo_P_sheetAt (by decide) rfl rfl rfl (Nat.le_of_ble_eq_true rfl) (Nat.le_of_ble_eq_true rfl) ?_
  refine V2.to (l' := [some (.ref 0), some (.int sh)]) ?_ rfl rfl rfl rfl
  refine V2_iload_n (i := 1) d_P_sheetAt_0 rfl rfl ?_
  refine V2_if_lt (tgt := 22) d_P_sheetAt_1 rfl (fun c1 => ?_) (fun c1 => ?_)
  · refine V2_null d_P_sheetAt_22 ?_
    refine V2_areturnN d_P_sheetAt_23 rfl (Or.inl ⟨_, rfl⟩) ?_
    refine V2.to (st' := [.null]) ?_ rfl rfl rfl rfl
    refine V2_astoreN (i := 6) (l' := [some (.ref 0), some (.int sh), some (.int i), some (.int o), some (.int j), some (.int n), some (.null), none]) d_P_move_5 (xst_i (Nat.le_of_ble_eq_true rfl) rfl rfl) ?_
    refine V2_aload_n (i := 0) d_P_move_7 rfl rfl ?_
    refine V2_iload_n (i := 3) d_P_move_8 rfl rfl ?_
    refine V2_callV [.int o] d_P_move_9 rfl rfl lk_P_268 mo_P_sheetAt (by decide) rfl rfl rfl (Nat.le_of_ble_eq_true rfl) (Nat.le_of_ble_eq_true rfl) ?_
    refine V2.to (l' := [some (.ref 0), some (.int o)]) ?_ rfl rfl rfl rfl
    refine V2_iload_n (i := 1) d_P_sheetAt_0 rfl rfl ?_
    refine V2_if_lt (tgt := 22) d_P_sheetAt_1 rfl (fun c2 => ?_) (fun c2 => ?_)
    · refine V2_null d_P_sheetAt_22 ?_
      refine V2_areturnN d_P_sheetAt_23 rfl (Or.inl ⟨_, rfl⟩) ?_
      refine V2.to (st' := [.null]) ?_ rfl rfl rfl rfl
      refine V2_astoreN (i := 7) (l' := [some (.ref 0), some (.int sh), some (.int i), some (.int o), some (.int j), some (.int n), some (.null), some (.null)]) d_P_move_12 (xst_n (Nat.le_of_ble_eq_true rfl) rfl rfl) ?_
      refine V2_aloadN (i := 6) d_P_move_14 rfl ?_
      refine V2_ifnullN (tgt := 24) d_P_move_16 rfl ?_
      refine V2_aload_n (i := 0) d_P_move_24 rfl rfl ?_
      refine V2_iconst (v := 1) d_P_move_25 rfl ?_
      refine V2_callV [.int (1 : Int32)] d_P_move_26 rfl rfl lk_P_66 mo_P_fails (by decide) rfl rfl rfl (Nat.le_of_ble_eq_true rfl) (Nat.le_of_ble_eq_true rfl) ?_
      refine c_P_fails1 ?_
      refine V2_topi (fun v3 ev3 => ?_)
      refine V2_ireturn d_P_move_29 rfl ?_
      have hb0 : ¬ ((0 ≤ sh.toInt ∧ sh.toInt < 4) ∧ 0 ≤ o.toInt ∧ o.toInt < 4) := (by (try clear hQ); (try subst ev3); ((try simp only [xb_eq, xb_ne, Int32.lt_iff_toInt_lt, Int32.le_iff_toInt_le] at *) <;> (try simp only [← Int32.toInt_inj, true_and, false_and, or_false, false_or, or_true, true_or, and_true, and_false] at *) <;> omega))
      have e : k_move F sh i o j n = (-1000000000 - 1, errF F 1) := if_neg hb0
      rw [e] at hQ
      subst ev3
      exact xQi (hQ _ (mid_err hR (by decide))) rfl rfl
    · refine V2_iload_n (i := 1) d_P_sheetAt_4 rfl rfl ?_
      refine V2_aload_n (i := 0) d_P_sheetAt_5 rfl rfl ?_
      refine V2_getr (a := 55) d_P_sheetAt_6 fl_P_49 (by decide) rfl (by decide) rfl ?_
      refine V2_alen (t := 1) (v := 4) d_P_sheetAt_9 (by decide) rfl (by decide) rfl ?_
      refine V2_icmp_ge (tgt := 22) d_P_sheetAt_10 rfl (fun c4 => ?_) (fun c4 => ?_)
      · refine V2_null d_P_sheetAt_22 ?_
        refine V2_areturnN d_P_sheetAt_23 rfl (Or.inl ⟨_, rfl⟩) ?_
        refine V2.to (st' := [.null]) ?_ rfl rfl rfl rfl
        refine V2_astoreN (i := 7) (l' := [some (.ref 0), some (.int sh), some (.int i), some (.int o), some (.int j), some (.int n), some (.null), some (.null)]) d_P_move_12 (xst_n (Nat.le_of_ble_eq_true rfl) rfl rfl) ?_
        refine V2_aloadN (i := 6) d_P_move_14 rfl ?_
        refine V2_ifnullN (tgt := 24) d_P_move_16 rfl ?_
        refine V2_aload_n (i := 0) d_P_move_24 rfl rfl ?_
        refine V2_iconst (v := 1) d_P_move_25 rfl ?_
        refine V2_callV [.int (1 : Int32)] d_P_move_26 rfl rfl lk_P_66 mo_P_fails (by decide) rfl rfl rfl (Nat.le_of_ble_eq_true rfl) (Nat.le_of_ble_eq_true rfl) ?_
        refine c_P_fails1 ?_
        refine V2_topi (fun v5 ev5 => ?_)
        refine V2_ireturn d_P_move_29 rfl ?_
        have hb0 : ¬ ((0 ≤ sh.toInt ∧ sh.toInt < 4) ∧ 0 ≤ o.toInt ∧ o.toInt < 4) := (by (try clear hQ); (try subst ev5); ((try simp only [xb_eq, xb_ne, Int32.lt_iff_toInt_lt, Int32.le_iff_toInt_le] at *) <;> (try simp only [← Int32.toInt_inj, true_and, false_and, or_false, false_or, or_true, true_or, and_true, and_false] at *) <;> omega))
        have e : k_move F sh i o j n = (-1000000000 - 1, errF F 1) := if_neg hb0
        rw [e] at hQ
        subst ev5
        exact xQi (hQ _ (mid_err hR (by decide))) rfl rfl
      · obtain ⟨u, hu, epu⟩ := in_of (x := o) (P := 4) (by (try clear hQ); (try skip); ((try simp only [xb_eq, xb_ne, Int32.lt_iff_toInt_lt, Int32.le_iff_toInt_le] at *) <;> (try simp only [← Int32.toInt_inj, true_and, false_and, or_false, false_or, or_true, true_or, and_true, and_false] at *) <;> omega)) (by (try clear hQ); (try skip); ((try simp only [xb_eq, xb_ne, Int32.lt_iff_toInt_lt, Int32.le_iff_toInt_le] at *) <;> (try simp only [← Int32.toInt_inj, true_and, false_and, or_false, false_or, or_true, true_or, and_true, and_false] at *) <;> omega)) (by omega)
        subst epu
        have nu : (nI u).toInt = (u : Int) := nI_toInt (by omega)
        have ku : (nI u).toNatClampNeg = u := nI_clamp (by omega)
        obtain ⟨Nu, hNu, eNu, nNu, e2u, ebu, hbu⟩ := inv_sz hR hu
        have sSu : 0 ≤ j.toInt → (F (57 + 2 * u) 2 - j).toInt = (Nu : Int) - j.toInt := fun h => sub_any e2u (by omega) h
        have n2u : (F (57 + 2 * u) 2).toInt = (Nu : Int) := by rw [e2u]; exact nI_toInt (by omega)
        refine V2_aload_n (i := 0) d_P_sheetAt_13 rfl rfl ?_
        refine V2_getr (a := 55) d_P_sheetAt_14 fl_P_49 (by decide) rfl (by decide) rfl ?_
        refine V2_iload_n (i := 1) d_P_sheetAt_17 rfl rfl ?_
        refine V2_aaload (t := 0) (a := (57 + 2 * u)) d_P_sheetAt_18 (by decide) rfl (by decide) (vp_in_nI hu (by omega)) (sh_s hu) ?_
        refine V2_goto (tgt := 23) d_P_sheetAt_19 rfl ?_
        refine V2_areturn d_P_sheetAt_23 rfl (Or.inl ⟨_, rfl⟩) ?_
        refine V2.to (st' := [.ref (57 + 2 * u)]) ?_ rfl rfl rfl rfl
        refine V2_astore (i := 7) (l' := [some (.ref 0), some (.int sh), some (.int i), some (.int (nI u)), some (.int j), some (.int n), some (.null), some (.ref (57 + 2 * u))]) d_P_move_12 (xst_n (Nat.le_of_ble_eq_true rfl) rfl rfl) ?_
        refine V2_aloadN (i := 6) d_P_move_14 rfl ?_
        refine V2_ifnullN (tgt := 24) d_P_move_16 rfl ?_
        refine V2_aload_n (i := 0) d_P_move_24 rfl rfl ?_
        refine V2_iconst (v := 1) d_P_move_25 rfl ?_
        refine V2_callV [.int (1 : Int32)] d_P_move_26 rfl rfl lk_P_66 mo_P_fails (by decide) rfl rfl rfl (Nat.le_of_ble_eq_true rfl) (Nat.le_of_ble_eq_true rfl) ?_
        refine c_P_fails1 ?_
        refine V2_topi (fun v6 ev6 => ?_)
        refine V2_ireturn d_P_move_29 rfl ?_
        have hb0 : ¬ ((0 ≤ sh.toInt ∧ sh.toInt < 4) ∧ 0 ≤ (nI u).toInt ∧ (nI u).toInt < 4) := (by (try clear hQ); (try subst ev6); ((try simp only [xb_eq, xb_ne, Int32.lt_iff_toInt_lt, Int32.le_iff_toInt_le] at *) <;> (try simp only [← Int32.toInt_inj, true_and, false_and, or_false, false_or, or_true, true_or, and_true, and_false] at *) <;> omega))
        have e : k_move F sh i (nI u) j n = (-1000000000 - 1, errF F 1) := if_neg hb0
        rw [e] at hQ
        subst ev6
        exact xQi (hQ _ (mid_err hR (by decide))) rfl rfl
  · refine V2_iload_n (i := 1) d_P_sheetAt_4 rfl rfl ?_
    refine V2_aload_n (i := 0) d_P_sheetAt_5 rfl rfl ?_
    refine V2_getr (a := 55) d_P_sheetAt_6 fl_P_49 (by decide) rfl (by decide) rfl ?_
    refine V2_alen (t := 1) (v := 4) d_P_sheetAt_9 (by decide) rfl (by decide) rfl ?_
    refine V2_icmp_ge (tgt := 22) d_P_sheetAt_10 rfl (fun c7 => ?_) (fun c7 => ?_)
    · refine V2_null d_P_sheetAt_22 ?_
      refine V2_areturnN d_P_sheetAt_23 rfl (Or.inl ⟨_, rfl⟩) ?_
      refine V2.to (st' := [.null]) ?_ rfl rfl rfl rfl
      refine V2_astoreN (i := 6) (l' := [some (.ref 0), some (.int sh), some (.int i), some (.int o), some (.int j), some (.int n), some (.null), none]) d_P_move_5 (xst_i (Nat.le_of_ble_eq_true rfl) rfl rfl) ?_
      refine V2_aload_n (i := 0) d_P_move_7 rfl rfl ?_
      refine V2_iload_n (i := 3) d_P_move_8 rfl rfl ?_
      refine V2_callV [.int o] d_P_move_9 rfl rfl lk_P_268 mo_P_sheetAt (by decide) rfl rfl rfl (Nat.le_of_ble_eq_true rfl) (Nat.le_of_ble_eq_true rfl) ?_
      refine V2.to (l' := [some (.ref 0), some (.int o)]) ?_ rfl rfl rfl rfl
      refine V2_iload_n (i := 1) d_P_sheetAt_0 rfl rfl ?_
      refine V2_if_lt (tgt := 22) d_P_sheetAt_1 rfl (fun c8 => ?_) (fun c8 => ?_)
      · refine V2_null d_P_sheetAt_22 ?_
        refine V2_areturnN d_P_sheetAt_23 rfl (Or.inl ⟨_, rfl⟩) ?_
        refine V2.to (st' := [.null]) ?_ rfl rfl rfl rfl
        refine V2_astoreN (i := 7) (l' := [some (.ref 0), some (.int sh), some (.int i), some (.int o), some (.int j), some (.int n), some (.null), some (.null)]) d_P_move_12 (xst_n (Nat.le_of_ble_eq_true rfl) rfl rfl) ?_
        refine V2_aloadN (i := 6) d_P_move_14 rfl ?_
        refine V2_ifnullN (tgt := 24) d_P_move_16 rfl ?_
        refine V2_aload_n (i := 0) d_P_move_24 rfl rfl ?_
        refine V2_iconst (v := 1) d_P_move_25 rfl ?_
        refine V2_callV [.int (1 : Int32)] d_P_move_26 rfl rfl lk_P_66 mo_P_fails (by decide) rfl rfl rfl (Nat.le_of_ble_eq_true rfl) (Nat.le_of_ble_eq_true rfl) ?_
        refine c_P_fails1 ?_
        refine V2_topi (fun v9 ev9 => ?_)
        refine V2_ireturn d_P_move_29 rfl ?_
        have hb0 : ¬ ((0 ≤ sh.toInt ∧ sh.toInt < 4) ∧ 0 ≤ o.toInt ∧ o.toInt < 4) := (by (try clear hQ); (try subst ev9); ((try simp only [xb_eq, xb_ne, Int32.lt_iff_toInt_lt, Int32.le_iff_toInt_le] at *) <;> (try simp only [← Int32.toInt_inj, true_and, false_and, or_false, false_or, or_true, true_or, and_true, and_false] at *) <;> omega))
        have e : k_move F sh i o j n = (-1000000000 - 1, errF F 1) := if_neg hb0
        rw [e] at hQ
        subst ev9
        exact xQi (hQ _ (mid_err hR (by decide))) rfl rfl
      · refine V2_iload_n (i := 1) d_P_sheetAt_4 rfl rfl ?_
        refine V2_aload_n (i := 0) d_P_sheetAt_5 rfl rfl ?_
        refine V2_getr (a := 55) d_P_sheetAt_6 fl_P_49 (by decide) rfl (by decide) rfl ?_
        refine V2_alen (t := 1) (v := 4) d_P_sheetAt_9 (by decide) rfl (by decide) rfl ?_
        refine V2_icmp_ge (tgt := 22) d_P_sheetAt_10 rfl (fun c10 => ?_) (fun c10 => ?_)
        · refine V2_null d_P_sheetAt_22 ?_
          refine V2_areturnN d_P_sheetAt_23 rfl (Or.inl ⟨_, rfl⟩) ?_
          refine V2.to (st' := [.null]) ?_ rfl rfl rfl rfl
          refine V2_astoreN (i := 7) (l' := [some (.ref 0), some (.int sh), some (.int i), some (.int o), some (.int j), some (.int n), some (.null), some (.null)]) d_P_move_12 (xst_n (Nat.le_of_ble_eq_true rfl) rfl rfl) ?_
          refine V2_aloadN (i := 6) d_P_move_14 rfl ?_
          refine V2_ifnullN (tgt := 24) d_P_move_16 rfl ?_
          refine V2_aload_n (i := 0) d_P_move_24 rfl rfl ?_
          refine V2_iconst (v := 1) d_P_move_25 rfl ?_
          refine V2_callV [.int (1 : Int32)] d_P_move_26 rfl rfl lk_P_66 mo_P_fails (by decide) rfl rfl rfl (Nat.le_of_ble_eq_true rfl) (Nat.le_of_ble_eq_true rfl) ?_
          refine c_P_fails1 ?_
          refine V2_topi (fun v11 ev11 => ?_)
          refine V2_ireturn d_P_move_29 rfl ?_
          have hb0 : ¬ ((0 ≤ sh.toInt ∧ sh.toInt < 4) ∧ 0 ≤ o.toInt ∧ o.toInt < 4) := (by (try clear hQ); (try subst ev11); ((try simp only [xb_eq, xb_ne, Int32.lt_iff_toInt_lt, Int32.le_iff_toInt_le] at *) <;> (try simp only [← Int32.toInt_inj, true_and, false_and, or_false, false_or, or_true, true_or, and_true, and_false] at *) <;> omega))
          have e : k_move F sh i o j n = (-1000000000 - 1, errF F 1) := if_neg hb0
          rw [e] at hQ
          subst ev11
          exact xQi (hQ _ (mid_err hR (by decide))) rfl rfl
        · obtain ⟨u, hu, epu⟩ := in_of (x := o) (P := 4) (by (try clear hQ); (try skip); ((try simp only [xb_eq, xb_ne, Int32.lt_iff_toInt_lt, Int32.le_iff_toInt_le] at *) <;> (try simp only [← Int32.toInt_inj, true_and, false_and, or_false, false_or, or_true, true_or, and_true, and_false] at *) <;> omega)) (by (try clear hQ); (try skip); ((try simp only [xb_eq, xb_ne, Int32.lt_iff_toInt_lt, Int32.le_iff_toInt_le] at *) <;> (try simp only [← Int32.toInt_inj, true_and, false_and, or_false, false_or, or_true, true_or, and_true, and_false] at *) <;> omega)) (by omega)
          subst epu
          have nu : (nI u).toInt = (u : Int) := nI_toInt (by omega)
          have ku : (nI u).toNatClampNeg = u := nI_clamp (by omega)
          obtain ⟨Nu, hNu, eNu, nNu, e2u, ebu, hbu⟩ := inv_sz hR hu
          have sSu : 0 ≤ j.toInt → (F (57 + 2 * u) 2 - j).toInt = (Nu : Int) - j.toInt := fun h => sub_any e2u (by omega) h
          have n2u : (F (57 + 2 * u) 2).toInt = (Nu : Int) := by rw [e2u]; exact nI_toInt (by omega)
          refine V2_aload_n (i := 0) d_P_sheetAt_13 rfl rfl ?_
          refine V2_getr (a := 55) d_P_sheetAt_14 fl_P_49 (by decide) rfl (by decide) rfl ?_
          refine V2_iload_n (i := 1) d_P_sheetAt_17 rfl rfl ?_
          refine V2_aaload (t := 0) (a := (57 + 2 * u)) d_P_sheetAt_18 (by decide) rfl (by decide) (vp_in_nI hu (by omega)) (sh_s hu) ?_
          refine V2_goto (tgt := 23) d_P_sheetAt_19 rfl ?_
          refine V2_areturn d_P_sheetAt_23 rfl (Or.inl ⟨_, rfl⟩) ?_
          refine V2.to (st' := [.ref (57 + 2 * u)]) ?_ rfl rfl rfl rfl
          refine V2_astore (i := 7) (l' := [some (.ref 0), some (.int sh), some (.int i), some (.int (nI u)), some (.int j), some (.int n), some (.null), some (.ref (57 + 2 * u))]) d_P_move_12 (xst_n (Nat.le_of_ble_eq_true rfl) rfl rfl) ?_
          refine V2_aloadN (i := 6) d_P_move_14 rfl ?_
          refine V2_ifnullN (tgt := 24) d_P_move_16 rfl ?_
          refine V2_aload_n (i := 0) d_P_move_24 rfl rfl ?_
          refine V2_iconst (v := 1) d_P_move_25 rfl ?_
          refine V2_callV [.int (1 : Int32)] d_P_move_26 rfl rfl lk_P_66 mo_P_fails (by decide) rfl rfl rfl (Nat.le_of_ble_eq_true rfl) (Nat.le_of_ble_eq_true rfl) ?_
          refine c_P_fails1 ?_
          refine V2_topi (fun v12 ev12 => ?_)
          refine V2_ireturn d_P_move_29 rfl ?_
          have hb0 : ¬ ((0 ≤ sh.toInt ∧ sh.toInt < 4) ∧ 0 ≤ (nI u).toInt ∧ (nI u).toInt < 4) := (by (try clear hQ); (try subst ev12); ((try simp only [xb_eq, xb_ne, Int32.lt_iff_toInt_lt, Int32.le_iff_toInt_le] at *) <;> (try simp only [← Int32.toInt_inj, true_and, false_and, or_false, false_or, or_true, true_or, and_true, and_false] at *) <;> omega))
          have e : k_move F sh i (nI u) j n = (-1000000000 - 1, errF F 1) := if_neg hb0
          rw [e] at hQ
          subst ev12
          exact xQi (hQ _ (mid_err hR (by decide))) rfl rfl
    · obtain ⟨t, ht, ept⟩ := in_of (x := sh) (P := 4) (by (try clear hQ); (try skip); ((try simp only [xb_eq, xb_ne, Int32.lt_iff_toInt_lt, Int32.le_iff_toInt_le] at *) <;> (try simp only [← Int32.toInt_inj, true_and, false_and, or_false, false_or, or_true, true_or, and_true, and_false] at *) <;> omega)) (by (try clear hQ); (try skip); ((try simp only [xb_eq, xb_ne, Int32.lt_iff_toInt_lt, Int32.le_iff_toInt_le] at *) <;> (try simp only [← Int32.toInt_inj, true_and, false_and, or_false, false_or, or_true, true_or, and_true, and_false] at *) <;> omega)) (by omega)
      subst ept
      have nt : (nI t).toInt = (t : Int) := nI_toInt (by omega)
      have kt : (nI t).toNatClampNeg = t := nI_clamp (by omega)
      obtain ⟨N, hN, eN, nN, e2, eb, hb⟩ := inv_sz hR ht
      have sS : 0 ≤ i.toInt → (F (57 + 2 * t) 2 - i).toInt = (N : Int) - i.toInt := fun h => sub_any e2 (by omega) h
      have n2 : (F (57 + 2 * t) 2).toInt = (N : Int) := by rw [e2]; exact nI_toInt (by omega)
      refine V2_aload_n (i := 0) d_P_sheetAt_13 rfl rfl ?_
      refine V2_getr (a := 55) d_P_sheetAt_14 fl_P_49 (by decide) rfl (by decide) rfl ?_
      refine V2_iload_n (i := 1) d_P_sheetAt_17 rfl rfl ?_
      refine V2_aaload (t := 0) (a := (57 + 2 * t)) d_P_sheetAt_18 (by decide) rfl (by decide) (vp_in_nI ht (by omega)) (sh_s ht) ?_
      refine V2_goto (tgt := 23) d_P_sheetAt_19 rfl ?_
      refine V2_areturn d_P_sheetAt_23 rfl (Or.inl ⟨_, rfl⟩) ?_
      refine V2.to (st' := [.ref (57 + 2 * t)]) ?_ rfl rfl rfl rfl
      refine V2_astore (i := 6) (l' := [some (.ref 0), some (.int (nI t)), some (.int i), some (.int o), some (.int j), some (.int n), some (.ref (57 + 2 * t)), none]) d_P_move_5 (xst_i (Nat.le_of_ble_eq_true rfl) rfl rfl) ?_
      refine V2_aload_n (i := 0) d_P_move_7 rfl rfl ?_
      refine V2_iload_n (i := 3) d_P_move_8 rfl rfl ?_
      refine V2_callV [.int o] d_P_move_9 rfl rfl lk_P_268 mo_P_sheetAt (by decide) rfl rfl rfl (Nat.le_of_ble_eq_true rfl) (Nat.le_of_ble_eq_true rfl) ?_
      refine V2.to (l' := [some (.ref 0), some (.int o)]) ?_ rfl rfl rfl rfl
      refine V2_iload_n (i := 1) d_P_sheetAt_0 rfl rfl ?_
      refine V2_if_lt (tgt := 22) d_P_sheetAt_1 rfl (fun c13 => ?_) (fun c13 => ?_)
      · refine V2_null d_P_sheetAt_22 ?_
        refine V2_areturnN d_P_sheetAt_23 rfl (Or.inl ⟨_, rfl⟩) ?_
        refine V2.to (st' := [.null]) ?_ rfl rfl rfl rfl
        refine V2_astoreN (i := 7) (l' := [some (.ref 0), some (.int (nI t)), some (.int i), some (.int o), some (.int j), some (.int n), some (.ref (57 + 2 * t)), some (.null)]) d_P_move_12 (xst_r (Nat.le_of_ble_eq_true rfl) rfl rfl) ?_
        refine V2_aload (i := 6) d_P_move_14 rfl ?_
        refine V2_ifnull d_P_move_16 ?_
        refine V2_aloadN (i := 7) d_P_move_19 rfl ?_
        refine V2_ifnonnullN d_P_move_21 ?_
        refine V2_aload_n (i := 0) d_P_move_24 rfl rfl ?_
        refine V2_iconst (v := 1) d_P_move_25 rfl ?_
        refine V2_callV [.int (1 : Int32)] d_P_move_26 rfl rfl lk_P_66 mo_P_fails (by decide) rfl rfl rfl (Nat.le_of_ble_eq_true rfl) (Nat.le_of_ble_eq_true rfl) ?_
        refine c_P_fails1 ?_
        refine V2_topi (fun v14 ev14 => ?_)
        refine V2_ireturn d_P_move_29 rfl ?_
        have hb0 : ¬ ((0 ≤ (nI t).toInt ∧ (nI t).toInt < 4) ∧ 0 ≤ o.toInt ∧ o.toInt < 4) := (by (try clear hQ); (try subst ev14); ((try simp only [xb_eq, xb_ne, Int32.lt_iff_toInt_lt, Int32.le_iff_toInt_le] at *) <;> (try simp only [← Int32.toInt_inj, true_and, false_and, or_false, false_or, or_true, true_or, and_true, and_false] at *) <;> omega))
        have e : k_move F (nI t) i o j n = (-1000000000 - 1, errF F 1) := if_neg hb0
        rw [e] at hQ
        subst ev14
        exact xQi (hQ _ (mid_err hR (by decide))) rfl rfl
      · refine V2_iload_n (i := 1) d_P_sheetAt_4 rfl rfl ?_
        refine V2_aload_n (i := 0) d_P_sheetAt_5 rfl rfl ?_
        refine V2_getr (a := 55) d_P_sheetAt_6 fl_P_49 (by decide) rfl (by decide) rfl ?_
        refine V2_alen (t := 1) (v := 4) d_P_sheetAt_9 (by decide) rfl (by decide) rfl ?_
        refine V2_icmp_ge (tgt := 22) d_P_sheetAt_10 rfl (fun c15 => ?_) (fun c15 => ?_)
        · refine V2_null d_P_sheetAt_22 ?_
          refine V2_areturnN d_P_sheetAt_23 rfl (Or.inl ⟨_, rfl⟩) ?_
          refine V2.to (st' := [.null]) ?_ rfl rfl rfl rfl
          refine V2_astoreN (i := 7) (l' := [some (.ref 0), some (.int (nI t)), some (.int i), some (.int o), some (.int j), some (.int n), some (.ref (57 + 2 * t)), some (.null)]) d_P_move_12 (xst_r (Nat.le_of_ble_eq_true rfl) rfl rfl) ?_
          refine V2_aload (i := 6) d_P_move_14 rfl ?_
          refine V2_ifnull d_P_move_16 ?_
          refine V2_aloadN (i := 7) d_P_move_19 rfl ?_
          refine V2_ifnonnullN d_P_move_21 ?_
          refine V2_aload_n (i := 0) d_P_move_24 rfl rfl ?_
          refine V2_iconst (v := 1) d_P_move_25 rfl ?_
          refine V2_callV [.int (1 : Int32)] d_P_move_26 rfl rfl lk_P_66 mo_P_fails (by decide) rfl rfl rfl (Nat.le_of_ble_eq_true rfl) (Nat.le_of_ble_eq_true rfl) ?_
          refine c_P_fails1 ?_
          refine V2_topi (fun v16 ev16 => ?_)
          refine V2_ireturn d_P_move_29 rfl ?_
          have hb0 : ¬ ((0 ≤ (nI t).toInt ∧ (nI t).toInt < 4) ∧ 0 ≤ o.toInt ∧ o.toInt < 4) := (by (try clear hQ); (try subst ev16); ((try simp only [xb_eq, xb_ne, Int32.lt_iff_toInt_lt, Int32.le_iff_toInt_le] at *) <;> (try simp only [← Int32.toInt_inj, true_and, false_and, or_false, false_or, or_true, true_or, and_true, and_false] at *) <;> omega))
          have e : k_move F (nI t) i o j n = (-1000000000 - 1, errF F 1) := if_neg hb0
          rw [e] at hQ
          subst ev16
          exact xQi (hQ _ (mid_err hR (by decide))) rfl rfl
        · obtain ⟨u, hu, epu⟩ := in_of (x := o) (P := 4) (by (try clear hQ); (try skip); ((try simp only [xb_eq, xb_ne, Int32.lt_iff_toInt_lt, Int32.le_iff_toInt_le] at *) <;> (try simp only [← Int32.toInt_inj, true_and, false_and, or_false, false_or, or_true, true_or, and_true, and_false] at *) <;> omega)) (by (try clear hQ); (try skip); ((try simp only [xb_eq, xb_ne, Int32.lt_iff_toInt_lt, Int32.le_iff_toInt_le] at *) <;> (try simp only [← Int32.toInt_inj, true_and, false_and, or_false, false_or, or_true, true_or, and_true, and_false] at *) <;> omega)) (by omega)
          subst epu
          have nu : (nI u).toInt = (u : Int) := nI_toInt (by omega)
          have ku : (nI u).toNatClampNeg = u := nI_clamp (by omega)
          obtain ⟨Nu, hNu, eNu, nNu, e2u, ebu, hbu⟩ := inv_sz hR hu
          have sSu : 0 ≤ j.toInt → (F (57 + 2 * u) 2 - j).toInt = (Nu : Int) - j.toInt := fun h => sub_any e2u (by omega) h
          have n2u : (F (57 + 2 * u) 2).toInt = (Nu : Int) := by rw [e2u]; exact nI_toInt (by omega)
          refine V2_aload_n (i := 0) d_P_sheetAt_13 rfl rfl ?_
          refine V2_getr (a := 55) d_P_sheetAt_14 fl_P_49 (by decide) rfl (by decide) rfl ?_
          refine V2_iload_n (i := 1) d_P_sheetAt_17 rfl rfl ?_
          refine V2_aaload (t := 0) (a := (57 + 2 * u)) d_P_sheetAt_18 (by decide) rfl (by decide) (vp_in_nI hu (by omega)) (sh_s hu) ?_
          refine V2_goto (tgt := 23) d_P_sheetAt_19 rfl ?_
          refine V2_areturn d_P_sheetAt_23 rfl (Or.inl ⟨_, rfl⟩) ?_
          refine V2.to (st' := [.ref (57 + 2 * u)]) ?_ rfl rfl rfl rfl
          refine V2_astore (i := 7) (l' := [some (.ref 0), some (.int (nI t)), some (.int i), some (.int (nI u)), some (.int j), some (.int n), some (.ref (57 + 2 * t)), some (.ref (57 + 2 * u))]) d_P_move_12 (xst_r (Nat.le_of_ble_eq_true rfl) rfl rfl) ?_
          refine V2_aload (i := 6) d_P_move_14 rfl ?_
          refine V2_ifnull d_P_move_16 ?_
          refine V2_aload (i := 7) d_P_move_19 rfl ?_
          refine V2_ifnonnull (tgt := 30) d_P_move_21 rfl ?_
          refine V2_aload (i := 6) d_P_move_30 rfl ?_
          refine V2_callV [] d_P_move_32 rfl rfl lk_P_272 mo_Sheet_isMissing (by omega) (sh_k1 ht) rfl rfl (Nat.le_of_ble_eq_true rfl) (Nat.le_of_ble_eq_true rfl) ?_
          refine V2.to (l' := [some (.ref (57 + 2 * t))]) ?_ rfl rfl rfl rfl
          refine V2_aload_n (i := 0) d_Sheet_isMissing_0 rfl rfl ?_
          refine V2_get d_Sheet_isMissing_1 fl_Sheet_13 (by omega) (sh_k ht) (by decide) (sh_n ht (by decide)) rfl ?_
          refine V2_topi (fun v17 ev17 => ?_)
          refine V2_if_ne (tgt := 11) d_Sheet_isMissing_4 rfl (fun c18 => ?_) (fun c18 => ?_)
          · refine V2_iconst (v := 0) d_Sheet_isMissing_11 rfl ?_
            refine V2_zreturn d_Sheet_isMissing_12 rfl (by decide) ?_
            refine V2.to (st' := [.int (0 : Int32)]) ?_ rfl rfl rfl rfl
            refine V2_if_ne (tgt := 46) d_P_move_35 rfl (fun c => (by first | exact absurd c (by decide) | exact absurd (by decide) c)) (fun _ => ?_)
            refine V2_aload (i := 7) d_P_move_38 rfl ?_
            refine V2_callV [] d_P_move_40 rfl rfl lk_P_272 mo_Sheet_isMissing (by omega) (sh_k1 hu) rfl rfl (Nat.le_of_ble_eq_true rfl) (Nat.le_of_ble_eq_true rfl) ?_
            refine V2.to (l' := [some (.ref (57 + 2 * u))]) ?_ rfl rfl rfl rfl
            refine V2_aload_n (i := 0) d_Sheet_isMissing_0 rfl rfl ?_
            refine V2_get d_Sheet_isMissing_1 fl_Sheet_13 (by omega) (sh_k hu) (by decide) (sh_n hu (by decide)) rfl ?_
            refine V2_topi (fun v19 ev19 => ?_)
            refine V2_if_ne (tgt := 11) d_Sheet_isMissing_4 rfl (fun c20 => ?_) (fun c20 => ?_)
            · refine V2_iconst (v := 0) d_Sheet_isMissing_11 rfl ?_
              refine V2_zreturn d_Sheet_isMissing_12 rfl (by decide) ?_
              refine V2.to (st' := [.int (0 : Int32)]) ?_ rfl rfl rfl rfl
              refine V2_if_eq (tgt := 52) d_P_move_43 rfl (fun _ => ?_) (fun c => (by first | exact absurd c (by decide) | exact absurd (by decide) c))
              refine V2_aload (i := 6) d_P_move_52 rfl ?_
              refine V2_callV [] d_P_move_54 rfl rfl lk_P_322 mo_Sheet_bits (by omega) (sh_k1 ht) rfl rfl (Nat.le_of_ble_eq_true rfl) (Nat.le_of_ble_eq_true rfl) ?_
              refine V2.to (l' := [some (.ref (57 + 2 * t))]) ?_ rfl rfl rfl rfl
              refine V2_aload_n (i := 0) d_Sheet_bits_0 rfl rfl ?_
              refine V2_get d_Sheet_bits_1 fl_Sheet_13 (by omega) (sh_k ht) (by decide) (sh_n ht (by decide)) rfl ?_
              refine V2_topi (fun v21 ev21 => ?_)
              refine V2_ireturn d_Sheet_bits_4 rfl ?_
              refine V2.to (st' := [.int v21]) ?_ rfl rfl rfl rfl
              refine V2_aload (i := 7) d_P_move_57 rfl ?_
              refine V2_callV [] d_P_move_59 rfl rfl lk_P_322 mo_Sheet_bits (by omega) (sh_k1 hu) rfl rfl (Nat.le_of_ble_eq_true rfl) (Nat.le_of_ble_eq_true rfl) ?_
              refine V2.to (l' := [some (.ref (57 + 2 * u))]) ?_ rfl rfl rfl rfl
              refine V2_aload_n (i := 0) d_Sheet_bits_0 rfl rfl ?_
              refine V2_get d_Sheet_bits_1 fl_Sheet_13 (by omega) (sh_k hu) (by decide) (sh_n hu (by decide)) rfl ?_
              refine V2_topi (fun v22 ev22 => ?_)
              refine V2_ireturn d_Sheet_bits_4 rfl ?_
              refine V2.to (st' := [.int v22, .int v21]) ?_ rfl rfl rfl rfl
              refine V2_icmp_eq (tgt := 71) d_P_move_62 rfl (fun c23 => ?_) (fun c23 => ?_)
              · refine V2_aload (i := 6) d_P_move_71 rfl ?_
                refine V2_iload_n (i := 2) d_P_move_73 rfl rfl ?_
                refine V2_iload (i := 5) d_P_move_74 rfl ?_
                refine V2_callV [.int i, .int n] d_P_move_76 rfl rfl lk_P_316 mo_Sheet_holds (by omega) (sh_k1 ht) rfl rfl (Nat.le_of_ble_eq_true rfl) (Nat.le_of_ble_eq_true rfl) ?_
                refine V2.to (l' := [some (.ref (57 + 2 * t)), some (.int i), some (.int n)]) ?_ rfl rfl rfl rfl
                refine V2_iload_n (i := 1) d_Sheet_holds_0 rfl rfl ?_
                refine V2_if_lt (tgt := 30) d_Sheet_holds_1 rfl (fun c24 => ?_) (fun c24 => ?_)
                · refine V2_iconst (v := 0) d_Sheet_holds_30 rfl ?_
                  refine V2_zreturn d_Sheet_holds_31 rfl (by decide) ?_
                  refine V2.to (st' := [.int (0 : Int32)]) ?_ rfl rfl rfl rfl
                  refine V2_if_eq (tgt := 94) d_P_move_79 rfl (fun _ => ?_) (fun c => (by first | exact absurd c (by decide) | exact absurd (by decide) c))
                  refine V2_aload_n (i := 0) d_P_move_94 rfl rfl ?_
                  refine V2_iconst (v := 1) d_P_move_95 rfl ?_
                  refine V2_callV [.int (1 : Int32)] d_P_move_96 rfl rfl lk_P_66 mo_P_fails (by decide) rfl rfl rfl (Nat.le_of_ble_eq_true rfl) (Nat.le_of_ble_eq_true rfl) ?_
                  refine c_P_fails1 ?_
                  refine V2_topi (fun v25 ev25 => ?_)
                  refine V2_ireturn d_P_move_99 rfl ?_
                  have hb0 : (0 ≤ (nI t).toInt ∧ (nI t).toInt < 4) ∧ 0 ≤ (nI u).toInt ∧ (nI u).toInt < 4 := (by (try clear hQ); (try subst ev25 ev22 ev21 ev19 ev17); ((try simp only [xb_eq, xb_ne, Int32.lt_iff_toInt_lt, Int32.le_iff_toInt_le] at *) <;> (try simp only [← Int32.toInt_inj, true_and, false_and, or_false, false_or, or_true, true_or, and_true, and_false] at *) <;> omega))
                  have hb1 : ¬ ((F 74 t).toInt = 0 ∨ (F 74 u).toInt = 0) := (by (try clear hQ); (try subst ev25 ev22 ev21 ev19 ev17); ((try simp only [xb_eq, xb_ne, Int32.lt_iff_toInt_lt, Int32.le_iff_toInt_le] at *) <;> (try simp only [← Int32.toInt_inj, true_and, false_and, or_false, false_or, or_true, true_or, and_true, and_false] at *) <;> omega))
                  have hb2 : (F 74 t).toInt = (F 74 u).toInt := (by (try clear hQ); (try subst ev25 ev22 ev21 ev19 ev17); ((try simp only [xb_eq, xb_ne, Int32.lt_iff_toInt_lt, Int32.le_iff_toInt_le] at *) <;> (try simp only [← Int32.toInt_inj, true_and, false_and, or_false, false_or, or_true, true_or, and_true, and_false] at *) <;> omega))
                  have hb3 : ¬ (0 ≤ n.toInt ∧ 0 ≤ i.toInt ∧ 0 ≤ j.toInt ∧ i.toInt + n.toInt ≤ (F 75 t).toInt ∧ j.toInt + n.toInt ≤ (F 75 u).toInt) := (by (try clear hQ); (try subst ev25 ev22 ev21 ev19 ev17); ((try simp only [xb_eq, xb_ne, Int32.lt_iff_toInt_lt, Int32.le_iff_toInt_le] at *) <;> (try simp only [← Int32.toInt_inj, true_and, false_and, or_false, false_or, or_true, true_or, and_true, and_false] at *) <;> omega))
                  have e : k_move F (nI t) i (nI u) j n = (-1000000000 - 1, errF F 1) := (if_pos hb0).trans (by rw [kt, ku]; exact (if_neg hb1).trans ((if_pos hb2).trans (if_neg hb3)))
                  rw [e] at hQ
                  subst ev25 ev22 ev21 ev19 ev17
                  exact xQi (hQ _ (mid_err hR (by decide))) rfl rfl
                · refine V2_iload_n (i := 2) d_Sheet_holds_4 rfl rfl ?_
                  refine V2_if_lt (tgt := 30) d_Sheet_holds_5 rfl (fun c26 => ?_) (fun c26 => ?_)
                  · refine V2_iconst (v := 0) d_Sheet_holds_30 rfl ?_
                    refine V2_zreturn d_Sheet_holds_31 rfl (by decide) ?_
                    refine V2.to (st' := [.int (0 : Int32)]) ?_ rfl rfl rfl rfl
                    refine V2_if_eq (tgt := 94) d_P_move_79 rfl (fun _ => ?_) (fun c => (by first | exact absurd c (by decide) | exact absurd (by decide) c))
                    refine V2_aload_n (i := 0) d_P_move_94 rfl rfl ?_
                    refine V2_iconst (v := 1) d_P_move_95 rfl ?_
                    refine V2_callV [.int (1 : Int32)] d_P_move_96 rfl rfl lk_P_66 mo_P_fails (by decide) rfl rfl rfl (Nat.le_of_ble_eq_true rfl) (Nat.le_of_ble_eq_true rfl) ?_
                    refine c_P_fails1 ?_
                    refine V2_topi (fun v27 ev27 => ?_)
                    refine V2_ireturn d_P_move_99 rfl ?_
                    have hb0 : (0 ≤ (nI t).toInt ∧ (nI t).toInt < 4) ∧ 0 ≤ (nI u).toInt ∧ (nI u).toInt < 4 := (by (try clear hQ); (try subst ev27 ev22 ev21 ev19 ev17); ((try simp only [xb_eq, xb_ne, Int32.lt_iff_toInt_lt, Int32.le_iff_toInt_le] at *) <;> (try simp only [← Int32.toInt_inj, true_and, false_and, or_false, false_or, or_true, true_or, and_true, and_false] at *) <;> omega))
                    have hb1 : ¬ ((F 74 t).toInt = 0 ∨ (F 74 u).toInt = 0) := (by (try clear hQ); (try subst ev27 ev22 ev21 ev19 ev17); ((try simp only [xb_eq, xb_ne, Int32.lt_iff_toInt_lt, Int32.le_iff_toInt_le] at *) <;> (try simp only [← Int32.toInt_inj, true_and, false_and, or_false, false_or, or_true, true_or, and_true, and_false] at *) <;> omega))
                    have hb2 : (F 74 t).toInt = (F 74 u).toInt := (by (try clear hQ); (try subst ev27 ev22 ev21 ev19 ev17); ((try simp only [xb_eq, xb_ne, Int32.lt_iff_toInt_lt, Int32.le_iff_toInt_le] at *) <;> (try simp only [← Int32.toInt_inj, true_and, false_and, or_false, false_or, or_true, true_or, and_true, and_false] at *) <;> omega))
                    have hb3 : ¬ (0 ≤ n.toInt ∧ 0 ≤ i.toInt ∧ 0 ≤ j.toInt ∧ i.toInt + n.toInt ≤ (F 75 t).toInt ∧ j.toInt + n.toInt ≤ (F 75 u).toInt) := (by (try clear hQ); (try subst ev27 ev22 ev21 ev19 ev17); ((try simp only [xb_eq, xb_ne, Int32.lt_iff_toInt_lt, Int32.le_iff_toInt_le] at *) <;> (try simp only [← Int32.toInt_inj, true_and, false_and, or_false, false_or, or_true, true_or, and_true, and_false] at *) <;> omega))
                    have e : k_move F (nI t) i (nI u) j n = (-1000000000 - 1, errF F 1) := (if_pos hb0).trans (by rw [kt, ku]; exact (if_neg hb1).trans ((if_pos hb2).trans (if_neg hb3)))
                    rw [e] at hQ
                    subst ev27 ev22 ev21 ev19 ev17
                    exact xQi (hQ _ (mid_err hR (by decide))) rfl rfl
                  · refine V2_iload_n (i := 1) d_Sheet_holds_8 rfl rfl ?_
                    refine V2_aload_n (i := 0) d_Sheet_holds_9 rfl rfl ?_
                    refine V2_get d_Sheet_holds_10 fl_Sheet_17 (by omega) (sh_k ht) (by decide) (sh_n ht (by decide)) rfl ?_
                    refine V2_topi (fun v28 ev28 => ?_)
                    refine V2_icmp_gt (tgt := 30) d_Sheet_holds_13 rfl (fun c29 => ?_) (fun c29 => ?_)
                    · refine V2_iconst (v := 0) d_Sheet_holds_30 rfl ?_
                      refine V2_zreturn d_Sheet_holds_31 rfl (by decide) ?_
                      refine V2.to (st' := [.int (0 : Int32)]) ?_ rfl rfl rfl rfl
                      refine V2_if_eq (tgt := 94) d_P_move_79 rfl (fun _ => ?_) (fun c => (by first | exact absurd c (by decide) | exact absurd (by decide) c))
                      refine V2_aload_n (i := 0) d_P_move_94 rfl rfl ?_
                      refine V2_iconst (v := 1) d_P_move_95 rfl ?_
                      refine V2_callV [.int (1 : Int32)] d_P_move_96 rfl rfl lk_P_66 mo_P_fails (by decide) rfl rfl rfl (Nat.le_of_ble_eq_true rfl) (Nat.le_of_ble_eq_true rfl) ?_
                      refine c_P_fails1 ?_
                      refine V2_topi (fun v30 ev30 => ?_)
                      refine V2_ireturn d_P_move_99 rfl ?_
                      have hb0 : (0 ≤ (nI t).toInt ∧ (nI t).toInt < 4) ∧ 0 ≤ (nI u).toInt ∧ (nI u).toInt < 4 := (by (try clear hQ); (try subst ev30 ev28 ev22 ev21 ev19 ev17); ((try simp only [xb_eq, xb_ne, Int32.lt_iff_toInt_lt, Int32.le_iff_toInt_le] at *) <;> (try simp only [← Int32.toInt_inj, true_and, false_and, or_false, false_or, or_true, true_or, and_true, and_false] at *) <;> omega))
                      have hb1 : ¬ ((F 74 t).toInt = 0 ∨ (F 74 u).toInt = 0) := (by (try clear hQ); (try subst ev30 ev28 ev22 ev21 ev19 ev17); ((try simp only [xb_eq, xb_ne, Int32.lt_iff_toInt_lt, Int32.le_iff_toInt_le] at *) <;> (try simp only [← Int32.toInt_inj, true_and, false_and, or_false, false_or, or_true, true_or, and_true, and_false] at *) <;> omega))
                      have hb2 : (F 74 t).toInt = (F 74 u).toInt := (by (try clear hQ); (try subst ev30 ev28 ev22 ev21 ev19 ev17); ((try simp only [xb_eq, xb_ne, Int32.lt_iff_toInt_lt, Int32.le_iff_toInt_le] at *) <;> (try simp only [← Int32.toInt_inj, true_and, false_and, or_false, false_or, or_true, true_or, and_true, and_false] at *) <;> omega))
                      have hb3 : ¬ (0 ≤ n.toInt ∧ 0 ≤ i.toInt ∧ 0 ≤ j.toInt ∧ i.toInt + n.toInt ≤ (F 75 t).toInt ∧ j.toInt + n.toInt ≤ (F 75 u).toInt) := (by (try clear hQ); (try subst ev30 ev28 ev22 ev21 ev19 ev17); ((try simp only [xb_eq, xb_ne, Int32.lt_iff_toInt_lt, Int32.le_iff_toInt_le] at *) <;> (try simp only [← Int32.toInt_inj, true_and, false_and, or_false, false_or, or_true, true_or, and_true, and_false] at *) <;> omega))
                      have e : k_move F (nI t) i (nI u) j n = (-1000000000 - 1, errF F 1) := (if_pos hb0).trans (by rw [kt, ku]; exact (if_neg hb1).trans ((if_pos hb2).trans (if_neg hb3)))
                      rw [e] at hQ
                      subst ev30 ev28 ev22 ev21 ev19 ev17
                      exact xQi (hQ _ (mid_err hR (by decide))) rfl rfl
                    · refine V2_iload_n (i := 2) d_Sheet_holds_16 rfl rfl ?_
                      refine V2_aload_n (i := 0) d_Sheet_holds_17 rfl rfl ?_
                      refine V2_get d_Sheet_holds_18 fl_Sheet_17 (by omega) (sh_k ht) (by decide) (sh_n ht (by decide)) rfl ?_
                      refine V2_topi (fun v31 ev31 => ?_)
                      refine V2_iload_n (i := 1) d_Sheet_holds_21 rfl rfl ?_
                      refine V2_isub d_Sheet_holds_22 ?_
                      refine V2_topi (fun v32 ev32 => ?_)
                      refine V2_icmp_gt (tgt := 30) d_Sheet_holds_23 rfl (fun c33 => ?_) (fun c33 => ?_)
                      · refine V2_iconst (v := 0) d_Sheet_holds_30 rfl ?_
                        refine V2_zreturn d_Sheet_holds_31 rfl (by decide) ?_
                        refine V2.to (st' := [.int (0 : Int32)]) ?_ rfl rfl rfl rfl
                        refine V2_if_eq (tgt := 94) d_P_move_79 rfl (fun _ => ?_) (fun c => (by first | exact absurd c (by decide) | exact absurd (by decide) c))
                        refine V2_aload_n (i := 0) d_P_move_94 rfl rfl ?_
                        refine V2_iconst (v := 1) d_P_move_95 rfl ?_
                        refine V2_callV [.int (1 : Int32)] d_P_move_96 rfl rfl lk_P_66 mo_P_fails (by decide) rfl rfl rfl (Nat.le_of_ble_eq_true rfl) (Nat.le_of_ble_eq_true rfl) ?_
                        refine c_P_fails1 ?_
                        refine V2_topi (fun v34 ev34 => ?_)
                        refine V2_ireturn d_P_move_99 rfl ?_
                        have hb0 : (0 ≤ (nI t).toInt ∧ (nI t).toInt < 4) ∧ 0 ≤ (nI u).toInt ∧ (nI u).toInt < 4 := (by (try clear hQ); (try subst ev34 ev32 ev31 ev28 ev22 ev21 ev19 ev17); ((try simp only [xb_eq, xb_ne, Int32.lt_iff_toInt_lt, Int32.le_iff_toInt_le] at *) <;> (try simp only [← Int32.toInt_inj, true_and, false_and, or_false, false_or, or_true, true_or, and_true, and_false] at *) <;> omega))
                        have hb1 : ¬ ((F 74 t).toInt = 0 ∨ (F 74 u).toInt = 0) := (by (try clear hQ); (try subst ev34 ev32 ev31 ev28 ev22 ev21 ev19 ev17); ((try simp only [xb_eq, xb_ne, Int32.lt_iff_toInt_lt, Int32.le_iff_toInt_le] at *) <;> (try simp only [← Int32.toInt_inj, true_and, false_and, or_false, false_or, or_true, true_or, and_true, and_false] at *) <;> omega))
                        have hb2 : (F 74 t).toInt = (F 74 u).toInt := (by (try clear hQ); (try subst ev34 ev32 ev31 ev28 ev22 ev21 ev19 ev17); ((try simp only [xb_eq, xb_ne, Int32.lt_iff_toInt_lt, Int32.le_iff_toInt_le] at *) <;> (try simp only [← Int32.toInt_inj, true_and, false_and, or_false, false_or, or_true, true_or, and_true, and_false] at *) <;> omega))
                        have hb3 : ¬ (0 ≤ n.toInt ∧ 0 ≤ i.toInt ∧ 0 ≤ j.toInt ∧ i.toInt + n.toInt ≤ (F 75 t).toInt ∧ j.toInt + n.toInt ≤ (F 75 u).toInt) := (by (try clear hQ); (try subst ev34 ev32 ev31 ev28 ev22 ev21 ev19 ev17); ((try simp only [xb_eq, xb_ne, Int32.lt_iff_toInt_lt, Int32.le_iff_toInt_le] at *) <;> (try simp only [← Int32.toInt_inj, true_and, false_and, or_false, false_or, or_true, true_or, and_true, and_false] at *) <;> omega))
                        have e : k_move F (nI t) i (nI u) j n = (-1000000000 - 1, errF F 1) := (if_pos hb0).trans (by rw [kt, ku]; exact (if_neg hb1).trans ((if_pos hb2).trans (if_neg hb3)))
                        rw [e] at hQ
                        subst ev34 ev32 ev31 ev28 ev22 ev21 ev19 ev17
                        exact xQi (hQ _ (mid_err hR (by decide))) rfl rfl
                      · refine V2_iconst (v := 1) d_Sheet_holds_26 rfl ?_
                        refine V2_goto (tgt := 31) d_Sheet_holds_27 rfl ?_
                        refine V2_zreturn d_Sheet_holds_31 rfl (by decide) ?_
                        refine V2.to (st' := [.int (1 : Int32)]) ?_ rfl rfl rfl rfl
                        refine V2_if_eq (tgt := 94) d_P_move_79 rfl (fun c => (by first | exact absurd c (by decide) | exact absurd (by decide) c)) (fun _ => ?_)
                        refine V2_aload (i := 7) d_P_move_82 rfl ?_
                        refine V2_iload (i := 4) d_P_move_84 rfl ?_
                        refine V2_iload (i := 5) d_P_move_86 rfl ?_
                        refine V2_callV [.int j, .int n] d_P_move_88 rfl rfl lk_P_316 mo_Sheet_holds (by omega) (sh_k1 hu) rfl rfl (Nat.le_of_ble_eq_true rfl) (Nat.le_of_ble_eq_true rfl) ?_
                        refine V2.to (l' := [some (.ref (57 + 2 * u)), some (.int j), some (.int n)]) ?_ rfl rfl rfl rfl
                        refine V2_iload_n (i := 1) d_Sheet_holds_0 rfl rfl ?_
                        refine V2_if_lt (tgt := 30) d_Sheet_holds_1 rfl (fun c35 => ?_) (fun c35 => ?_)
                        · refine V2_iconst (v := 0) d_Sheet_holds_30 rfl ?_
                          refine V2_zreturn d_Sheet_holds_31 rfl (by decide) ?_
                          refine V2.to (st' := [.int (0 : Int32)]) ?_ rfl rfl rfl rfl
                          refine V2_if_ne (tgt := 100) d_P_move_91 rfl (fun c => (by first | exact absurd c (by decide) | exact absurd (by decide) c)) (fun _ => ?_)
                          refine V2_aload_n (i := 0) d_P_move_94 rfl rfl ?_
                          refine V2_iconst (v := 1) d_P_move_95 rfl ?_
                          refine V2_callV [.int (1 : Int32)] d_P_move_96 rfl rfl lk_P_66 mo_P_fails (by decide) rfl rfl rfl (Nat.le_of_ble_eq_true rfl) (Nat.le_of_ble_eq_true rfl) ?_
                          refine c_P_fails1 ?_
                          refine V2_topi (fun v36 ev36 => ?_)
                          refine V2_ireturn d_P_move_99 rfl ?_
                          have hb0 : (0 ≤ (nI t).toInt ∧ (nI t).toInt < 4) ∧ 0 ≤ (nI u).toInt ∧ (nI u).toInt < 4 := (by (try clear hQ); (try subst ev36 ev32 ev31 ev28 ev22 ev21 ev19 ev17); ((try simp only [xb_eq, xb_ne, Int32.lt_iff_toInt_lt, Int32.le_iff_toInt_le] at *) <;> (try simp only [← Int32.toInt_inj, true_and, false_and, or_false, false_or, or_true, true_or, and_true, and_false] at *) <;> omega))
                          have hb1 : ¬ ((F 74 t).toInt = 0 ∨ (F 74 u).toInt = 0) := (by (try clear hQ); (try subst ev36 ev32 ev31 ev28 ev22 ev21 ev19 ev17); ((try simp only [xb_eq, xb_ne, Int32.lt_iff_toInt_lt, Int32.le_iff_toInt_le] at *) <;> (try simp only [← Int32.toInt_inj, true_and, false_and, or_false, false_or, or_true, true_or, and_true, and_false] at *) <;> omega))
                          have hb2 : (F 74 t).toInt = (F 74 u).toInt := (by (try clear hQ); (try subst ev36 ev32 ev31 ev28 ev22 ev21 ev19 ev17); ((try simp only [xb_eq, xb_ne, Int32.lt_iff_toInt_lt, Int32.le_iff_toInt_le] at *) <;> (try simp only [← Int32.toInt_inj, true_and, false_and, or_false, false_or, or_true, true_or, and_true, and_false] at *) <;> omega))
                          have hb3 : ¬ (0 ≤ n.toInt ∧ 0 ≤ i.toInt ∧ 0 ≤ j.toInt ∧ i.toInt + n.toInt ≤ (F 75 t).toInt ∧ j.toInt + n.toInt ≤ (F 75 u).toInt) := (by (try clear hQ); (try subst ev36 ev32 ev31 ev28 ev22 ev21 ev19 ev17); ((try simp only [xb_eq, xb_ne, Int32.lt_iff_toInt_lt, Int32.le_iff_toInt_le] at *) <;> (try simp only [← Int32.toInt_inj, true_and, false_and, or_false, false_or, or_true, true_or, and_true, and_false] at *) <;> omega))
                          have e : k_move F (nI t) i (nI u) j n = (-1000000000 - 1, errF F 1) := (if_pos hb0).trans (by rw [kt, ku]; exact (if_neg hb1).trans ((if_pos hb2).trans (if_neg hb3)))
                          rw [e] at hQ
                          subst ev36 ev32 ev31 ev28 ev22 ev21 ev19 ev17
                          exact xQi (hQ _ (mid_err hR (by decide))) rfl rfl
                        · refine V2_iload_n (i := 2) d_Sheet_holds_4 rfl rfl ?_
                          refine V2_if_lt (tgt := 30) d_Sheet_holds_5 rfl (fun c37 => ?_) (fun c37 => ?_)
                          · refine V2_iconst (v := 0) d_Sheet_holds_30 rfl ?_
                            refine V2_zreturn d_Sheet_holds_31 rfl (by decide) ?_
                            refine V2.to (st' := [.int (0 : Int32)]) ?_ rfl rfl rfl rfl
                            refine V2_if_ne (tgt := 100) d_P_move_91 rfl (fun c => (by first | exact absurd c (by decide) | exact absurd (by decide) c)) (fun _ => ?_)
                            refine V2_aload_n (i := 0) d_P_move_94 rfl rfl ?_
                            refine V2_iconst (v := 1) d_P_move_95 rfl ?_
                            refine V2_callV [.int (1 : Int32)] d_P_move_96 rfl rfl lk_P_66 mo_P_fails (by decide) rfl rfl rfl (Nat.le_of_ble_eq_true rfl) (Nat.le_of_ble_eq_true rfl) ?_
                            refine c_P_fails1 ?_
                            refine V2_topi (fun v38 ev38 => ?_)
                            refine V2_ireturn d_P_move_99 rfl ?_
                            have hb0 : (0 ≤ (nI t).toInt ∧ (nI t).toInt < 4) ∧ 0 ≤ (nI u).toInt ∧ (nI u).toInt < 4 := (by (try clear hQ); (try subst ev38 ev32 ev31 ev28 ev22 ev21 ev19 ev17); ((try simp only [xb_eq, xb_ne, Int32.lt_iff_toInt_lt, Int32.le_iff_toInt_le] at *) <;> (try simp only [← Int32.toInt_inj, true_and, false_and, or_false, false_or, or_true, true_or, and_true, and_false] at *) <;> omega))
                            have hb1 : ¬ ((F 74 t).toInt = 0 ∨ (F 74 u).toInt = 0) := (by (try clear hQ); (try subst ev38 ev32 ev31 ev28 ev22 ev21 ev19 ev17); ((try simp only [xb_eq, xb_ne, Int32.lt_iff_toInt_lt, Int32.le_iff_toInt_le] at *) <;> (try simp only [← Int32.toInt_inj, true_and, false_and, or_false, false_or, or_true, true_or, and_true, and_false] at *) <;> omega))
                            have hb2 : (F 74 t).toInt = (F 74 u).toInt := (by (try clear hQ); (try subst ev38 ev32 ev31 ev28 ev22 ev21 ev19 ev17); ((try simp only [xb_eq, xb_ne, Int32.lt_iff_toInt_lt, Int32.le_iff_toInt_le] at *) <;> (try simp only [← Int32.toInt_inj, true_and, false_and, or_false, false_or, or_true, true_or, and_true, and_false] at *) <;> omega))
                            have hb3 : ¬ (0 ≤ n.toInt ∧ 0 ≤ i.toInt ∧ 0 ≤ j.toInt ∧ i.toInt + n.toInt ≤ (F 75 t).toInt ∧ j.toInt + n.toInt ≤ (F 75 u).toInt) := (by (try clear hQ); (try subst ev38 ev32 ev31 ev28 ev22 ev21 ev19 ev17); ((try simp only [xb_eq, xb_ne, Int32.lt_iff_toInt_lt, Int32.le_iff_toInt_le] at *) <;> (try simp only [← Int32.toInt_inj, true_and, false_and, or_false, false_or, or_true, true_or, and_true, and_false] at *) <;> omega))
                            have e : k_move F (nI t) i (nI u) j n = (-1000000000 - 1, errF F 1) := (if_pos hb0).trans (by rw [kt, ku]; exact (if_neg hb1).trans ((if_pos hb2).trans (if_neg hb3)))
                            rw [e] at hQ
                            subst ev38 ev32 ev31 ev28 ev22 ev21 ev19 ev17
                            exact xQi (hQ _ (mid_err hR (by decide))) rfl rfl
                          · refine V2_iload_n (i := 1) d_Sheet_holds_8 rfl rfl ?_
                            refine V2_aload_n (i := 0) d_Sheet_holds_9 rfl rfl ?_
                            refine V2_get d_Sheet_holds_10 fl_Sheet_17 (by omega) (sh_k hu) (by decide) (sh_n hu (by decide)) rfl ?_
                            refine V2_topi (fun v39 ev39 => ?_)
                            refine V2_icmp_gt (tgt := 30) d_Sheet_holds_13 rfl (fun c40 => ?_) (fun c40 => ?_)
                            · refine V2_iconst (v := 0) d_Sheet_holds_30 rfl ?_
                              refine V2_zreturn d_Sheet_holds_31 rfl (by decide) ?_
                              refine V2.to (st' := [.int (0 : Int32)]) ?_ rfl rfl rfl rfl
                              refine V2_if_ne (tgt := 100) d_P_move_91 rfl (fun c => (by first | exact absurd c (by decide) | exact absurd (by decide) c)) (fun _ => ?_)
                              refine V2_aload_n (i := 0) d_P_move_94 rfl rfl ?_
                              refine V2_iconst (v := 1) d_P_move_95 rfl ?_
                              refine V2_callV [.int (1 : Int32)] d_P_move_96 rfl rfl lk_P_66 mo_P_fails (by decide) rfl rfl rfl (Nat.le_of_ble_eq_true rfl) (Nat.le_of_ble_eq_true rfl) ?_
                              refine c_P_fails1 ?_
                              refine V2_topi (fun v41 ev41 => ?_)
                              refine V2_ireturn d_P_move_99 rfl ?_
                              have hb0 : (0 ≤ (nI t).toInt ∧ (nI t).toInt < 4) ∧ 0 ≤ (nI u).toInt ∧ (nI u).toInt < 4 := (by (try clear hQ); (try subst ev41 ev39 ev32 ev31 ev28 ev22 ev21 ev19 ev17); ((try simp only [xb_eq, xb_ne, Int32.lt_iff_toInt_lt, Int32.le_iff_toInt_le] at *) <;> (try simp only [← Int32.toInt_inj, true_and, false_and, or_false, false_or, or_true, true_or, and_true, and_false] at *) <;> omega))
                              have hb1 : ¬ ((F 74 t).toInt = 0 ∨ (F 74 u).toInt = 0) := (by (try clear hQ); (try subst ev41 ev39 ev32 ev31 ev28 ev22 ev21 ev19 ev17); ((try simp only [xb_eq, xb_ne, Int32.lt_iff_toInt_lt, Int32.le_iff_toInt_le] at *) <;> (try simp only [← Int32.toInt_inj, true_and, false_and, or_false, false_or, or_true, true_or, and_true, and_false] at *) <;> omega))
                              have hb2 : (F 74 t).toInt = (F 74 u).toInt := (by (try clear hQ); (try subst ev41 ev39 ev32 ev31 ev28 ev22 ev21 ev19 ev17); ((try simp only [xb_eq, xb_ne, Int32.lt_iff_toInt_lt, Int32.le_iff_toInt_le] at *) <;> (try simp only [← Int32.toInt_inj, true_and, false_and, or_false, false_or, or_true, true_or, and_true, and_false] at *) <;> omega))
                              have hb3 : ¬ (0 ≤ n.toInt ∧ 0 ≤ i.toInt ∧ 0 ≤ j.toInt ∧ i.toInt + n.toInt ≤ (F 75 t).toInt ∧ j.toInt + n.toInt ≤ (F 75 u).toInt) := (by (try clear hQ); (try subst ev41 ev39 ev32 ev31 ev28 ev22 ev21 ev19 ev17); ((try simp only [xb_eq, xb_ne, Int32.lt_iff_toInt_lt, Int32.le_iff_toInt_le] at *) <;> (try simp only [← Int32.toInt_inj, true_and, false_and, or_false, false_or, or_true, true_or, and_true, and_false] at *) <;> omega))
                              have e : k_move F (nI t) i (nI u) j n = (-1000000000 - 1, errF F 1) := (if_pos hb0).trans (by rw [kt, ku]; exact (if_neg hb1).trans ((if_pos hb2).trans (if_neg hb3)))
                              rw [e] at hQ
                              subst ev41 ev39 ev32 ev31 ev28 ev22 ev21 ev19 ev17
                              exact xQi (hQ _ (mid_err hR (by decide))) rfl rfl
                            · refine V2_iload_n (i := 2) d_Sheet_holds_16 rfl rfl ?_
                              refine V2_aload_n (i := 0) d_Sheet_holds_17 rfl rfl ?_
                              refine V2_get d_Sheet_holds_18 fl_Sheet_17 (by omega) (sh_k hu) (by decide) (sh_n hu (by decide)) rfl ?_
                              refine V2_topi (fun v42 ev42 => ?_)
                              refine V2_iload_n (i := 1) d_Sheet_holds_21 rfl rfl ?_
                              refine V2_isub d_Sheet_holds_22 ?_
                              refine V2_topi (fun v43 ev43 => ?_)
                              refine V2_icmp_gt (tgt := 30) d_Sheet_holds_23 rfl (fun c44 => ?_) (fun c44 => ?_)
                              · refine V2_iconst (v := 0) d_Sheet_holds_30 rfl ?_
                                refine V2_zreturn d_Sheet_holds_31 rfl (by decide) ?_
                                refine V2.to (st' := [.int (0 : Int32)]) ?_ rfl rfl rfl rfl
                                refine V2_if_ne (tgt := 100) d_P_move_91 rfl (fun c => (by first | exact absurd c (by decide) | exact absurd (by decide) c)) (fun _ => ?_)
                                refine V2_aload_n (i := 0) d_P_move_94 rfl rfl ?_
                                refine V2_iconst (v := 1) d_P_move_95 rfl ?_
                                refine V2_callV [.int (1 : Int32)] d_P_move_96 rfl rfl lk_P_66 mo_P_fails (by decide) rfl rfl rfl (Nat.le_of_ble_eq_true rfl) (Nat.le_of_ble_eq_true rfl) ?_
                                refine c_P_fails1 ?_
                                refine V2_topi (fun v45 ev45 => ?_)
                                refine V2_ireturn d_P_move_99 rfl ?_
                                have hb0 : (0 ≤ (nI t).toInt ∧ (nI t).toInt < 4) ∧ 0 ≤ (nI u).toInt ∧ (nI u).toInt < 4 := (by (try clear hQ); (try subst ev45 ev43 ev42 ev39 ev32 ev31 ev28 ev22 ev21 ev19 ev17); ((try simp only [xb_eq, xb_ne, Int32.lt_iff_toInt_lt, Int32.le_iff_toInt_le] at *) <;> (try simp only [← Int32.toInt_inj, true_and, false_and, or_false, false_or, or_true, true_or, and_true, and_false] at *) <;> omega))
                                have hb1 : ¬ ((F 74 t).toInt = 0 ∨ (F 74 u).toInt = 0) := (by (try clear hQ); (try subst ev45 ev43 ev42 ev39 ev32 ev31 ev28 ev22 ev21 ev19 ev17); ((try simp only [xb_eq, xb_ne, Int32.lt_iff_toInt_lt, Int32.le_iff_toInt_le] at *) <;> (try simp only [← Int32.toInt_inj, true_and, false_and, or_false, false_or, or_true, true_or, and_true, and_false] at *) <;> omega))
                                have hb2 : (F 74 t).toInt = (F 74 u).toInt := (by (try clear hQ); (try subst ev45 ev43 ev42 ev39 ev32 ev31 ev28 ev22 ev21 ev19 ev17); ((try simp only [xb_eq, xb_ne, Int32.lt_iff_toInt_lt, Int32.le_iff_toInt_le] at *) <;> (try simp only [← Int32.toInt_inj, true_and, false_and, or_false, false_or, or_true, true_or, and_true, and_false] at *) <;> omega))
                                have hb3 : ¬ (0 ≤ n.toInt ∧ 0 ≤ i.toInt ∧ 0 ≤ j.toInt ∧ i.toInt + n.toInt ≤ (F 75 t).toInt ∧ j.toInt + n.toInt ≤ (F 75 u).toInt) := (by (try clear hQ); (try subst ev45 ev43 ev42 ev39 ev32 ev31 ev28 ev22 ev21 ev19 ev17); ((try simp only [xb_eq, xb_ne, Int32.lt_iff_toInt_lt, Int32.le_iff_toInt_le] at *) <;> (try simp only [← Int32.toInt_inj, true_and, false_and, or_false, false_or, or_true, true_or, and_true, and_false] at *) <;> omega))
                                have e : k_move F (nI t) i (nI u) j n = (-1000000000 - 1, errF F 1) := (if_pos hb0).trans (by rw [kt, ku]; exact (if_neg hb1).trans ((if_pos hb2).trans (if_neg hb3)))
                                rw [e] at hQ
                                subst ev45 ev43 ev42 ev39 ev32 ev31 ev28 ev22 ev21 ev19 ev17
                                exact xQi (hQ _ (mid_err hR (by decide))) rfl rfl
                              · refine V2_iconst (v := 1) d_Sheet_holds_26 rfl ?_
                                refine V2_goto (tgt := 31) d_Sheet_holds_27 rfl ?_
                                refine V2_zreturn d_Sheet_holds_31 rfl (by decide) ?_
                                refine V2.to (st' := [.int (1 : Int32)]) ?_ rfl rfl rfl rfl
                                refine V2_if_ne (tgt := 100) d_P_move_91 rfl (fun _ => ?_) (fun c => (by first | exact absurd c (by decide) | exact absurd (by decide) c))
                                obtain ⟨p, hp, epp⟩ := in_of (x := i) (P := 25) (by (try clear hQ); (try subst ev43 ev42 ev39 ev32 ev31 ev28 ev22 ev21 ev19 ev17); ((try simp only [xb_eq, xb_ne, Int32.lt_iff_toInt_lt, Int32.le_iff_toInt_le] at *) <;> (try simp only [← Int32.toInt_inj, true_and, false_and, or_false, false_or, or_true, true_or, and_true, and_false] at *) <;> omega)) (by (try clear hQ); (try subst ev43 ev42 ev39 ev32 ev31 ev28 ev22 ev21 ev19 ev17); ((try simp only [xb_eq, xb_ne, Int32.lt_iff_toInt_lt, Int32.le_iff_toInt_le] at *) <;> (try simp only [← Int32.toInt_inj, true_and, false_and, or_false, false_or, or_true, true_or, and_true, and_false] at *) <;> omega)) (by omega)
                                subst epp
                                have np : (nI p).toInt = (p : Int) := nI_toInt (by omega)
                                have kp : (nI p).toNatClampNeg = p := nI_clamp (by omega)
                                obtain ⟨q, hq, epq⟩ := in_of (x := j) (P := 25) (by (try clear hQ); (try subst ev43 ev42 ev39 ev32 ev31 ev28 ev22 ev21 ev19 ev17); ((try simp only [xb_eq, xb_ne, Int32.lt_iff_toInt_lt, Int32.le_iff_toInt_le] at *) <;> (try simp only [← Int32.toInt_inj, true_and, false_and, or_false, false_or, or_true, true_or, and_true, and_false] at *) <;> omega)) (by (try clear hQ); (try subst ev43 ev42 ev39 ev32 ev31 ev28 ev22 ev21 ev19 ev17); ((try simp only [xb_eq, xb_ne, Int32.lt_iff_toInt_lt, Int32.le_iff_toInt_le] at *) <;> (try simp only [← Int32.toInt_inj, true_and, false_and, or_false, false_or, or_true, true_or, and_true, and_false] at *) <;> omega)) (by omega)
                                subst epq
                                have nq : (nI q).toInt = (q : Int) := nI_toInt (by omega)
                                have kq : (nI q).toNatClampNeg = q := nI_clamp (by omega)
                                obtain ⟨m, hm, epm⟩ := in_of (x := n) (P := 25) (by (try clear hQ); (try subst ev43 ev42 ev39 ev32 ev31 ev28 ev22 ev21 ev19 ev17); ((try simp only [xb_eq, xb_ne, Int32.lt_iff_toInt_lt, Int32.le_iff_toInt_le] at *) <;> (try simp only [← Int32.toInt_inj, true_and, false_and, or_false, false_or, or_true, true_or, and_true, and_false] at *) <;> omega)) (by (try clear hQ); (try subst ev43 ev42 ev39 ev32 ev31 ev28 ev22 ev21 ev19 ev17); ((try simp only [xb_eq, xb_ne, Int32.lt_iff_toInt_lt, Int32.le_iff_toInt_le] at *) <;> (try simp only [← Int32.toInt_inj, true_and, false_and, or_false, false_or, or_true, true_or, and_true, and_false] at *) <;> omega)) (by omega)
                                subst epm
                                have nm : (nI m).toInt = (m : Int) := nI_toInt (by omega)
                                have km : (nI m).toNatClampNeg = m := nI_clamp (by omega)
                                have hpm : p + m ≤ 24 := (by (try clear hQ); (try subst ev43 ev42 ev39 ev32 ev31 ev28 ev22 ev21 ev19 ev17); ((try simp only [xb_eq, xb_ne, Int32.lt_iff_toInt_lt, Int32.le_iff_toInt_le] at *) <;> (try simp only [← Int32.toInt_inj, true_and, false_and, or_false, false_or, or_true, true_or, and_true, and_false] at *) <;> omega))
                                have hqm : q + m ≤ 24 := (by (try clear hQ); (try subst ev43 ev42 ev39 ev32 ev31 ev28 ev22 ev21 ev19 ev17); ((try simp only [xb_eq, xb_ne, Int32.lt_iff_toInt_lt, Int32.le_iff_toInt_le] at *) <;> (try simp only [← Int32.toInt_inj, true_and, false_and, or_false, false_or, or_true, true_or, and_true, and_false] at *) <;> omega))
                                refine V2_aload (i := 7) d_P_move_100 rfl ?_
                                refine V2_iload (i := 4) d_P_move_102 rfl ?_
                                refine V2_aload (i := 6) d_P_move_104 rfl ?_
                                refine V2_iload_n (i := 2) d_P_move_106 rfl rfl ?_
                                refine V2_iload (i := 5) d_P_move_107 rfl ?_
                                refine V2_callV [.int (nI q), .ref (57 + 2 * t), .int (nI p), .int (nI m)] d_P_move_109 rfl rfl lk_P_325 mo_Sheet_takes (by omega) (sh_k1 hu) rfl rfl (Nat.le_of_ble_eq_true rfl) (Nat.le_of_ble_eq_true rfl) ?_
                                refine V2.to (l' := [some (.ref (57 + 2 * u)), some (.int (nI q)), some (.ref (57 + 2 * t)), some (.int (nI p)), some (.int (nI m))]) ?_ rfl rfl rfl rfl
                                refine V2_aload_n (i := 0) d_Sheet_takes_0 rfl rfl ?_
                                refine V2_iload_n (i := 1) d_Sheet_takes_1 rfl rfl ?_
                                refine V2_iload (i := 4) d_Sheet_takes_2 rfl ?_
                                refine V2_callV [.int (nI q), .int (nI m)] d_Sheet_takes_4 rfl rfl lk_Sheet_30 mo_Sheet_holds (by omega) (sh_k1 hu) rfl rfl (Nat.le_of_ble_eq_true rfl) (Nat.le_of_ble_eq_true rfl) ?_
                                refine V2.to (l' := [some (.ref (57 + 2 * u)), some (.int (nI q)), some (.int (nI m))]) ?_ rfl rfl rfl rfl
                                refine V2_iload_n (i := 1) d_Sheet_holds_0 rfl rfl ?_
                                refine V2_if_lt (tgt := 30) d_Sheet_holds_1 rfl (fun c46 => (by first | exact absurd c46 (show ¬ nI q < 0 from nI_pos (by omega)) | exact absurd (show ¬ nI q < 0 from nI_pos (by omega)) c46)) (fun c46 => ?_)
                                refine V2_iload_n (i := 2) d_Sheet_holds_4 rfl rfl ?_
                                refine V2_if_lt (tgt := 30) d_Sheet_holds_5 rfl (fun c47 => (by first | exact absurd c47 (show ¬ nI m < 0 from nI_pos (by omega)) | exact absurd (show ¬ nI m < 0 from nI_pos (by omega)) c47)) (fun c47 => ?_)
                                refine V2_iload_n (i := 1) d_Sheet_holds_8 rfl rfl ?_
                                refine V2_aload_n (i := 0) d_Sheet_holds_9 rfl rfl ?_
                                refine V2_get d_Sheet_holds_10 fl_Sheet_17 (by omega) (sh_k hu) (by decide) (sh_n hu (by decide)) rfl ?_
                                refine V2_topi (fun v48 ev48 => ?_)
                                refine V2_icmp_gt (tgt := 30) d_Sheet_holds_13 rfl (fun c49 => (by first | exact absurd c49 (show ¬ v48 < nI q from (by (try clear hQ); (try subst ev48 ev43 ev42 ev39 ev32 ev31 ev28 ev22 ev21 ev19 ev17); ((try simp only [xb_eq, xb_ne, Int32.lt_iff_toInt_lt, Int32.le_iff_toInt_le] at *) <;> (try simp only [← Int32.toInt_inj, true_and, false_and, or_false, false_or, or_true, true_or, and_true, and_false] at *) <;> omega))) | exact absurd (show ¬ v48 < nI q from (by (try clear hQ); (try subst ev48 ev43 ev42 ev39 ev32 ev31 ev28 ev22 ev21 ev19 ev17); ((try simp only [xb_eq, xb_ne, Int32.lt_iff_toInt_lt, Int32.le_iff_toInt_le] at *) <;> (try simp only [← Int32.toInt_inj, true_and, false_and, or_false, false_or, or_true, true_or, and_true, and_false] at *) <;> omega))) c49)) (fun c49 => ?_)
                                refine V2_iload_n (i := 2) d_Sheet_holds_16 rfl rfl ?_
                                refine V2_aload_n (i := 0) d_Sheet_holds_17 rfl rfl ?_
                                refine V2_get d_Sheet_holds_18 fl_Sheet_17 (by omega) (sh_k hu) (by decide) (sh_n hu (by decide)) rfl ?_
                                refine V2_topi (fun v50 ev50 => ?_)
                                refine V2_iload_n (i := 1) d_Sheet_holds_21 rfl rfl ?_
                                refine V2_isub d_Sheet_holds_22 ?_
                                refine V2_topi (fun v51 ev51 => ?_)
                                refine V2_icmp_gt (tgt := 30) d_Sheet_holds_23 rfl (fun c52 => (by first | exact absurd c52 (show ¬ v51 < nI m from (by (try clear hQ); (try subst ev51 ev50 ev48 ev43 ev42 ev39 ev32 ev31 ev28 ev22 ev21 ev19 ev17); ((try simp only [xb_eq, xb_ne, Int32.lt_iff_toInt_lt, Int32.le_iff_toInt_le] at *) <;> (try simp only [← Int32.toInt_inj, true_and, false_and, or_false, false_or, or_true, true_or, and_true, and_false] at *) <;> omega))) | exact absurd (show ¬ v51 < nI m from (by (try clear hQ); (try subst ev51 ev50 ev48 ev43 ev42 ev39 ev32 ev31 ev28 ev22 ev21 ev19 ev17); ((try simp only [xb_eq, xb_ne, Int32.lt_iff_toInt_lt, Int32.le_iff_toInt_le] at *) <;> (try simp only [← Int32.toInt_inj, true_and, false_and, or_false, false_or, or_true, true_or, and_true, and_false] at *) <;> omega))) c52)) (fun c52 => ?_)
                                refine V2_iconst (v := 1) d_Sheet_holds_26 rfl ?_
                                refine V2_goto (tgt := 31) d_Sheet_holds_27 rfl ?_
                                refine V2_zreturn d_Sheet_holds_31 rfl (by decide) ?_
                                refine V2.to (st' := [.int (1 : Int32)]) ?_ rfl rfl rfl rfl
                                refine V2_if_eq (tgt := 35) d_Sheet_takes_7 rfl (fun c => (by first | exact absurd c (by decide) | exact absurd (by decide) c)) (fun _ => ?_)
                                refine V2_aload_n (i := 2) d_Sheet_takes_10 rfl rfl ?_
                                refine V2_iload_n (i := 3) d_Sheet_takes_11 rfl rfl ?_
                                refine V2_iload (i := 4) d_Sheet_takes_12 rfl ?_
                                refine V2_callV [.int (nI p), .int (nI m)] d_Sheet_takes_14 rfl rfl lk_Sheet_30 mo_Sheet_holds (by omega) (sh_k1 ht) rfl rfl (Nat.le_of_ble_eq_true rfl) (Nat.le_of_ble_eq_true rfl) ?_
                                refine V2.to (l' := [some (.ref (57 + 2 * t)), some (.int (nI p)), some (.int (nI m))]) ?_ rfl rfl rfl rfl
                                refine V2_iload_n (i := 1) d_Sheet_holds_0 rfl rfl ?_
                                refine V2_if_lt (tgt := 30) d_Sheet_holds_1 rfl (fun c53 => (by first | exact absurd c53 (show ¬ nI p < 0 from nI_pos (by omega)) | exact absurd (show ¬ nI p < 0 from nI_pos (by omega)) c53)) (fun c53 => ?_)
                                refine V2_iload_n (i := 2) d_Sheet_holds_4 rfl rfl ?_
                                refine V2_if_lt (tgt := 30) d_Sheet_holds_5 rfl (fun c54 => (by first | exact absurd c54 (show ¬ nI m < 0 from nI_pos (by omega)) | exact absurd (show ¬ nI m < 0 from nI_pos (by omega)) c54)) (fun c54 => ?_)
                                refine V2_iload_n (i := 1) d_Sheet_holds_8 rfl rfl ?_
                                refine V2_aload_n (i := 0) d_Sheet_holds_9 rfl rfl ?_
                                refine V2_get d_Sheet_holds_10 fl_Sheet_17 (by omega) (sh_k ht) (by decide) (sh_n ht (by decide)) rfl ?_
                                refine V2_topi (fun v55 ev55 => ?_)
                                refine V2_icmp_gt (tgt := 30) d_Sheet_holds_13 rfl (fun c56 => (by first | exact absurd c56 (show ¬ v55 < nI p from (by (try clear hQ); (try subst ev55 ev51 ev50 ev48 ev43 ev42 ev39 ev32 ev31 ev28 ev22 ev21 ev19 ev17); ((try simp only [xb_eq, xb_ne, Int32.lt_iff_toInt_lt, Int32.le_iff_toInt_le] at *) <;> (try simp only [← Int32.toInt_inj, true_and, false_and, or_false, false_or, or_true, true_or, and_true, and_false] at *) <;> omega))) | exact absurd (show ¬ v55 < nI p from (by (try clear hQ); (try subst ev55 ev51 ev50 ev48 ev43 ev42 ev39 ev32 ev31 ev28 ev22 ev21 ev19 ev17); ((try simp only [xb_eq, xb_ne, Int32.lt_iff_toInt_lt, Int32.le_iff_toInt_le] at *) <;> (try simp only [← Int32.toInt_inj, true_and, false_and, or_false, false_or, or_true, true_or, and_true, and_false] at *) <;> omega))) c56)) (fun c56 => ?_)
                                refine V2_iload_n (i := 2) d_Sheet_holds_16 rfl rfl ?_
                                refine V2_aload_n (i := 0) d_Sheet_holds_17 rfl rfl ?_
                                refine V2_get d_Sheet_holds_18 fl_Sheet_17 (by omega) (sh_k ht) (by decide) (sh_n ht (by decide)) rfl ?_
                                refine V2_topi (fun v57 ev57 => ?_)
                                refine V2_iload_n (i := 1) d_Sheet_holds_21 rfl rfl ?_
                                refine V2_isub d_Sheet_holds_22 ?_
                                refine V2_topi (fun v58 ev58 => ?_)
                                refine V2_icmp_gt (tgt := 30) d_Sheet_holds_23 rfl (fun c59 => (by first | exact absurd c59 (show ¬ v58 < nI m from (by (try clear hQ); (try subst ev58 ev57 ev55 ev51 ev50 ev48 ev43 ev42 ev39 ev32 ev31 ev28 ev22 ev21 ev19 ev17); ((try simp only [xb_eq, xb_ne, Int32.lt_iff_toInt_lt, Int32.le_iff_toInt_le] at *) <;> (try simp only [← Int32.toInt_inj, true_and, false_and, or_false, false_or, or_true, true_or, and_true, and_false] at *) <;> omega))) | exact absurd (show ¬ v58 < nI m from (by (try clear hQ); (try subst ev58 ev57 ev55 ev51 ev50 ev48 ev43 ev42 ev39 ev32 ev31 ev28 ev22 ev21 ev19 ev17); ((try simp only [xb_eq, xb_ne, Int32.lt_iff_toInt_lt, Int32.le_iff_toInt_le] at *) <;> (try simp only [← Int32.toInt_inj, true_and, false_and, or_false, false_or, or_true, true_or, and_true, and_false] at *) <;> omega))) c59)) (fun c59 => ?_)
                                refine V2_iconst (v := 1) d_Sheet_holds_26 rfl ?_
                                refine V2_goto (tgt := 31) d_Sheet_holds_27 rfl ?_
                                refine V2_zreturn d_Sheet_holds_31 rfl (by decide) ?_
                                refine V2.to (st' := [.int (1 : Int32)]) ?_ rfl rfl rfl rfl
                                refine V2_if_eq (tgt := 35) d_Sheet_takes_17 rfl (fun c => (by first | exact absurd c (by decide) | exact absurd (by decide) c)) (fun _ => ?_)
                                refine V2_aload_n (i := 2) d_Sheet_takes_20 rfl rfl ?_
                                refine V2_getr (a := (58 + 2 * t)) d_Sheet_takes_21 fl_Sheet_9 (by omega) (sh_k ht) (by decide) (sh_r ht) ?_
                                refine V2_iload_n (i := 3) d_Sheet_takes_24 rfl rfl ?_
                                refine V2_aload_n (i := 0) d_Sheet_takes_25 rfl rfl ?_
                                refine V2_getr (a := (58 + 2 * u)) d_Sheet_takes_26 fl_Sheet_9 (by omega) (sh_k hu) (by decide) (sh_r hu) ?_
                                refine V2_iload_n (i := 1) d_Sheet_takes_29 rfl rfl ?_
                                refine V2_iload (i := 4) d_Sheet_takes_30 rfl ?_
                                refine V2_copy d_Sheet_takes_32 lz_Sheet_34 (by omega) (by omega) (sh_a ht) (sh_a hu) (nI_pos (by omega)) (nI_pos (by omega)) (nI_pos (by omega)) (by rw [nI_clamp (by omega), nI_clamp (by omega)]; omega) (by rw [nI_clamp (by omega), nI_clamp (by omega)]; omega) (Nat.le_of_ble_eq_true rfl) ?_
                                refine V2_return d_Sheet_takes_35 rfl ?_
                                refine V2.to (st' := []) ?_ rfl rfl rfl rfl
                                refine V2_iload (i := 5) d_P_move_112 rfl ?_
                                refine V2_ireturn d_P_move_114 rfl ?_
                                have hb0 : (0 ≤ (nI t).toInt ∧ (nI t).toInt < 4) ∧ 0 ≤ (nI u).toInt ∧ (nI u).toInt < 4 := (by (try clear hQ); (try subst ev58 ev57 ev55 ev51 ev50 ev48 ev43 ev42 ev39 ev32 ev31 ev28 ev22 ev21 ev19 ev17); ((try simp only [xb_eq, xb_ne, Int32.lt_iff_toInt_lt, Int32.le_iff_toInt_le] at *) <;> (try simp only [← Int32.toInt_inj, true_and, false_and, or_false, false_or, or_true, true_or, and_true, and_false] at *) <;> omega))
                                have hb1 : ¬ ((F 74 t).toInt = 0 ∨ (F 74 u).toInt = 0) := (by (try clear hQ); (try subst ev58 ev57 ev55 ev51 ev50 ev48 ev43 ev42 ev39 ev32 ev31 ev28 ev22 ev21 ev19 ev17); ((try simp only [xb_eq, xb_ne, Int32.lt_iff_toInt_lt, Int32.le_iff_toInt_le] at *) <;> (try simp only [← Int32.toInt_inj, true_and, false_and, or_false, false_or, or_true, true_or, and_true, and_false] at *) <;> omega))
                                have hb2 : (F 74 t).toInt = (F 74 u).toInt := (by (try clear hQ); (try subst ev58 ev57 ev55 ev51 ev50 ev48 ev43 ev42 ev39 ev32 ev31 ev28 ev22 ev21 ev19 ev17); ((try simp only [xb_eq, xb_ne, Int32.lt_iff_toInt_lt, Int32.le_iff_toInt_le] at *) <;> (try simp only [← Int32.toInt_inj, true_and, false_and, or_false, false_or, or_true, true_or, and_true, and_false] at *) <;> omega))
                                have hb3 : 0 ≤ (nI m).toInt ∧ 0 ≤ (nI p).toInt ∧ 0 ≤ (nI q).toInt ∧ (nI p).toInt + (nI m).toInt ≤ (F 75 t).toInt ∧ (nI q).toInt + (nI m).toInt ≤ (F 75 u).toInt := (by (try clear hQ); (try subst ev58 ev57 ev55 ev51 ev50 ev48 ev43 ev42 ev39 ev32 ev31 ev28 ev22 ev21 ev19 ev17); ((try simp only [xb_eq, xb_ne, Int32.lt_iff_toInt_lt, Int32.le_iff_toInt_le] at *) <;> (try simp only [← Int32.toInt_inj, true_and, false_and, or_false, false_or, or_true, true_or, and_true, and_false] at *) <;> omega))
                                have e : k_move F (nI t) (nI p) (nI u) (nI q) (nI m) = (nI m, xrw F 76 (va_cpy (F 76) (F 76) (24 * t + p) (24 * u + q) m)) := (if_pos hb0).trans (by rw [kt, ku, kp, kq, km]; exact (if_neg hb1).trans ((if_pos hb2).trans (if_pos hb3)))
                                rw [e] at hQ
                                subst ev58 ev57 ev55 ev51 ev50 ev48 ev43 ev42 ev39 ev32 ev31 ev28 ev22 ev21 ev19 ev17
                                rw [kp, kq, km]
                                exact xQi (hQ _ (mid_move hR ht hu eN eNu hN hNu (Int32.toInt_inj.mp hb2) (by omega) (by omega))) rfl rfl
              · refine V2_aload_n (i := 0) d_P_move_65 rfl rfl ?_
                refine V2_iconst (v := 5) d_P_move_66 rfl ?_
                refine V2_callV [.int (5 : Int32)] d_P_move_67 rfl rfl lk_P_66 mo_P_fails (by decide) rfl rfl rfl (Nat.le_of_ble_eq_true rfl) (Nat.le_of_ble_eq_true rfl) ?_
                refine c_P_fails5 ?_
                refine V2_topi (fun v60 ev60 => ?_)
                refine V2_ireturn d_P_move_70 rfl ?_
                have hb0 : (0 ≤ (nI t).toInt ∧ (nI t).toInt < 4) ∧ 0 ≤ (nI u).toInt ∧ (nI u).toInt < 4 := (by (try clear hQ); (try subst ev60 ev22 ev21 ev19 ev17); ((try simp only [xb_eq, xb_ne, Int32.lt_iff_toInt_lt, Int32.le_iff_toInt_le] at *) <;> (try simp only [← Int32.toInt_inj, true_and, false_and, or_false, false_or, or_true, true_or, and_true, and_false] at *) <;> omega))
                have hb1 : ¬ ((F 74 t).toInt = 0 ∨ (F 74 u).toInt = 0) := (by (try clear hQ); (try subst ev60 ev22 ev21 ev19 ev17); ((try simp only [xb_eq, xb_ne, Int32.lt_iff_toInt_lt, Int32.le_iff_toInt_le] at *) <;> (try simp only [← Int32.toInt_inj, true_and, false_and, or_false, false_or, or_true, true_or, and_true, and_false] at *) <;> omega))
                have hb2 : ¬ ((F 74 t).toInt = (F 74 u).toInt) := (by (try clear hQ); (try subst ev60 ev22 ev21 ev19 ev17); ((try simp only [xb_eq, xb_ne, Int32.lt_iff_toInt_lt, Int32.le_iff_toInt_le] at *) <;> (try simp only [← Int32.toInt_inj, true_and, false_and, or_false, false_or, or_true, true_or, and_true, and_false] at *) <;> omega))
                have e : k_move F (nI t) i (nI u) j n = (-1000000000 - 5, errF F 5) := (if_pos hb0).trans (by rw [kt, ku]; exact (if_neg hb1).trans (if_neg hb2))
                rw [e] at hQ
                subst ev60 ev22 ev21 ev19 ev17
                exact xQi (hQ _ (mid_err hR (by decide))) rfl rfl
            · refine V2_iconst (v := 1) d_Sheet_isMissing_7 rfl ?_
              refine V2_goto (tgt := 12) d_Sheet_isMissing_8 rfl ?_
              refine V2_zreturn d_Sheet_isMissing_12 rfl (by decide) ?_
              refine V2.to (st' := [.int (1 : Int32)]) ?_ rfl rfl rfl rfl
              refine V2_if_eq (tgt := 52) d_P_move_43 rfl (fun c => (by first | exact absurd c (by decide) | exact absurd (by decide) c)) (fun _ => ?_)
              refine V2_aload_n (i := 0) d_P_move_46 rfl rfl ?_
              refine V2_iconst (v := 2) d_P_move_47 rfl ?_
              refine V2_callV [.int (2 : Int32)] d_P_move_48 rfl rfl lk_P_66 mo_P_fails (by decide) rfl rfl rfl (Nat.le_of_ble_eq_true rfl) (Nat.le_of_ble_eq_true rfl) ?_
              refine c_P_fails2 ?_
              refine V2_topi (fun v61 ev61 => ?_)
              refine V2_ireturn d_P_move_51 rfl ?_
              have hb0 : (0 ≤ (nI t).toInt ∧ (nI t).toInt < 4) ∧ 0 ≤ (nI u).toInt ∧ (nI u).toInt < 4 := (by (try clear hQ); (try subst ev61 ev19 ev17); ((try simp only [xb_eq, xb_ne, Int32.lt_iff_toInt_lt, Int32.le_iff_toInt_le] at *) <;> (try simp only [← Int32.toInt_inj, true_and, false_and, or_false, false_or, or_true, true_or, and_true, and_false] at *) <;> omega))
              have hb1 : (F 74 t).toInt = 0 ∨ (F 74 u).toInt = 0 := (by (try clear hQ); (try subst ev61 ev19 ev17); ((try simp only [xb_eq, xb_ne, Int32.lt_iff_toInt_lt, Int32.le_iff_toInt_le] at *) <;> (try simp only [← Int32.toInt_inj, true_and, false_and, or_false, false_or, or_true, true_or, and_true, and_false] at *) <;> omega))
              have e : k_move F (nI t) i (nI u) j n = (-1000000000 - 2, errF F 2) := (if_pos hb0).trans (by rw [kt, ku]; exact if_pos hb1)
              rw [e] at hQ
              subst ev61 ev19 ev17
              exact xQi (hQ _ (mid_err hR (by decide))) rfl rfl
          · refine V2_iconst (v := 1) d_Sheet_isMissing_7 rfl ?_
            refine V2_goto (tgt := 12) d_Sheet_isMissing_8 rfl ?_
            refine V2_zreturn d_Sheet_isMissing_12 rfl (by decide) ?_
            refine V2.to (st' := [.int (1 : Int32)]) ?_ rfl rfl rfl rfl
            refine V2_if_ne (tgt := 46) d_P_move_35 rfl (fun _ => ?_) (fun c => (by first | exact absurd c (by decide) | exact absurd (by decide) c))
            refine V2_aload_n (i := 0) d_P_move_46 rfl rfl ?_
            refine V2_iconst (v := 2) d_P_move_47 rfl ?_
            refine V2_callV [.int (2 : Int32)] d_P_move_48 rfl rfl lk_P_66 mo_P_fails (by decide) rfl rfl rfl (Nat.le_of_ble_eq_true rfl) (Nat.le_of_ble_eq_true rfl) ?_
            refine c_P_fails2 ?_
            refine V2_topi (fun v62 ev62 => ?_)
            refine V2_ireturn d_P_move_51 rfl ?_
            have hb0 : (0 ≤ (nI t).toInt ∧ (nI t).toInt < 4) ∧ 0 ≤ (nI u).toInt ∧ (nI u).toInt < 4 := (by (try clear hQ); (try subst ev62 ev17); ((try simp only [xb_eq, xb_ne, Int32.lt_iff_toInt_lt, Int32.le_iff_toInt_le] at *) <;> (try simp only [← Int32.toInt_inj, true_and, false_and, or_false, false_or, or_true, true_or, and_true, and_false] at *) <;> omega))
            have hb1 : (F 74 t).toInt = 0 ∨ (F 74 u).toInt = 0 := (by (try clear hQ); (try subst ev62 ev17); ((try simp only [xb_eq, xb_ne, Int32.lt_iff_toInt_lt, Int32.le_iff_toInt_le] at *) <;> (try simp only [← Int32.toInt_inj, true_and, false_and, or_false, false_or, or_true, true_or, and_true, and_false] at *) <;> omega))
            have e : k_move F (nI t) i (nI u) j n = (-1000000000 - 2, errF F 2) := (if_pos hb0).trans (by rw [kt, ku]; exact if_pos hb1)
            rw [e] at hQ
            subst ev62 ev17
            exact xQi (hQ _ (mid_err hR (by decide))) rfl rfl
theorem c_R_move2 {L : Nat} {xs : Nat → Int32} {d : Nat} {Q : Option Value → xF → Prop} {F : xF} {t p u q m : Nat} {r : Nat → Int32} (hu : u < 4) (hm : q + m ≤ 24) (e77 : F 77 = r) (hQ : Q (some (.int (nI m))) (xrw F 76 (va_cpy r (F 76) 0 (24 * u + q) m))) : ∀ (n_ : Nat) (k : Nat), k ≤ m → m < n_ + k → V2 L xs (d + 2) m_R_move 152 [some (.ref 65), some (.int (nI t)), some (.int (nI p)), some (.int (nI u)), some (.int (nI q)), some (.int (nI m)), some (.int (nI k))] [] (xrw F 76 (va_cpy r (F 76) 0 (24 * u + q) k)) Q := by
  intro n_
  induction n_ with
  | zero => exact fun k h1 h2 => absurd h2 (by omega)
  | succ n_ ih =>
    intro k h1 h2
    refine V2_iload (i := 6) d_R_move_152 rfl ?_
    refine V2_iload (i := 5) d_R_move_154 rfl ?_
    refine V2_icmp_ge (tgt := 187) d_R_move_156 rfl (fun c1 => ?_) (fun c1 => ?_)
    · refine V2_iload (i := 5) d_R_move_187 rfl ?_
      refine V2_ireturn d_R_move_189 rfl ?_
      have hk : k = m := Nat.le_antisymm h1 ((nI_leI (by omega) (by omega)).mp c1)
      subst hk
      exact hQ
    · have hk : k < m := Nat.not_le.mp (fun hh => c1 ((nI_leI (by omega) (by omega)).mpr hh))
      refine V2_aload_n (i := 0) d_R_move_159 rfl rfl ?_
      refine V2_getr (a := 76) d_R_move_160 fl_R_44 (by decide) rfl (by decide) rfl ?_
      refine V2_bipush (v := 24) d_R_move_163 rfl ?_
      refine V2_iload_n (i := 3) d_R_move_165 rfl rfl ?_
      refine V2_imul d_R_move_166 ?_
      refine V2_topi (fun v2 ev2 => ?_)
      refine V2_iload (i := 4) d_R_move_167 rfl ?_
      refine V2_iadd d_R_move_169 ?_
      refine V2_topi (fun v3 ev3 => ?_)
      refine V2_iload (i := 6) d_R_move_170 rfl ?_
      refine V2_iadd d_R_move_172 ?_
      refine V2_topi (fun v4 ev4 => ?_)
      refine V2_aload_n (i := 0) d_R_move_173 rfl rfl ?_
      refine V2_getr (a := 77) d_R_move_174 fl_R_47 (by decide) rfl (by decide) rfl ?_
      refine V2_iload (i := 6) d_R_move_177 rfl ?_
      refine V2_ialoadJ (k) d_R_move_179 (by decide) rfl (xixA (n := k) rfl (by omega) (by decide)) (xixB (n := k) rfl (by omega)) rfl ?_
      refine V2_topi (fun v5 ev5 => ?_)
      refine V2_iastore (j := (24 * u + q + k)) d_R_move_180 (by decide) rfl (xixA (n := 24 * u + q + k) (by subst ev5 ev4 ev3 ev2; simp only [nI, Int32.ofNat_add, Int32.ofNat_mul]; rfl) (by omega) (by decide)) (xixB (n := 24 * u + q + k) (by subst ev5 ev4 ev3 ev2; simp only [nI, Int32.ofNat_add, Int32.ofNat_mul]; rfl) (by omega)) ?_
      obtain ⟨v6, ev6⟩ : ∃ y : Int32, y = nI k + 1 := ⟨_, rfl⟩
      refine V2_iinc (i := 6) (v := v6) (l' := [some (.ref 65), some (.int (nI t)), some (.int (nI p)), some (.int (nI u)), some (.int (nI q)), some (.int (nI m)), some (.int v6)]) d_R_move_181 rfl (by rw [ev6]; rfl) (xst_i (Nat.le_of_ble_eq_true rfl) rfl rfl) ?_
      refine V2_goto (tgt := 152) d_R_move_184 rfl ?_
      exact V2.to (ih (k + 1) (by omega) (by omega)) rfl (by rw [ev6, nI_1]) rfl (by subst ev6 ev5 ev4 ev3 ev2; rw [xp_xrw, xrw_ne (show ¬ 77 = 76 by decide), e77, cpy_upd])
theorem c_R_move1 {L : Nat} {xs : Nat → Int32} {d : Nat} {Q : Option Value → xF → Prop} {F : xF} {t p u q m : Nat} (ht : t < 4) (hm : p + m ≤ 24) (hK : V2 L xs (d + 2) m_R_move 152 [some (.ref 65), some (.int (nI t)), some (.int (nI p)), some (.int (nI u)), some (.int (nI q)), some (.int (nI m)), some (.int (nI 0))] [] (xrw F 77 (cutS (fun x => F 76 (24 * t + p + x)) (F 77) m)) Q) : ∀ (n_ : Nat) (k : Nat), k ≤ m → m < n_ + k → V2 L xs (d + 2) m_R_move 115 [some (.ref 65), some (.int (nI t)), some (.int (nI p)), some (.int (nI u)), some (.int (nI q)), some (.int (nI m)), some (.int (nI k))] [] (xrw F 77 (cutS (fun x => F 76 (24 * t + p + x)) (F 77) k)) Q := by
  intro n_
  induction n_ with
  | zero => exact fun k h1 h2 => absurd h2 (by omega)
  | succ n_ ih =>
    intro k h1 h2
    refine V2_iload (i := 6) d_R_move_115 rfl ?_
    refine V2_iload (i := 5) d_R_move_117 rfl ?_
    refine V2_icmp_ge (tgt := 149) d_R_move_119 rfl (fun c1 => ?_) (fun c1 => ?_)
    · refine V2_iconst (v := 0) d_R_move_149 rfl ?_
      refine V2_istore (i := 6) (l' := [some (.ref 65), some (.int (nI t)), some (.int (nI p)), some (.int (nI u)), some (.int (nI q)), some (.int (nI m)), some (.int (0 : Int32))]) d_R_move_150 (xst_i (Nat.le_of_ble_eq_true rfl) rfl rfl) ?_
      have hk : k = m := Nat.le_antisymm h1 ((nI_leI (by omega) (by omega)).mp c1)
      subst hk
      exact hK
    · have hk : k < m := Nat.not_le.mp (fun hh => c1 ((nI_leI (by omega) (by omega)).mpr hh))
      refine V2_aload_n (i := 0) d_R_move_122 rfl rfl ?_
      refine V2_getr (a := 77) d_R_move_123 fl_R_47 (by decide) rfl (by decide) rfl ?_
      refine V2_iload (i := 6) d_R_move_126 rfl ?_
      refine V2_aload_n (i := 0) d_R_move_128 rfl rfl ?_
      refine V2_getr (a := 76) d_R_move_129 fl_R_44 (by decide) rfl (by decide) rfl ?_
      refine V2_bipush (v := 24) d_R_move_132 rfl ?_
      refine V2_iload_n (i := 1) d_R_move_134 rfl rfl ?_
      refine V2_imul d_R_move_135 ?_
      refine V2_topi (fun v2 ev2 => ?_)
      refine V2_iload_n (i := 2) d_R_move_136 rfl rfl ?_
      refine V2_iadd d_R_move_137 ?_
      refine V2_topi (fun v3 ev3 => ?_)
      refine V2_iload (i := 6) d_R_move_138 rfl ?_
      refine V2_iadd d_R_move_140 ?_
      refine V2_topi (fun v4 ev4 => ?_)
      refine V2_ialoadJ (24 * t + p + k) d_R_move_141 (by decide) rfl (xixA (n := 24 * t + p + k) (by subst ev4 ev3 ev2; simp only [nI, Int32.ofNat_add, Int32.ofNat_mul]; rfl) (by omega) (by decide)) (xixB (n := 24 * t + p + k) (by subst ev4 ev3 ev2; simp only [nI, Int32.ofNat_add, Int32.ofNat_mul]; rfl) (by omega)) rfl ?_
      refine V2_topi (fun v5 ev5 => ?_)
      refine V2_iastore (j := (k)) d_R_move_142 (by decide) rfl (xixA (n := k) rfl (by omega) (by decide)) (xixB (n := k) rfl (by omega)) ?_
      obtain ⟨v6, ev6⟩ : ∃ y : Int32, y = nI k + 1 := ⟨_, rfl⟩
      refine V2_iinc (i := 6) (v := v6) (l' := [some (.ref 65), some (.int (nI t)), some (.int (nI p)), some (.int (nI u)), some (.int (nI q)), some (.int (nI m)), some (.int v6)]) d_R_move_143 rfl (by rw [ev6]; rfl) (xst_i (Nat.le_of_ble_eq_true rfl) rfl rfl) ?_
      refine V2_goto (tgt := 115) d_R_move_146 rfl ?_
      refine V2.to (ih (k + 1) (by omega) (by omega)) rfl (by rw [ev6, nI_1]) rfl ?_
      subst ev6 ev5 ev4 ev3 ev2
      rw [xp_xrw, xrw_ne (show ¬ 76 = 77 by decide)]
      exact congrArg _ (cutS_upd (f := (fun x => F 76 (24 * t + p + x))))
set_option maxHeartbeats 4000000 in
theorem c_mod_move {L : Nat} {xs : Nat → Int32} {d : Nat} {Q : Option Value → xF → Prop} {F : xF} {sh i o j n : Int32} {F0 : xF} (hR : Rel F0) (hM : Mid F0 F (k_move F0 sh i o j n).2) (hQ : ∀ F2, Rel F2 → Q (some (.int (k_move F0 sh i o j n).1)) F2) : V2 L xs (d + 2) m_R_move 0 (xEntry [.ref 65, .int sh, .int i, .int o, .int j, .int n] 7) [] F Q := by
  have q0 : (0 : Int32).toInt = 0 := by decide
  have q1 : (1 : Int32).toInt = 1 := by decide
  have q2 : (2 : Int32).toInt = 2 := by decide
  have q3 : (3 : Int32).toInt = 3 := by decide
  have q4 : (4 : Int32).toInt = 4 := by decide
  have q5 : (5 : Int32).toInt = 5 := by decide
  have q6 : (6 : Int32).toInt = 6 := by decide
  have q7 : (7 : Int32).toInt = 7 := by decide
  have q8 : (8 : Int32).toInt = 8 := by decide
  have q9 : (9 : Int32).toInt = 9 := by decide
  have q10 : (10 : Int32).toInt = 10 := by decide
  have q12 : (12 : Int32).toInt = 12 := by decide
  have q16 : (16 : Int32).toInt = 16 := by decide
  have q20 : (20 : Int32).toInt = 20 := by decide
  have q24 : (24 : Int32).toInt = 24 := by decide
  have q30 : (30 : Int32).toInt = 30 := by decide
  have q32 : (32 : Int32).toInt = 32 := by decide
  have q40 : (40 : Int32).toInt = 40 := by decide
  have q60 : (60 : Int32).toInt = 60 := by decide
  have q69 : (69 : Int32).toInt = 69 := by decide
  have q99 : (99 : Int32).toInt = 99 := by decide
  have q9999 : (9999 : Int32).toInt = 9999 := by decide
  have q274 : (274 : Int32).toInt = 274 := by decide
  have q334 : (334 : Int32).toInt = 334 := by decide
  have e74 : F 74 = F0 74 := hM.1 74 (by decide)
  have e75 : F 75 = F0 75 := hM.1 75 (by decide)
  refine V2.to (l' := [some (.ref 65), some (.int sh), some (.int i), some (.int o), some (.int j), some (.int n), none]) ?_ rfl rfl rfl rfl
  refine V2_iload_n (i := 1) d_R_move_0 rfl rfl ?_
  refine V2_callS [.int sh] d_R_move_1 rfl rfl lk_R_258 mo_R_isSheet (Nat.le_of_ble_eq_true rfl) (Nat.le_of_ble_eq_true rfl) ?_
  refine c_R_isSheet ?_
  refine V2_topi (fun v1 ev1 => ?_)
  refine V2_if_eq (tgt := 14) d_R_move_4 rfl (fun c2 => ?_) (fun c2 => ?_)
  · refine V2_aload_n (i := 0) d_R_move_14 rfl rfl ?_
    refine V2_iconst (v := 1) d_R_move_15 rfl ?_
    refine V2_callV [.int (1 : Int32)] d_R_move_16 rfl rfl lk_R_55 mo_R_error (by decide) rfl rfl rfl (Nat.le_of_ble_eq_true rfl) (Nat.le_of_ble_eq_true rfl) ?_
    refine c_R_error1 ?_
    refine V2_topi (fun v3 ev3 => ?_)
    refine V2_ireturn d_R_move_19 rfl ?_
    have hb0 : ¬ ((0 ≤ sh.toInt ∧ sh.toInt < 4) ∧ 0 ≤ o.toInt ∧ o.toInt < 4) := (by (try clear hQ); (try subst ev3 ev1); ((try simp only [xb_eq, xb_ne, Int32.lt_iff_toInt_lt, Int32.le_iff_toInt_le] at *) <;> (try simp only [← Int32.toInt_inj, true_and, false_and, or_false, false_or, or_true, true_or, and_true, and_false] at *) <;> omega))
    have e : k_move F0 sh i o j n = (-1000000000 - 1, errF F0 1) := if_neg hb0
    rw [e] at hQ hM
    subst ev3 ev1
    exact xQi (hQ _ (rel_err hR hM)) rfl rfl
  · obtain ⟨t, ht, ept⟩ := in_of (x := sh) (P := 4) (by (try clear hQ); (try subst ev1); ((try simp only [xb_eq, xb_ne, Int32.lt_iff_toInt_lt, Int32.le_iff_toInt_le] at *) <;> (try simp only [← Int32.toInt_inj, true_and, false_and, or_false, false_or, or_true, true_or, and_true, and_false] at *) <;> omega)) (by (try clear hQ); (try subst ev1); ((try simp only [xb_eq, xb_ne, Int32.lt_iff_toInt_lt, Int32.le_iff_toInt_le] at *) <;> (try simp only [← Int32.toInt_inj, true_and, false_and, or_false, false_or, or_true, true_or, and_true, and_false] at *) <;> omega)) (by omega)
    subst ept
    have nt : (nI t).toInt = (t : Int) := nI_toInt (by omega)
    have kt : (nI t).toNatClampNeg = t := nI_clamp (by omega)
    obtain ⟨N, hN, eN, nN, e2, eb, hb⟩ := inv_sz hR ht
    have e74t := congrFun e74 t
    have e75t := congrFun e75 t
    have sS : 0 ≤ n.toInt → (F 75 t - n).toInt = (N : Int) - n.toInt := fun h => sub_any (e75t.trans eN) (by omega) h
    refine V2_iload_n (i := 3) d_R_move_7 rfl rfl ?_
    refine V2_callS [.int o] d_R_move_8 rfl rfl lk_R_258 mo_R_isSheet (Nat.le_of_ble_eq_true rfl) (Nat.le_of_ble_eq_true rfl) ?_
    refine c_R_isSheet ?_
    refine V2_topi (fun v4 ev4 => ?_)
    refine V2_if_ne (tgt := 20) d_R_move_11 rfl (fun c5 => ?_) (fun c5 => ?_)
    · obtain ⟨u, hu, epu⟩ := in_of (x := o) (P := 4) (by (try clear hQ); (try subst ev4 ev1); ((try simp only [xb_eq, xb_ne, Int32.lt_iff_toInt_lt, Int32.le_iff_toInt_le] at *) <;> (try simp only [← Int32.toInt_inj, true_and, false_and, or_false, false_or, or_true, true_or, and_true, and_false] at *) <;> omega)) (by (try clear hQ); (try subst ev4 ev1); ((try simp only [xb_eq, xb_ne, Int32.lt_iff_toInt_lt, Int32.le_iff_toInt_le] at *) <;> (try simp only [← Int32.toInt_inj, true_and, false_and, or_false, false_or, or_true, true_or, and_true, and_false] at *) <;> omega)) (by omega)
      subst epu
      have nu : (nI u).toInt = (u : Int) := nI_toInt (by omega)
      have ku : (nI u).toNatClampNeg = u := nI_clamp (by omega)
      obtain ⟨Nu, hNu, eNu, nNu, e2u, ebu, hbu⟩ := inv_sz hR hu
      have e74u := congrFun e74 u
      have e75u := congrFun e75 u
      have sSu : 0 ≤ n.toInt → (F 75 u - n).toInt = (Nu : Int) - n.toInt := fun h => sub_any (e75u.trans eNu) (by omega) h
      refine V2_aload_n (i := 0) d_R_move_20 rfl rfl ?_
      refine V2_getr (a := 74) d_R_move_21 fl_R_38 (by decide) rfl (by decide) rfl ?_
      refine V2_iload_n (i := 1) d_R_move_24 rfl rfl ?_
      refine V2_ialoadJ (t) d_R_move_25 (by decide) rfl (xixA (n := t) rfl (by omega) (by decide)) (xixB (n := t) rfl (by omega)) rfl ?_
      refine V2_topi (fun v6 ev6 => ?_)
      refine V2_if_eq (tgt := 38) d_R_move_26 rfl (fun c7 => ?_) (fun c7 => ?_)
      · refine V2_aload_n (i := 0) d_R_move_38 rfl rfl ?_
        refine V2_iconst (v := 2) d_R_move_39 rfl ?_
        refine V2_callV [.int (2 : Int32)] d_R_move_40 rfl rfl lk_R_55 mo_R_error (by decide) rfl rfl rfl (Nat.le_of_ble_eq_true rfl) (Nat.le_of_ble_eq_true rfl) ?_
        refine c_R_error2 ?_
        refine V2_topi (fun v8 ev8 => ?_)
        refine V2_ireturn d_R_move_43 rfl ?_
        have hb0 : (0 ≤ (nI t).toInt ∧ (nI t).toInt < 4) ∧ 0 ≤ (nI u).toInt ∧ (nI u).toInt < 4 := (by (try clear hQ); (try subst ev8 ev6 ev4 ev1); ((try simp only [xb_eq, xb_ne, Int32.lt_iff_toInt_lt, Int32.le_iff_toInt_le] at *) <;> (try simp only [← Int32.toInt_inj, true_and, false_and, or_false, false_or, or_true, true_or, and_true, and_false] at *) <;> omega))
        have hb1 : (F0 74 t).toInt = 0 ∨ (F0 74 u).toInt = 0 := (by (try clear hQ); (try subst ev8 ev6 ev4 ev1); ((try simp only [xb_eq, xb_ne, Int32.lt_iff_toInt_lt, Int32.le_iff_toInt_le] at *) <;> (try simp only [← Int32.toInt_inj, true_and, false_and, or_false, false_or, or_true, true_or, and_true, and_false] at *) <;> omega))
        have e : k_move F0 (nI t) i (nI u) j n = (-1000000000 - 2, errF F0 2) := (if_pos hb0).trans (by rw [kt, ku]; exact if_pos hb1)
        rw [e] at hQ hM
        subst ev8 ev6 ev4 ev1
        exact xQi (hQ _ (rel_err hR hM)) rfl rfl
      · refine V2_aload_n (i := 0) d_R_move_29 rfl rfl ?_
        refine V2_getr (a := 74) d_R_move_30 fl_R_38 (by decide) rfl (by decide) rfl ?_
        refine V2_iload_n (i := 3) d_R_move_33 rfl rfl ?_
        refine V2_ialoadJ (u) d_R_move_34 (by decide) rfl (xixA (n := u) rfl (by omega) (by decide)) (xixB (n := u) rfl (by omega)) rfl ?_
        refine V2_topi (fun v9 ev9 => ?_)
        refine V2_if_ne (tgt := 44) d_R_move_35 rfl (fun c10 => ?_) (fun c10 => ?_)
        · refine V2_aload_n (i := 0) d_R_move_44 rfl rfl ?_
          refine V2_getr (a := 74) d_R_move_45 fl_R_38 (by decide) rfl (by decide) rfl ?_
          refine V2_iload_n (i := 1) d_R_move_48 rfl rfl ?_
          refine V2_ialoadJ (t) d_R_move_49 (by decide) rfl (xixA (n := t) rfl (by omega) (by decide)) (xixB (n := t) rfl (by omega)) rfl ?_
          refine V2_topi (fun v11 ev11 => ?_)
          refine V2_aload_n (i := 0) d_R_move_50 rfl rfl ?_
          refine V2_getr (a := 74) d_R_move_51 fl_R_38 (by decide) rfl (by decide) rfl ?_
          refine V2_iload_n (i := 3) d_R_move_54 rfl rfl ?_
          refine V2_ialoadJ (u) d_R_move_55 (by decide) rfl (xixA (n := u) rfl (by omega) (by decide)) (xixB (n := u) rfl (by omega)) rfl ?_
          refine V2_topi (fun v12 ev12 => ?_)
          refine V2_icmp_eq (tgt := 65) d_R_move_56 rfl (fun c13 => ?_) (fun c13 => ?_)
          · refine V2_iload (i := 5) d_R_move_65 rfl ?_
            refine V2_if_lt (tgt := 106) d_R_move_67 rfl (fun c14 => ?_) (fun c14 => ?_)
            · refine V2_aload_n (i := 0) d_R_move_106 rfl rfl ?_
              refine V2_iconst (v := 1) d_R_move_107 rfl ?_
              refine V2_callV [.int (1 : Int32)] d_R_move_108 rfl rfl lk_R_55 mo_R_error (by decide) rfl rfl rfl (Nat.le_of_ble_eq_true rfl) (Nat.le_of_ble_eq_true rfl) ?_
              refine c_R_error1 ?_
              refine V2_topi (fun v15 ev15 => ?_)
              refine V2_ireturn d_R_move_111 rfl ?_
              have hb0 : (0 ≤ (nI t).toInt ∧ (nI t).toInt < 4) ∧ 0 ≤ (nI u).toInt ∧ (nI u).toInt < 4 := (by (try clear hQ); (try subst ev15 ev12 ev11 ev9 ev6 ev4 ev1); ((try simp only [xb_eq, xb_ne, Int32.lt_iff_toInt_lt, Int32.le_iff_toInt_le] at *) <;> (try simp only [← Int32.toInt_inj, true_and, false_and, or_false, false_or, or_true, true_or, and_true, and_false] at *) <;> omega))
              have hb1 : ¬ ((F0 74 t).toInt = 0 ∨ (F0 74 u).toInt = 0) := (by (try clear hQ); (try subst ev15 ev12 ev11 ev9 ev6 ev4 ev1); ((try simp only [xb_eq, xb_ne, Int32.lt_iff_toInt_lt, Int32.le_iff_toInt_le] at *) <;> (try simp only [← Int32.toInt_inj, true_and, false_and, or_false, false_or, or_true, true_or, and_true, and_false] at *) <;> omega))
              have hb2 : (F0 74 t).toInt = (F0 74 u).toInt := (by (try clear hQ); (try subst ev15 ev12 ev11 ev9 ev6 ev4 ev1); ((try simp only [xb_eq, xb_ne, Int32.lt_iff_toInt_lt, Int32.le_iff_toInt_le] at *) <;> (try simp only [← Int32.toInt_inj, true_and, false_and, or_false, false_or, or_true, true_or, and_true, and_false] at *) <;> omega))
              have hb3 : ¬ (0 ≤ n.toInt ∧ 0 ≤ i.toInt ∧ 0 ≤ j.toInt ∧ i.toInt + n.toInt ≤ (F0 75 t).toInt ∧ j.toInt + n.toInt ≤ (F0 75 u).toInt) := (by (try clear hQ); (try subst ev15 ev12 ev11 ev9 ev6 ev4 ev1); ((try simp only [xb_eq, xb_ne, Int32.lt_iff_toInt_lt, Int32.le_iff_toInt_le] at *) <;> (try simp only [← Int32.toInt_inj, true_and, false_and, or_false, false_or, or_true, true_or, and_true, and_false] at *) <;> omega))
              have e : k_move F0 (nI t) i (nI u) j n = (-1000000000 - 1, errF F0 1) := (if_pos hb0).trans (by rw [kt, ku]; exact (if_neg hb1).trans ((if_pos hb2).trans (if_neg hb3)))
              rw [e] at hQ hM
              subst ev15 ev12 ev11 ev9 ev6 ev4 ev1
              exact xQi (hQ _ (rel_err hR hM)) rfl rfl
            · refine V2_iload_n (i := 2) d_R_move_70 rfl rfl ?_
              refine V2_if_lt (tgt := 106) d_R_move_71 rfl (fun c16 => ?_) (fun c16 => ?_)
              · refine V2_aload_n (i := 0) d_R_move_106 rfl rfl ?_
                refine V2_iconst (v := 1) d_R_move_107 rfl ?_
                refine V2_callV [.int (1 : Int32)] d_R_move_108 rfl rfl lk_R_55 mo_R_error (by decide) rfl rfl rfl (Nat.le_of_ble_eq_true rfl) (Nat.le_of_ble_eq_true rfl) ?_
                refine c_R_error1 ?_
                refine V2_topi (fun v17 ev17 => ?_)
                refine V2_ireturn d_R_move_111 rfl ?_
                have hb0 : (0 ≤ (nI t).toInt ∧ (nI t).toInt < 4) ∧ 0 ≤ (nI u).toInt ∧ (nI u).toInt < 4 := (by (try clear hQ); (try subst ev17 ev12 ev11 ev9 ev6 ev4 ev1); ((try simp only [xb_eq, xb_ne, Int32.lt_iff_toInt_lt, Int32.le_iff_toInt_le] at *) <;> (try simp only [← Int32.toInt_inj, true_and, false_and, or_false, false_or, or_true, true_or, and_true, and_false] at *) <;> omega))
                have hb1 : ¬ ((F0 74 t).toInt = 0 ∨ (F0 74 u).toInt = 0) := (by (try clear hQ); (try subst ev17 ev12 ev11 ev9 ev6 ev4 ev1); ((try simp only [xb_eq, xb_ne, Int32.lt_iff_toInt_lt, Int32.le_iff_toInt_le] at *) <;> (try simp only [← Int32.toInt_inj, true_and, false_and, or_false, false_or, or_true, true_or, and_true, and_false] at *) <;> omega))
                have hb2 : (F0 74 t).toInt = (F0 74 u).toInt := (by (try clear hQ); (try subst ev17 ev12 ev11 ev9 ev6 ev4 ev1); ((try simp only [xb_eq, xb_ne, Int32.lt_iff_toInt_lt, Int32.le_iff_toInt_le] at *) <;> (try simp only [← Int32.toInt_inj, true_and, false_and, or_false, false_or, or_true, true_or, and_true, and_false] at *) <;> omega))
                have hb3 : ¬ (0 ≤ n.toInt ∧ 0 ≤ i.toInt ∧ 0 ≤ j.toInt ∧ i.toInt + n.toInt ≤ (F0 75 t).toInt ∧ j.toInt + n.toInt ≤ (F0 75 u).toInt) := (by (try clear hQ); (try subst ev17 ev12 ev11 ev9 ev6 ev4 ev1); ((try simp only [xb_eq, xb_ne, Int32.lt_iff_toInt_lt, Int32.le_iff_toInt_le] at *) <;> (try simp only [← Int32.toInt_inj, true_and, false_and, or_false, false_or, or_true, true_or, and_true, and_false] at *) <;> omega))
                have e : k_move F0 (nI t) i (nI u) j n = (-1000000000 - 1, errF F0 1) := (if_pos hb0).trans (by rw [kt, ku]; exact (if_neg hb1).trans ((if_pos hb2).trans (if_neg hb3)))
                rw [e] at hQ hM
                subst ev17 ev12 ev11 ev9 ev6 ev4 ev1
                exact xQi (hQ _ (rel_err hR hM)) rfl rfl
              · refine V2_iload (i := 4) d_R_move_74 rfl ?_
                refine V2_if_lt (tgt := 106) d_R_move_76 rfl (fun c18 => ?_) (fun c18 => ?_)
                · refine V2_aload_n (i := 0) d_R_move_106 rfl rfl ?_
                  refine V2_iconst (v := 1) d_R_move_107 rfl ?_
                  refine V2_callV [.int (1 : Int32)] d_R_move_108 rfl rfl lk_R_55 mo_R_error (by decide) rfl rfl rfl (Nat.le_of_ble_eq_true rfl) (Nat.le_of_ble_eq_true rfl) ?_
                  refine c_R_error1 ?_
                  refine V2_topi (fun v19 ev19 => ?_)
                  refine V2_ireturn d_R_move_111 rfl ?_
                  have hb0 : (0 ≤ (nI t).toInt ∧ (nI t).toInt < 4) ∧ 0 ≤ (nI u).toInt ∧ (nI u).toInt < 4 := (by (try clear hQ); (try subst ev19 ev12 ev11 ev9 ev6 ev4 ev1); ((try simp only [xb_eq, xb_ne, Int32.lt_iff_toInt_lt, Int32.le_iff_toInt_le] at *) <;> (try simp only [← Int32.toInt_inj, true_and, false_and, or_false, false_or, or_true, true_or, and_true, and_false] at *) <;> omega))
                  have hb1 : ¬ ((F0 74 t).toInt = 0 ∨ (F0 74 u).toInt = 0) := (by (try clear hQ); (try subst ev19 ev12 ev11 ev9 ev6 ev4 ev1); ((try simp only [xb_eq, xb_ne, Int32.lt_iff_toInt_lt, Int32.le_iff_toInt_le] at *) <;> (try simp only [← Int32.toInt_inj, true_and, false_and, or_false, false_or, or_true, true_or, and_true, and_false] at *) <;> omega))
                  have hb2 : (F0 74 t).toInt = (F0 74 u).toInt := (by (try clear hQ); (try subst ev19 ev12 ev11 ev9 ev6 ev4 ev1); ((try simp only [xb_eq, xb_ne, Int32.lt_iff_toInt_lt, Int32.le_iff_toInt_le] at *) <;> (try simp only [← Int32.toInt_inj, true_and, false_and, or_false, false_or, or_true, true_or, and_true, and_false] at *) <;> omega))
                  have hb3 : ¬ (0 ≤ n.toInt ∧ 0 ≤ i.toInt ∧ 0 ≤ j.toInt ∧ i.toInt + n.toInt ≤ (F0 75 t).toInt ∧ j.toInt + n.toInt ≤ (F0 75 u).toInt) := (by (try clear hQ); (try subst ev19 ev12 ev11 ev9 ev6 ev4 ev1); ((try simp only [xb_eq, xb_ne, Int32.lt_iff_toInt_lt, Int32.le_iff_toInt_le] at *) <;> (try simp only [← Int32.toInt_inj, true_and, false_and, or_false, false_or, or_true, true_or, and_true, and_false] at *) <;> omega))
                  have e : k_move F0 (nI t) i (nI u) j n = (-1000000000 - 1, errF F0 1) := (if_pos hb0).trans (by rw [kt, ku]; exact (if_neg hb1).trans ((if_pos hb2).trans (if_neg hb3)))
                  rw [e] at hQ hM
                  subst ev19 ev12 ev11 ev9 ev6 ev4 ev1
                  exact xQi (hQ _ (rel_err hR hM)) rfl rfl
                · refine V2_iload_n (i := 2) d_R_move_79 rfl rfl ?_
                  refine V2_aload_n (i := 0) d_R_move_80 rfl rfl ?_
                  refine V2_getr (a := 75) d_R_move_81 fl_R_41 (by decide) rfl (by decide) rfl ?_
                  refine V2_iload_n (i := 1) d_R_move_84 rfl rfl ?_
                  refine V2_ialoadJ (t) d_R_move_85 (by decide) rfl (xixA (n := t) rfl (by omega) (by decide)) (xixB (n := t) rfl (by omega)) rfl ?_
                  refine V2_topi (fun v20 ev20 => ?_)
                  refine V2_iload (i := 5) d_R_move_86 rfl ?_
                  refine V2_isub d_R_move_88 ?_
                  refine V2_topi (fun v21 ev21 => ?_)
                  refine V2_icmp_gt (tgt := 106) d_R_move_89 rfl (fun c22 => ?_) (fun c22 => ?_)
                  · refine V2_aload_n (i := 0) d_R_move_106 rfl rfl ?_
                    refine V2_iconst (v := 1) d_R_move_107 rfl ?_
                    refine V2_callV [.int (1 : Int32)] d_R_move_108 rfl rfl lk_R_55 mo_R_error (by decide) rfl rfl rfl (Nat.le_of_ble_eq_true rfl) (Nat.le_of_ble_eq_true rfl) ?_
                    refine c_R_error1 ?_
                    refine V2_topi (fun v23 ev23 => ?_)
                    refine V2_ireturn d_R_move_111 rfl ?_
                    have hb0 : (0 ≤ (nI t).toInt ∧ (nI t).toInt < 4) ∧ 0 ≤ (nI u).toInt ∧ (nI u).toInt < 4 := (by (try clear hQ); (try subst ev23 ev21 ev20 ev12 ev11 ev9 ev6 ev4 ev1); ((try simp only [xb_eq, xb_ne, Int32.lt_iff_toInt_lt, Int32.le_iff_toInt_le] at *) <;> (try simp only [← Int32.toInt_inj, true_and, false_and, or_false, false_or, or_true, true_or, and_true, and_false] at *) <;> omega))
                    have hb1 : ¬ ((F0 74 t).toInt = 0 ∨ (F0 74 u).toInt = 0) := (by (try clear hQ); (try subst ev23 ev21 ev20 ev12 ev11 ev9 ev6 ev4 ev1); ((try simp only [xb_eq, xb_ne, Int32.lt_iff_toInt_lt, Int32.le_iff_toInt_le] at *) <;> (try simp only [← Int32.toInt_inj, true_and, false_and, or_false, false_or, or_true, true_or, and_true, and_false] at *) <;> omega))
                    have hb2 : (F0 74 t).toInt = (F0 74 u).toInt := (by (try clear hQ); (try subst ev23 ev21 ev20 ev12 ev11 ev9 ev6 ev4 ev1); ((try simp only [xb_eq, xb_ne, Int32.lt_iff_toInt_lt, Int32.le_iff_toInt_le] at *) <;> (try simp only [← Int32.toInt_inj, true_and, false_and, or_false, false_or, or_true, true_or, and_true, and_false] at *) <;> omega))
                    have hb3 : ¬ (0 ≤ n.toInt ∧ 0 ≤ i.toInt ∧ 0 ≤ j.toInt ∧ i.toInt + n.toInt ≤ (F0 75 t).toInt ∧ j.toInt + n.toInt ≤ (F0 75 u).toInt) := (by (try clear hQ); (try subst ev23 ev21 ev20 ev12 ev11 ev9 ev6 ev4 ev1); ((try simp only [xb_eq, xb_ne, Int32.lt_iff_toInt_lt, Int32.le_iff_toInt_le] at *) <;> (try simp only [← Int32.toInt_inj, true_and, false_and, or_false, false_or, or_true, true_or, and_true, and_false] at *) <;> omega))
                    have e : k_move F0 (nI t) i (nI u) j n = (-1000000000 - 1, errF F0 1) := (if_pos hb0).trans (by rw [kt, ku]; exact (if_neg hb1).trans ((if_pos hb2).trans (if_neg hb3)))
                    rw [e] at hQ hM
                    subst ev23 ev21 ev20 ev12 ev11 ev9 ev6 ev4 ev1
                    exact xQi (hQ _ (rel_err hR hM)) rfl rfl
                  · refine V2_iload (i := 4) d_R_move_92 rfl ?_
                    refine V2_aload_n (i := 0) d_R_move_94 rfl rfl ?_
                    refine V2_getr (a := 75) d_R_move_95 fl_R_41 (by decide) rfl (by decide) rfl ?_
                    refine V2_iload_n (i := 3) d_R_move_98 rfl rfl ?_
                    refine V2_ialoadJ (u) d_R_move_99 (by decide) rfl (xixA (n := u) rfl (by omega) (by decide)) (xixB (n := u) rfl (by omega)) rfl ?_
                    refine V2_topi (fun v24 ev24 => ?_)
                    refine V2_iload (i := 5) d_R_move_100 rfl ?_
                    refine V2_isub d_R_move_102 ?_
                    refine V2_topi (fun v25 ev25 => ?_)
                    refine V2_icmp_le (tgt := 112) d_R_move_103 rfl (fun c26 => ?_) (fun c26 => ?_)
                    · obtain ⟨p, hp, epp⟩ := in_of (x := i) (P := 25) (by (try clear hQ); (try subst ev25 ev24 ev21 ev20 ev12 ev11 ev9 ev6 ev4 ev1); ((try simp only [xb_eq, xb_ne, Int32.lt_iff_toInt_lt, Int32.le_iff_toInt_le] at *) <;> (try simp only [← Int32.toInt_inj, true_and, false_and, or_false, false_or, or_true, true_or, and_true, and_false] at *) <;> omega)) (by (try clear hQ); (try subst ev25 ev24 ev21 ev20 ev12 ev11 ev9 ev6 ev4 ev1); ((try simp only [xb_eq, xb_ne, Int32.lt_iff_toInt_lt, Int32.le_iff_toInt_le] at *) <;> (try simp only [← Int32.toInt_inj, true_and, false_and, or_false, false_or, or_true, true_or, and_true, and_false] at *) <;> omega)) (by omega)
                      subst epp
                      have np : (nI p).toInt = (p : Int) := nI_toInt (by omega)
                      have kp : (nI p).toNatClampNeg = p := nI_clamp (by omega)
                      obtain ⟨q, hq, epq⟩ := in_of (x := j) (P := 25) (by (try clear hQ); (try subst ev25 ev24 ev21 ev20 ev12 ev11 ev9 ev6 ev4 ev1); ((try simp only [xb_eq, xb_ne, Int32.lt_iff_toInt_lt, Int32.le_iff_toInt_le] at *) <;> (try simp only [← Int32.toInt_inj, true_and, false_and, or_false, false_or, or_true, true_or, and_true, and_false] at *) <;> omega)) (by (try clear hQ); (try subst ev25 ev24 ev21 ev20 ev12 ev11 ev9 ev6 ev4 ev1); ((try simp only [xb_eq, xb_ne, Int32.lt_iff_toInt_lt, Int32.le_iff_toInt_le] at *) <;> (try simp only [← Int32.toInt_inj, true_and, false_and, or_false, false_or, or_true, true_or, and_true, and_false] at *) <;> omega)) (by omega)
                      subst epq
                      have nq : (nI q).toInt = (q : Int) := nI_toInt (by omega)
                      have kq : (nI q).toNatClampNeg = q := nI_clamp (by omega)
                      obtain ⟨m, hm, epm⟩ := in_of (x := n) (P := 25) (by (try clear hQ); (try subst ev25 ev24 ev21 ev20 ev12 ev11 ev9 ev6 ev4 ev1); ((try simp only [xb_eq, xb_ne, Int32.lt_iff_toInt_lt, Int32.le_iff_toInt_le] at *) <;> (try simp only [← Int32.toInt_inj, true_and, false_and, or_false, false_or, or_true, true_or, and_true, and_false] at *) <;> omega)) (by (try clear hQ); (try subst ev25 ev24 ev21 ev20 ev12 ev11 ev9 ev6 ev4 ev1); ((try simp only [xb_eq, xb_ne, Int32.lt_iff_toInt_lt, Int32.le_iff_toInt_le] at *) <;> (try simp only [← Int32.toInt_inj, true_and, false_and, or_false, false_or, or_true, true_or, and_true, and_false] at *) <;> omega)) (by omega)
                      subst epm
                      have nm : (nI m).toInt = (m : Int) := nI_toInt (by omega)
                      have km : (nI m).toNatClampNeg = m := nI_clamp (by omega)
                      have hpm : p + m ≤ 24 := (by (try clear hQ); (try subst ev25 ev24 ev21 ev20 ev12 ev11 ev9 ev6 ev4 ev1); ((try simp only [xb_eq, xb_ne, Int32.lt_iff_toInt_lt, Int32.le_iff_toInt_le] at *) <;> (try simp only [← Int32.toInt_inj, true_and, false_and, or_false, false_or, or_true, true_or, and_true, and_false] at *) <;> omega))
                      have hqm : q + m ≤ 24 := (by (try clear hQ); (try subst ev25 ev24 ev21 ev20 ev12 ev11 ev9 ev6 ev4 ev1); ((try simp only [xb_eq, xb_ne, Int32.lt_iff_toInt_lt, Int32.le_iff_toInt_le] at *) <;> (try simp only [← Int32.toInt_inj, true_and, false_and, or_false, false_or, or_true, true_or, and_true, and_false] at *) <;> omega))
                      refine V2_iconst (v := 0) d_R_move_112 rfl ?_
                      refine V2_istore (i := 6) (l' := [some (.ref 65), some (.int (nI t)), some (.int (nI p)), some (.int (nI u)), some (.int (nI q)), some (.int (nI m)), some (.int (0 : Int32))]) d_R_move_113 (xst_i (Nat.le_of_ble_eq_true rfl) rfl rfl) ?_
                      have hb0 : (0 ≤ (nI t).toInt ∧ (nI t).toInt < 4) ∧ 0 ≤ (nI u).toInt ∧ (nI u).toInt < 4 := (by (try clear hQ); (try subst ev25 ev24 ev21 ev20 ev12 ev11 ev9 ev6 ev4 ev1); ((try simp only [xb_eq, xb_ne, Int32.lt_iff_toInt_lt, Int32.le_iff_toInt_le] at *) <;> (try simp only [← Int32.toInt_inj, true_and, false_and, or_false, false_or, or_true, true_or, and_true, and_false] at *) <;> omega))
                      have hb1 : ¬ ((F0 74 t).toInt = 0 ∨ (F0 74 u).toInt = 0) := (by (try clear hQ); (try subst ev25 ev24 ev21 ev20 ev12 ev11 ev9 ev6 ev4 ev1); ((try simp only [xb_eq, xb_ne, Int32.lt_iff_toInt_lt, Int32.le_iff_toInt_le] at *) <;> (try simp only [← Int32.toInt_inj, true_and, false_and, or_false, false_or, or_true, true_or, and_true, and_false] at *) <;> omega))
                      have hb2 : (F0 74 t).toInt = (F0 74 u).toInt := (by (try clear hQ); (try subst ev25 ev24 ev21 ev20 ev12 ev11 ev9 ev6 ev4 ev1); ((try simp only [xb_eq, xb_ne, Int32.lt_iff_toInt_lt, Int32.le_iff_toInt_le] at *) <;> (try simp only [← Int32.toInt_inj, true_and, false_and, or_false, false_or, or_true, true_or, and_true, and_false] at *) <;> omega))
                      have hb3 : 0 ≤ (nI m).toInt ∧ 0 ≤ (nI p).toInt ∧ 0 ≤ (nI q).toInt ∧ (nI p).toInt + (nI m).toInt ≤ (F0 75 t).toInt ∧ (nI q).toInt + (nI m).toInt ≤ (F0 75 u).toInt := (by (try clear hQ); (try subst ev25 ev24 ev21 ev20 ev12 ev11 ev9 ev6 ev4 ev1); ((try simp only [xb_eq, xb_ne, Int32.lt_iff_toInt_lt, Int32.le_iff_toInt_le] at *) <;> (try simp only [← Int32.toInt_inj, true_and, false_and, or_false, false_or, or_true, true_or, and_true, and_false] at *) <;> omega))
                      have e : k_move F0 (nI t) (nI p) (nI u) (nI q) (nI m) = (nI m, xrw F0 76 (va_cpy (F0 76) (F0 76) (24 * t + p) (24 * u + q) m)) := (if_pos hb0).trans (by rw [kt, ku, kp, kq, km]; exact (if_neg hb1).trans ((if_pos hb2).trans (if_pos hb3)))
                      rw [e] at hQ hM
                      have hfin := hQ _ (rel_move (r := (cutS (fun x => F 76 (24 * t + p + x)) (F 77) m)) hR hu hM)
                      have hf2 : Q (some (.int (nI m))) (xrw (xrw F 77 (cutS (fun x => F 76 (24 * t + p + x)) (F 77) m)) 76 (va_cpy (cutS (fun x => F 76 (24 * t + p + x)) (F 77) m) (xrw F 77 (cutS (fun x => F 76 (24 * t + p + x)) (F 77) m) 76) 0 (24 * u + q) m)) := by
                        rw [xrw_ne (show ¬ 76 = 77 by decide), cpy_cut]
                        exact hfin
                      have h2 : V2 L xs (d + 2) m_R_move 152 [some (.ref 65), some (.int (nI t)), some (.int (nI p)), some (.int (nI u)), some (.int (nI q)), some (.int (nI m)), some (.int (nI 0))] [] (xrw F 77 (cutS (fun x => F 76 (24 * t + p + x)) (F 77) m)) Q := V2.to (c_R_move2 (F := xrw F 77 (cutS (fun x => F 76 (24 * t + p + x)) (F 77) m)) (r := (cutS (fun x => F 76 (24 * t + p + x)) (F 77) m)) (t := t) (p := p) hu (by omega) (xrw_same _ _ _) hf2 (m + 1) 0 (by omega) (by omega)) rfl rfl rfl (by rw [cpy_0, xrw_self])
                      exact V2.to (c_R_move1 ht (by omega) h2 (m + 1) 0 (by omega) (by omega)) rfl rfl rfl (by rw [show cutS (fun x => F 76 (24 * t + p + x)) (F 77) 0 = F 77 from rfl, xrw_self])
                    · refine V2_aload_n (i := 0) d_R_move_106 rfl rfl ?_
                      refine V2_iconst (v := 1) d_R_move_107 rfl ?_
                      refine V2_callV [.int (1 : Int32)] d_R_move_108 rfl rfl lk_R_55 mo_R_error (by decide) rfl rfl rfl (Nat.le_of_ble_eq_true rfl) (Nat.le_of_ble_eq_true rfl) ?_
                      refine c_R_error1 ?_
                      refine V2_topi (fun v27 ev27 => ?_)
                      refine V2_ireturn d_R_move_111 rfl ?_
                      have hb0 : (0 ≤ (nI t).toInt ∧ (nI t).toInt < 4) ∧ 0 ≤ (nI u).toInt ∧ (nI u).toInt < 4 := (by (try clear hQ); (try subst ev27 ev25 ev24 ev21 ev20 ev12 ev11 ev9 ev6 ev4 ev1); ((try simp only [xb_eq, xb_ne, Int32.lt_iff_toInt_lt, Int32.le_iff_toInt_le] at *) <;> (try simp only [← Int32.toInt_inj, true_and, false_and, or_false, false_or, or_true, true_or, and_true, and_false] at *) <;> omega))
                      have hb1 : ¬ ((F0 74 t).toInt = 0 ∨ (F0 74 u).toInt = 0) := (by (try clear hQ); (try subst ev27 ev25 ev24 ev21 ev20 ev12 ev11 ev9 ev6 ev4 ev1); ((try simp only [xb_eq, xb_ne, Int32.lt_iff_toInt_lt, Int32.le_iff_toInt_le] at *) <;> (try simp only [← Int32.toInt_inj, true_and, false_and, or_false, false_or, or_true, true_or, and_true, and_false] at *) <;> omega))
                      have hb2 : (F0 74 t).toInt = (F0 74 u).toInt := (by (try clear hQ); (try subst ev27 ev25 ev24 ev21 ev20 ev12 ev11 ev9 ev6 ev4 ev1); ((try simp only [xb_eq, xb_ne, Int32.lt_iff_toInt_lt, Int32.le_iff_toInt_le] at *) <;> (try simp only [← Int32.toInt_inj, true_and, false_and, or_false, false_or, or_true, true_or, and_true, and_false] at *) <;> omega))
                      have hb3 : ¬ (0 ≤ n.toInt ∧ 0 ≤ i.toInt ∧ 0 ≤ j.toInt ∧ i.toInt + n.toInt ≤ (F0 75 t).toInt ∧ j.toInt + n.toInt ≤ (F0 75 u).toInt) := (by (try clear hQ); (try subst ev27 ev25 ev24 ev21 ev20 ev12 ev11 ev9 ev6 ev4 ev1); ((try simp only [xb_eq, xb_ne, Int32.lt_iff_toInt_lt, Int32.le_iff_toInt_le] at *) <;> (try simp only [← Int32.toInt_inj, true_and, false_and, or_false, false_or, or_true, true_or, and_true, and_false] at *) <;> omega))
                      have e : k_move F0 (nI t) i (nI u) j n = (-1000000000 - 1, errF F0 1) := (if_pos hb0).trans (by rw [kt, ku]; exact (if_neg hb1).trans ((if_pos hb2).trans (if_neg hb3)))
                      rw [e] at hQ hM
                      subst ev27 ev25 ev24 ev21 ev20 ev12 ev11 ev9 ev6 ev4 ev1
                      exact xQi (hQ _ (rel_err hR hM)) rfl rfl
          · refine V2_aload_n (i := 0) d_R_move_59 rfl rfl ?_
            refine V2_iconst (v := 5) d_R_move_60 rfl ?_
            refine V2_callV [.int (5 : Int32)] d_R_move_61 rfl rfl lk_R_55 mo_R_error (by decide) rfl rfl rfl (Nat.le_of_ble_eq_true rfl) (Nat.le_of_ble_eq_true rfl) ?_
            refine c_R_error5 ?_
            refine V2_topi (fun v28 ev28 => ?_)
            refine V2_ireturn d_R_move_64 rfl ?_
            have hb0 : (0 ≤ (nI t).toInt ∧ (nI t).toInt < 4) ∧ 0 ≤ (nI u).toInt ∧ (nI u).toInt < 4 := (by (try clear hQ); (try subst ev28 ev12 ev11 ev9 ev6 ev4 ev1); ((try simp only [xb_eq, xb_ne, Int32.lt_iff_toInt_lt, Int32.le_iff_toInt_le] at *) <;> (try simp only [← Int32.toInt_inj, true_and, false_and, or_false, false_or, or_true, true_or, and_true, and_false] at *) <;> omega))
            have hb1 : ¬ ((F0 74 t).toInt = 0 ∨ (F0 74 u).toInt = 0) := (by (try clear hQ); (try subst ev28 ev12 ev11 ev9 ev6 ev4 ev1); ((try simp only [xb_eq, xb_ne, Int32.lt_iff_toInt_lt, Int32.le_iff_toInt_le] at *) <;> (try simp only [← Int32.toInt_inj, true_and, false_and, or_false, false_or, or_true, true_or, and_true, and_false] at *) <;> omega))
            have hb2 : ¬ ((F0 74 t).toInt = (F0 74 u).toInt) := (by (try clear hQ); (try subst ev28 ev12 ev11 ev9 ev6 ev4 ev1); ((try simp only [xb_eq, xb_ne, Int32.lt_iff_toInt_lt, Int32.le_iff_toInt_le] at *) <;> (try simp only [← Int32.toInt_inj, true_and, false_and, or_false, false_or, or_true, true_or, and_true, and_false] at *) <;> omega))
            have e : k_move F0 (nI t) i (nI u) j n = (-1000000000 - 5, errF F0 5) := (if_pos hb0).trans (by rw [kt, ku]; exact (if_neg hb1).trans (if_neg hb2))
            rw [e] at hQ hM
            subst ev28 ev12 ev11 ev9 ev6 ev4 ev1
            exact xQi (hQ _ (rel_err hR hM)) rfl rfl
        · refine V2_aload_n (i := 0) d_R_move_38 rfl rfl ?_
          refine V2_iconst (v := 2) d_R_move_39 rfl ?_
          refine V2_callV [.int (2 : Int32)] d_R_move_40 rfl rfl lk_R_55 mo_R_error (by decide) rfl rfl rfl (Nat.le_of_ble_eq_true rfl) (Nat.le_of_ble_eq_true rfl) ?_
          refine c_R_error2 ?_
          refine V2_topi (fun v29 ev29 => ?_)
          refine V2_ireturn d_R_move_43 rfl ?_
          have hb0 : (0 ≤ (nI t).toInt ∧ (nI t).toInt < 4) ∧ 0 ≤ (nI u).toInt ∧ (nI u).toInt < 4 := (by (try clear hQ); (try subst ev29 ev9 ev6 ev4 ev1); ((try simp only [xb_eq, xb_ne, Int32.lt_iff_toInt_lt, Int32.le_iff_toInt_le] at *) <;> (try simp only [← Int32.toInt_inj, true_and, false_and, or_false, false_or, or_true, true_or, and_true, and_false] at *) <;> omega))
          have hb1 : (F0 74 t).toInt = 0 ∨ (F0 74 u).toInt = 0 := (by (try clear hQ); (try subst ev29 ev9 ev6 ev4 ev1); ((try simp only [xb_eq, xb_ne, Int32.lt_iff_toInt_lt, Int32.le_iff_toInt_le] at *) <;> (try simp only [← Int32.toInt_inj, true_and, false_and, or_false, false_or, or_true, true_or, and_true, and_false] at *) <;> omega))
          have e : k_move F0 (nI t) i (nI u) j n = (-1000000000 - 2, errF F0 2) := (if_pos hb0).trans (by rw [kt, ku]; exact if_pos hb1)
          rw [e] at hQ hM
          subst ev29 ev9 ev6 ev4 ev1
          exact xQi (hQ _ (rel_err hR hM)) rfl rfl
    · refine V2_aload_n (i := 0) d_R_move_14 rfl rfl ?_
      refine V2_iconst (v := 1) d_R_move_15 rfl ?_
      refine V2_callV [.int (1 : Int32)] d_R_move_16 rfl rfl lk_R_55 mo_R_error (by decide) rfl rfl rfl (Nat.le_of_ble_eq_true rfl) (Nat.le_of_ble_eq_true rfl) ?_
      refine c_R_error1 ?_
      refine V2_topi (fun v30 ev30 => ?_)
      refine V2_ireturn d_R_move_19 rfl ?_
      have hb0 : ¬ ((0 ≤ (nI t).toInt ∧ (nI t).toInt < 4) ∧ 0 ≤ o.toInt ∧ o.toInt < 4) := (by (try clear hQ); (try subst ev30 ev4 ev1); ((try simp only [xb_eq, xb_ne, Int32.lt_iff_toInt_lt, Int32.le_iff_toInt_le] at *) <;> (try simp only [← Int32.toInt_inj, true_and, false_and, or_false, false_or, or_true, true_or, and_true, and_false] at *) <;> omega))
      have e : k_move F0 (nI t) i o j n = (-1000000000 - 1, errF F0 1) := if_neg hb0
      rw [e] at hQ hM
      subst ev30 ev4 ev1
      exact xQi (hQ _ (rel_err hR hM)) rfl rfl
