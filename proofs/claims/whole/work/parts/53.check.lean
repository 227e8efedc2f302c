/-! put, check, levels -/
theorem sub_any {a b : Int32} {n : Nat} (ha : a = nI n) (hn : n ≤ 1000) (hb : 0 ≤ b.toInt) : (a - b).toInt = (n : Int) - b.toInt := by
  have e := nI_toInt (n := n) (by omega)
  have hl := Int32.toInt_lt b
  subst ha
  rw [Int32.toInt_sub, e]
  exact Int.bmod_eq_of_le (by omega) (by omega)
theorem inv_sz {F : xF} {t : Nat} (h : Rel F) (ht : t < 4) : ∃ n : Nat, n ≤ 24 ∧ F 75 t = nI n ∧ (F 75 t).toInt = (n : Int) ∧ F (57 + 2 * t) 2 = nI n ∧ F (57 + 2 * t) 1 = F 74 t ∧ (F 74 t = 0 ∨ F 74 t = 8 ∨ F 74 t = 16 ∨ F 74 t = 32) := by
  obtain ⟨hb, n, hn, e⟩ := h.2.2.2.2.2 t ht
  obtain ⟨s1, s2, s3⟩ := h.1.2.2.2.2.2.2 t ht
  exact ⟨n, hn, e, by rw [e]; exact nI_toInt (by omega), s2.trans e, s1, hb⟩
theorem mid_put {F : xF} {t p N : Nat} {v : Int32} (h : Rel F) (ht : t < 4) (hN : F 75 t = nI N) (hN2 : N ≤ 24) (hp : p < N) (h0 : ¬ F 74 t = 0) : Mid F (xp F (58 + 2 * t) p (lowBits (F 74 t) v)) (xp F 76 (24 * t + p) (signBits (F 74 t) v)) := by
  obtain ⟨s1, s2, s3⟩ := h.1.2.2.2.2.2.2 t ht
  refine mid_sheet h ht (fun k a b => xp_row_ne b) (fun k a b c => xp_row_ne c) ⟨?_, ?_, fun i hi => ?_⟩ (fun u hu e => ⟨?_, ?_, fun i hi => ?_⟩)
  · rw [xp_row_ne (by omega), xp_row_ne (by omega)]
    exact s1
  · rw [xp_row_ne (by omega), xp_row_ne (by omega)]
    exact s2
  · rw [xp_row_ne (by omega)] at hi
    rw [xp_row_ne (by omega)]
    by_cases hc : i = p
    · subst hc
      rw [xp_same, xp_same]
      exact eq_bits (h.2.2.2.2.2 t ht).1 h0
    · rw [xp_ne (Or.inr hc), xp_ne (Or.inr (by omega))]
      exact s3 i hi
  · rw [xp_row_ne (by omega)]
  · rw [xp_row_ne (by omega)]
  · rw [xp_ne (Or.inr (by omega))]
theorem rel_put {F0 F : xF} {t p : Nat} {x : Int32} (h : Rel F0) (ht : t < 4) (hM : Mid F0 F (xp F0 76 (24 * t + p) x)) : Rel (xp F 76 (24 * t + p) x) := by
  refine rel_sheet h ht hM (fun k hk => xp_row_ne (by omega)) (xp_on hM.1) (fun k a b c => xp_row_ne c) ?_ (fun u hu e => ⟨?_, ?_⟩)
  · unfold invSheet
    rw [xp_row_ne (by omega), xp_row_ne (by omega)]
    exact h.2.2.2.2.2 t ht
  · rw [xp_row_ne (by omega)]
  · rw [xp_row_ne (by omega)]
def k_put (F : xF) (sh i v : Int32) : Int32 × xF :=
  if 0 ≤ sh.toInt ∧ sh.toInt < 4 then (if F 74 sh.toNatClampNeg = 0 then (-1000000000 - 2, errF F 2) else if 0 ≤ i.toInt ∧ i.toInt < (F 75 sh.toNatClampNeg).toInt then (1, xp F 76 (24 * sh.toNatClampNeg + i.toNatClampNeg) (signBits (F 74 sh.toNatClampNeg) v)) else (-1000000000 - 1, errF F 1)) else (-1000000000 - 1, errF F 1)
theorem c_cls_put {L : Nat} {xs : Nat → Int32} {d : Nat} {Q : Option Value → xF → Prop} {F : xF} {sh i v : Int32} (hR : Rel F) (hQ : ∀ F1, Mid F F1 (k_put F sh i v).2 → Q (some (.int (k_put F sh i v).1)) F1) : V2 L xs (d + 1) m_P_put 0 (xEntry [.ref 0, .int sh, .int i, .int v] 5) [] F Q := by
  have q0 : (0 : Int32).toInt = 0 := by decide
  have q1 : (1 : Int32).toInt = 1 := by decide
  have q2 : (2 : Int32).toInt = 2 := by decide
  have q3 : (3 : Int32).toInt = 3 := by decide
  have q4 : (4 : Int32).toInt = 4 := by decide
  have q5 : (5 : Int32).toInt = 5 := by decide
  have q6 : (6 : Int32).toInt = 6 := by decide
  have q7 : (7 : Int32).toInt = 7 := by decide
  have q8 : (8 : Int32).toInt = 8 := by decide
  have q9 : (9 : Int32).toInt = 9 := by decide
  have q10 : (10 : Int32).toInt = 10 := by decide
  have q12 : (12 : Int32).toInt = 12 := by decide
  have q16 : (16 : Int32).toInt = 16 := by decide
  have q20 : (20 : Int32).toInt = 20 := by decide
  have q24 : (24 : Int32).toInt = 24 := by decide
  have q30 : (30 : Int32).toInt = 30 := by decide
  have q32 : (32 : Int32).toInt = 32 := by decide
  have q40 : (40 : Int32).toInt = 40 := by decide
  have q60 : (60 : Int32).toInt = 60 := by decide
  have q69 : (69 : Int32).toInt = 69 := by decide
  have q99 : (99 : Int32).toInt = 99 := by decide
  have q9999 : (9999 : Int32).toInt = 9999 := by decide
  have q274 : (274 : Int32).toInt = 274 := by decide
  have q334 : (334 : Int32).toInt = 334 := by decide
  refine V2.to (l' := [some (.ref 0), some (.int sh), some (.int i), some (.int v), none]) ?_ rfl rfl rfl rfl
  refine V2_aload_n (i := 0) d_P_put_0 rfl rfl ?_
  refine V2_iload_n (i := 1) d_P_put_1 rfl rfl ?_
  refine V2_callV [.int sh] d_P_put_2 rfl rfl lk_P_268 mo_P_sheetAt (by decide) rfl rfl rfl (Nat.le_of_ble_eq_true rfl) (Nat.le_of_ble_eq_true rfl) ?_
  refine V2.to (l' := [some (.ref 0), some (.int sh)]) ?_ rfl rfl rfl rfl
  refine V2_iload_n (i := 1) d_P_sheetAt_0 rfl rfl ?_
  refine V2_if_lt (tgt := 22) d_P_sheetAt_1 rfl (fun c1 => ?_) (fun c1 => ?_)
  · refine V2_null d_P_sheetAt_22 ?_
    refine V2_areturnN d_P_sheetAt_23 rfl (Or.inl ⟨_, rfl⟩) ?_
    refine V2.to (st' := [.null]) ?_ rfl rfl rfl rfl
    refine V2_astoreN (i := 4) (l' := [some (.ref 0), some (.int sh), some (.int i), some (.int v), some (.null)]) d_P_put_5 (xst_i (Nat.le_of_ble_eq_true rfl) rfl rfl) ?_
    refine V2_aloadN (i := 4) d_P_put_7 rfl ?_
    refine V2_ifnonnullN d_P_put_9 ?_
    refine V2_aload_n (i := 0) d_P_put_12 rfl rfl ?_
    refine V2_iconst (v := 1) d_P_put_13 rfl ?_
    refine V2_callV [.int (1 : Int32)] d_P_put_14 rfl rfl lk_P_66 mo_P_fails (by decide) rfl rfl rfl (Nat.le_of_ble_eq_true rfl) (Nat.le_of_ble_eq_true rfl) ?_
    refine c_P_fails1 ?_
    refine V2_topi (fun v2 ev2 => ?_)
    refine V2_ireturn d_P_put_17 rfl ?_
    have hb0 : ¬ (0 ≤ sh.toInt ∧ sh.toInt < 4) := (by (try clear hQ); (try subst ev2); ((try simp only [xb_eq, xb_ne, Int32.lt_iff_toInt_lt, Int32.le_iff_toInt_le] at *) <;> (try simp only [← Int32.toInt_inj, true_and, false_and, or_false, false_or, or_true, true_or, and_true, and_false] at *) <;> omega))
    have e : k_put F sh i v = (-1000000000 - 1, errF F 1) := if_neg hb0
    rw [e] at hQ
    subst ev2
    exact xQi (hQ _ (mid_err hR (by decide))) rfl rfl
  · refine V2_iload_n (i := 1) d_P_sheetAt_4 rfl rfl ?_
    refine V2_aload_n (i := 0) d_P_sheetAt_5 rfl rfl ?_
    refine V2_getr (a := 55) d_P_sheetAt_6 fl_P_49 (by decide) rfl (by decide) rfl ?_
    refine V2_alen (t := 1) (v := 4) d_P_sheetAt_9 (by decide) rfl (by decide) rfl ?_
    refine V2_icmp_ge (tgt := 22) d_P_sheetAt_10 rfl (fun c3 => ?_) (fun c3 => ?_)
    · refine V2_null d_P_sheetAt_22 ?_
      refine V2_areturnN d_P_sheetAt_23 rfl (Or.inl ⟨_, rfl⟩) ?_
      refine V2.to (st' := [.null]) ?_ rfl rfl rfl rfl
      refine V2_astoreN (i := 4) (l' := [some (.ref 0), some (.int sh), some (.int i), some (.int v), some (.null)]) d_P_put_5 (xst_i (Nat.le_of_ble_eq_true rfl) rfl rfl) ?_
      refine V2_aloadN (i := 4) d_P_put_7 rfl ?_
      refine V2_ifnonnullN d_P_put_9 ?_
      refine V2_aload_n (i := 0) d_P_put_12 rfl rfl ?_
      refine V2_iconst (v := 1) d_P_put_13 rfl ?_
      refine V2_callV [.int (1 : Int32)] d_P_put_14 rfl rfl lk_P_66 mo_P_fails (by decide) rfl rfl rfl (Nat.le_of_ble_eq_true rfl) (Nat.le_of_ble_eq_true rfl) ?_
      refine c_P_fails1 ?_
      refine V2_topi (fun v4 ev4 => ?_)
      refine V2_ireturn d_P_put_17 rfl ?_
      have hb0 : ¬ (0 ≤ sh.toInt ∧ sh.toInt < 4) := (by (try clear hQ); (try subst ev4); ((try simp only [xb_eq, xb_ne, Int32.lt_iff_toInt_lt, Int32.le_iff_toInt_le] at *) <;> (try simp only [← Int32.toInt_inj, true_and, false_and, or_false, false_or, or_true, true_or, and_true, and_false] at *) <;> omega))
      have e : k_put F sh i v = (-1000000000 - 1, errF F 1) := if_neg hb0
      rw [e] at hQ
      subst ev4
      exact xQi (hQ _ (mid_err hR (by decide))) rfl rfl
    · obtain ⟨t, ht, ept⟩ := in_of (x := sh) (P := 4) (by (try clear hQ); (try skip); ((try simp only [xb_eq, xb_ne, Int32.lt_iff_toInt_lt, Int32.le_iff_toInt_le] at *) <;> (try simp only [← Int32.toInt_inj, true_and, false_and, or_false, false_or, or_true, true_or, and_true, and_false] at *) <;> omega)) (by (try clear hQ); (try skip); ((try simp only [xb_eq, xb_ne, Int32.lt_iff_toInt_lt, Int32.le_iff_toInt_le] at *) <;> (try simp only [← Int32.toInt_inj, true_and, false_and, or_false, false_or, or_true, true_or, and_true, and_false] at *) <;> omega)) (by omega)
      subst ept
      have nt : (nI t).toInt = (t : Int) := nI_toInt (by omega)
      have kt : (nI t).toNatClampNeg = t := nI_clamp (by omega)
      obtain ⟨N, hN, eN, nN, e2, eb, hb⟩ := inv_sz hR ht
      have sS : 0 ≤ i.toInt → (F (57 + 2 * t) 2 - i).toInt = (N : Int) - i.toInt := fun h => sub_any e2 (by omega) h
      have n2 : (F (57 + 2 * t) 2).toInt = (N : Int) := by rw [e2]; exact nI_toInt (by omega)
      refine V2_aload_n (i := 0) d_P_sheetAt_13 rfl rfl ?_
      refine V2_getr (a := 55) d_P_sheetAt_14 fl_P_49 (by decide) rfl (by decide) rfl ?_
      refine V2_iload_n (i := 1) d_P_sheetAt_17 rfl rfl ?_
      refine V2_aaload (t := 0) (a := (57 + 2 * t)) d_P_sheetAt_18 (by decide) rfl (by decide) (vp_in_nI ht (by omega)) (sh_s ht) ?_
      refine V2_goto (tgt := 23) d_P_sheetAt_19 rfl ?_
      refine V2_areturn d_P_sheetAt_23 rfl (Or.inl ⟨_, rfl⟩) ?_
      refine V2.to (st' := [.ref (57 + 2 * t)]) ?_ rfl rfl rfl rfl
      refine V2_astore (i := 4) (l' := [some (.ref 0), some (.int (nI t)), some (.int i), some (.int v), some (.ref (57 + 2 * t))]) d_P_put_5 (xst_i (Nat.le_of_ble_eq_true rfl) rfl rfl) ?_
      refine V2_aload (i := 4) d_P_put_7 rfl ?_
      refine V2_ifnonnull (tgt := 18) d_P_put_9 rfl ?_
      refine V2_aload (i := 4) d_P_put_18 rfl ?_
      refine V2_callV [] d_P_put_20 rfl rfl lk_P_272 mo_Sheet_isMissing (by omega) (sh_k1 ht) rfl rfl (Nat.le_of_ble_eq_true rfl) (Nat.le_of_ble_eq_true rfl) ?_
      refine V2.to (l' := [some (.ref (57 + 2 * t))]) ?_ rfl rfl rfl rfl
      refine V2_aload_n (i := 0) d_Sheet_isMissing_0 rfl rfl ?_
      refine V2_get d_Sheet_isMissing_1 fl_Sheet_13 (by omega) (sh_k ht) (by decide) (sh_n ht (by decide)) rfl ?_
      refine V2_topi (fun v5 ev5 => ?_)
      refine V2_if_ne (tgt := 11) d_Sheet_isMissing_4 rfl (fun c6 => ?_) (fun c6 => ?_)
      · refine V2_iconst (v := 0) d_Sheet_isMissing_11 rfl ?_
        refine V2_zreturn d_Sheet_isMissing_12 rfl (by decide) ?_
        refine V2.to (st' := [.int (0 : Int32)]) ?_ rfl rfl rfl rfl
        refine V2_if_eq (tgt := 32) d_P_put_23 rfl (fun _ => ?_) (fun c => (by first | exact absurd c (by decide) | exact absurd (by decide) c))
        have hz : ¬ F 74 t = 0 := by
          have h9 := c6
          subst ev5
          rw [← eb]
          exact h9
        have h0 := hz
        refine V2_aload (i := 4) d_P_put_32 rfl ?_
        refine V2_iload_n (i := 2) d_P_put_34 rfl rfl ?_
        refine V2_iconst (v := 1) d_P_put_35 rfl ?_
        refine V2_callV [.int i, .int (1 : Int32)] d_P_put_36 rfl rfl lk_P_316 mo_Sheet_holds (by omega) (sh_k1 ht) rfl rfl (Nat.le_of_ble_eq_true rfl) (Nat.le_of_ble_eq_true rfl) ?_
        refine V2.to (l' := [some (.ref (57 + 2 * t)), some (.int i), some (.int (1 : Int32))]) ?_ rfl rfl rfl rfl
        refine V2_iload_n (i := 1) d_Sheet_holds_0 rfl rfl ?_
        refine V2_if_lt (tgt := 30) d_Sheet_holds_1 rfl (fun c7 => ?_) (fun c7 => ?_)
        · refine V2_iconst (v := 0) d_Sheet_holds_30 rfl ?_
          refine V2_zreturn d_Sheet_holds_31 rfl (by decide) ?_
          refine V2.to (st' := [.int (0 : Int32)]) ?_ rfl rfl rfl rfl
          refine V2_if_ne (tgt := 48) d_P_put_39 rfl (fun c => (by first | exact absurd c (by decide) | exact absurd (by decide) c)) (fun _ => ?_)
          refine V2_aload_n (i := 0) d_P_put_42 rfl rfl ?_
          refine V2_iconst (v := 1) d_P_put_43 rfl ?_
          refine V2_callV [.int (1 : Int32)] d_P_put_44 rfl rfl lk_P_66 mo_P_fails (by decide) rfl rfl rfl (Nat.le_of_ble_eq_true rfl) (Nat.le_of_ble_eq_true rfl) ?_
          refine c_P_fails1 ?_
          refine V2_topi (fun v8 ev8 => ?_)
          refine V2_ireturn d_P_put_47 rfl ?_
          have hr : ¬ (0 ≤ i.toInt ∧ i.toInt < (F 75 t).toInt) := (by (try clear hQ); (try subst ev8 ev5); ((try simp only [xb_eq, xb_ne, Int32.lt_iff_toInt_lt, Int32.le_iff_toInt_le] at *) <;> (try simp only [← Int32.toInt_inj, true_and, false_and, or_false, false_or, or_true, true_or, and_true, and_false] at *) <;> omega))
          have hb0 : 0 ≤ (nI t).toInt ∧ (nI t).toInt < 4 := (by (try clear hQ); (try subst ev8 ev5); ((try simp only [xb_eq, xb_ne, Int32.lt_iff_toInt_lt, Int32.le_iff_toInt_le] at *) <;> (try simp only [← Int32.toInt_inj, true_and, false_and, or_false, false_or, or_true, true_or, and_true, and_false] at *) <;> omega))
          have e : k_put F (nI t) i v = (-1000000000 - 1, errF F 1) := (if_pos hb0).trans (by rw [kt]; exact (if_neg hz).trans (if_neg hr))
          rw [e] at hQ
          subst ev8 ev5
          exact xQi (hQ _ (mid_err hR (by decide))) rfl rfl
        · refine V2_iload_n (i := 2) d_Sheet_holds_4 rfl rfl ?_
          refine V2_if_lt (tgt := 30) d_Sheet_holds_5 rfl (fun c => (by first | exact absurd c (by decide) | exact absurd (by decide) c)) (fun _ => ?_)
          refine V2_iload_n (i := 1) d_Sheet_holds_8 rfl rfl ?_
          refine V2_aload_n (i := 0) d_Sheet_holds_9 rfl rfl ?_
          refine V2_get d_Sheet_holds_10 fl_Sheet_17 (by omega) (sh_k ht) (by decide) (sh_n ht (by decide)) rfl ?_
          refine V2_topi (fun v9 ev9 => ?_)
          refine V2_icmp_gt (tgt := 30) d_Sheet_holds_13 rfl (fun c10 => ?_) (fun c10 => ?_)
          · refine V2_iconst (v := 0) d_Sheet_holds_30 rfl ?_
            refine V2_zreturn d_Sheet_holds_31 rfl (by decide) ?_
            refine V2.to (st' := [.int (0 : Int32)]) ?_ rfl rfl rfl rfl
            refine V2_if_ne (tgt := 48) d_P_put_39 rfl (fun c => (by first | exact absurd c (by decide) | exact absurd (by decide) c)) (fun _ => ?_)
            refine V2_aload_n (i := 0) d_P_put_42 rfl rfl ?_
            refine V2_iconst (v := 1) d_P_put_43 rfl ?_
            refine V2_callV [.int (1 : Int32)] d_P_put_44 rfl rfl lk_P_66 mo_P_fails (by decide) rfl rfl rfl (Nat.le_of_ble_eq_true rfl) (Nat.le_of_ble_eq_true rfl) ?_
            refine c_P_fails1 ?_
            refine V2_topi (fun v11 ev11 => ?_)
            refine V2_ireturn d_P_put_47 rfl ?_
            have hr : ¬ (0 ≤ i.toInt ∧ i.toInt < (F 75 t).toInt) := (by (try clear hQ); (try subst ev11 ev9 ev5); ((try simp only [xb_eq, xb_ne, Int32.lt_iff_toInt_lt, Int32.le_iff_toInt_le] at *) <;> (try simp only [← Int32.toInt_inj, true_and, false_and, or_false, false_or, or_true, true_or, and_true, and_false] at *) <;> omega))
            have hb0 : 0 ≤ (nI t).toInt ∧ (nI t).toInt < 4 := (by (try clear hQ); (try subst ev11 ev9 ev5); ((try simp only [xb_eq, xb_ne, Int32.lt_iff_toInt_lt, Int32.le_iff_toInt_le] at *) <;> (try simp only [← Int32.toInt_inj, true_and, false_and, or_false, false_or, or_true, true_or, and_true, and_false] at *) <;> omega))
            have e : k_put F (nI t) i v = (-1000000000 - 1, errF F 1) := (if_pos hb0).trans (by rw [kt]; exact (if_neg hz).trans (if_neg hr))
            rw [e] at hQ
            subst ev11 ev9 ev5
            exact xQi (hQ _ (mid_err hR (by decide))) rfl rfl
          · refine V2_iload_n (i := 2) d_Sheet_holds_16 rfl rfl ?_
            refine V2_aload_n (i := 0) d_Sheet_holds_17 rfl rfl ?_
            refine V2_get d_Sheet_holds_18 fl_Sheet_17 (by omega) (sh_k ht) (by decide) (sh_n ht (by decide)) rfl ?_
            refine V2_topi (fun v12 ev12 => ?_)
            refine V2_iload_n (i := 1) d_Sheet_holds_21 rfl rfl ?_
            refine V2_isub d_Sheet_holds_22 ?_
            refine V2_topi (fun v13 ev13 => ?_)
            refine V2_icmp_gt (tgt := 30) d_Sheet_holds_23 rfl (fun c14 => ?_) (fun c14 => ?_)
            · refine V2_iconst (v := 0) d_Sheet_holds_30 rfl ?_
              refine V2_zreturn d_Sheet_holds_31 rfl (by decide) ?_
              refine V2.to (st' := [.int (0 : Int32)]) ?_ rfl rfl rfl rfl
              refine V2_if_ne (tgt := 48) d_P_put_39 rfl (fun c => (by first | exact absurd c (by decide) | exact absurd (by decide) c)) (fun _ => ?_)
              refine V2_aload_n (i := 0) d_P_put_42 rfl rfl ?_
              refine V2_iconst (v := 1) d_P_put_43 rfl ?_
              refine V2_callV [.int (1 : Int32)] d_P_put_44 rfl rfl lk_P_66 mo_P_fails (by decide) rfl rfl rfl (Nat.le_of_ble_eq_true rfl) (Nat.le_of_ble_eq_true rfl) ?_
              refine c_P_fails1 ?_
              refine V2_topi (fun v15 ev15 => ?_)
              refine V2_ireturn d_P_put_47 rfl ?_
              have hr : ¬ (0 ≤ i.toInt ∧ i.toInt < (F 75 t).toInt) := (by (try clear hQ); (try subst ev15 ev13 ev12 ev9 ev5); ((try simp only [xb_eq, xb_ne, Int32.lt_iff_toInt_lt, Int32.le_iff_toInt_le] at *) <;> (try simp only [← Int32.toInt_inj, true_and, false_and, or_false, false_or, or_true, true_or, and_true, and_false] at *) <;> omega))
              have hb0 : 0 ≤ (nI t).toInt ∧ (nI t).toInt < 4 := (by (try clear hQ); (try subst ev15 ev13 ev12 ev9 ev5); ((try simp only [xb_eq, xb_ne, Int32.lt_iff_toInt_lt, Int32.le_iff_toInt_le] at *) <;> (try simp only [← Int32.toInt_inj, true_and, false_and, or_false, false_or, or_true, true_or, and_true, and_false] at *) <;> omega))
              have e : k_put F (nI t) i v = (-1000000000 - 1, errF F 1) := (if_pos hb0).trans (by rw [kt]; exact (if_neg hz).trans (if_neg hr))
              rw [e] at hQ
              subst ev15 ev13 ev12 ev9 ev5
              exact xQi (hQ _ (mid_err hR (by decide))) rfl rfl
            · refine V2_iconst (v := 1) d_Sheet_holds_26 rfl ?_
              refine V2_goto (tgt := 31) d_Sheet_holds_27 rfl ?_
              refine V2_zreturn d_Sheet_holds_31 rfl (by decide) ?_
              refine V2.to (st' := [.int (1 : Int32)]) ?_ rfl rfl rfl rfl
              refine V2_if_ne (tgt := 48) d_P_put_39 rfl (fun _ => ?_) (fun c => (by first | exact absurd c (by decide) | exact absurd (by decide) c))
              obtain ⟨p, hp, epp⟩ := in_of (x := i) (P := N) (by (try clear hQ); (try subst ev13 ev12 ev9 ev5); ((try simp only [xb_eq, xb_ne, Int32.lt_iff_toInt_lt, Int32.le_iff_toInt_le] at *) <;> (try simp only [← Int32.toInt_inj, true_and, false_and, or_false, false_or, or_true, true_or, and_true, and_false] at *) <;> omega)) (by (try clear hQ); (try subst ev13 ev12 ev9 ev5); ((try simp only [xb_eq, xb_ne, Int32.lt_iff_toInt_lt, Int32.le_iff_toInt_le] at *) <;> (try simp only [← Int32.toInt_inj, true_and, false_and, or_false, false_or, or_true, true_or, and_true, and_false] at *) <;> omega)) (by omega)
              subst epp
              have np : (nI p).toInt = (p : Int) := nI_toInt (by omega)
              have kp : (nI p).toNatClampNeg = p := nI_clamp (by omega)
              refine V2_aload (i := 4) d_P_put_48 rfl ?_
              refine V2_iload_n (i := 2) d_P_put_50 rfl rfl ?_
              refine V2_iload_n (i := 3) d_P_put_51 rfl rfl ?_
              refine V2_callV [.int (nI p), .int v] d_P_put_52 rfl rfl lk_P_319 mo_Sheet_write (by omega) (sh_k1 ht) rfl rfl (Nat.le_of_ble_eq_true rfl) (Nat.le_of_ble_eq_true rfl) ?_
              refine V2.to (l' := [some (.ref (57 + 2 * t)), some (.int (nI p)), some (.int v)]) ?_ rfl rfl rfl rfl
              refine V2_iload_n (i := 1) d_Sheet_write_0 rfl rfl ?_
              refine V2_if_lt (tgt := 61) d_Sheet_write_1 rfl (fun c16 => (by first | exact absurd c16 (show ¬ nI p < 0 from nI_pos (by omega)) | exact absurd (show ¬ nI p < 0 from nI_pos (by omega)) c16)) (fun c16 => ?_)
              refine V2_iload_n (i := 1) d_Sheet_write_4 rfl rfl ?_
              refine V2_aload_n (i := 0) d_Sheet_write_5 rfl rfl ?_
              refine V2_get d_Sheet_write_6 fl_Sheet_17 (by omega) (sh_k ht) (by decide) (sh_n ht (by decide)) rfl ?_
              refine V2_topi (fun v17 ev17 => ?_)
              refine V2_icmp_ge (tgt := 61) d_Sheet_write_9 rfl (fun c18 => (by first | exact absurd c18 (show ¬ v17 ≤ nI p from by subst ev17 ev13 ev12 ev9 ev5; rw [e2]; exact nI_ge hp (by omega)) | exact absurd (show ¬ v17 ≤ nI p from by subst ev17 ev13 ev12 ev9 ev5; rw [e2]; exact nI_ge hp (by omega)) c18)) (fun c18 => ?_)
              refine V2_iload_n (i := 1) d_Sheet_write_12 rfl rfl ?_
              refine V2_aload_n (i := 0) d_Sheet_write_13 rfl rfl ?_
              refine V2_getr (a := (58 + 2 * t)) d_Sheet_write_14 fl_Sheet_9 (by omega) (sh_k ht) (by decide) (sh_r ht) ?_
              refine V2_alen (t := 0) (v := 24) d_Sheet_write_17 (by omega) (sh_a ht) (by decide) rfl ?_
              refine V2_icmp_ge (tgt := 61) d_Sheet_write_18 rfl (fun c19 => (by first | exact absurd c19 (show ¬ (24 : Int32) ≤ nI p from nI_ge (a := p) (b := 24) (by omega) (by decide)) | exact absurd (show ¬ (24 : Int32) ≤ nI p from nI_ge (a := p) (b := 24) (by omega) (by decide)) c19)) (fun c19 => ?_)
              refine V2_aload_n (i := 0) d_Sheet_write_21 rfl rfl ?_
              refine V2_getr (a := (58 + 2 * t)) d_Sheet_write_22 fl_Sheet_9 (by omega) (sh_k ht) (by decide) (sh_r ht) ?_
              refine V2_iload_n (i := 1) d_Sheet_write_25 rfl rfl ?_
              refine V2_aload_n (i := 0) d_Sheet_write_26 rfl rfl ?_
              refine V2_get d_Sheet_write_27 fl_Sheet_13 (by omega) (sh_k ht) (by decide) (sh_n ht (by decide)) rfl ?_
              refine V2_topi (fun v20 ev20 => ?_)
              refine V2_bipush (v := 8) d_Sheet_write_30 rfl ?_
              refine V2_icmp_ne (tgt := 43) d_Sheet_write_32 rfl (fun c21 => ?_) (fun c21 => ?_)
              · refine V2_aload_n (i := 0) d_Sheet_write_43 rfl rfl ?_
                refine V2_get d_Sheet_write_44 fl_Sheet_13 (by omega) (sh_k ht) (by decide) (sh_n ht (by decide)) rfl ?_
                refine V2_topi (fun v22 ev22 => ?_)
                refine V2_bipush (v := 16) d_Sheet_write_47 rfl ?_
                refine V2_icmp_ne (tgt := 59) d_Sheet_write_49 rfl (fun c23 => ?_) (fun c23 => ?_)
                · refine V2_iload_n (i := 2) d_Sheet_write_59 rfl rfl ?_
                  refine V2_iastore (j := (p)) d_Sheet_write_60 (by omega) (sh_a ht) (xixA (n := p) rfl (by omega) (by decide)) (xixB (n := p) rfl (by omega)) ?_
                  refine V2_return d_Sheet_write_61 rfl ?_
                  refine V2.to (st' := []) ?_ rfl rfl rfl rfl
                  refine V2_iconst (v := 1) d_P_put_55 rfl ?_
                  refine V2_ireturn d_P_put_56 rfl ?_
                  have hr : 0 ≤ (nI p).toInt ∧ (nI p).toInt < (F 75 t).toInt := (by (try clear hQ); (try subst ev22 ev20 ev17 ev13 ev12 ev9 ev5); ((try simp only [xb_eq, xb_ne, Int32.lt_iff_toInt_lt, Int32.le_iff_toInt_le] at *) <;> (try simp only [← Int32.toInt_inj, true_and, false_and, or_false, false_or, or_true, true_or, and_true, and_false] at *) <;> omega))
                  have hb0 : 0 ≤ (nI t).toInt ∧ (nI t).toInt < 4 := (by (try clear hQ); (try subst ev22 ev20 ev17 ev13 ev12 ev9 ev5); ((try simp only [xb_eq, xb_ne, Int32.lt_iff_toInt_lt, Int32.le_iff_toInt_le] at *) <;> (try simp only [← Int32.toInt_inj, true_and, false_and, or_false, false_or, or_true, true_or, and_true, and_false] at *) <;> omega))
                  have e : k_put F (nI t) (nI p) v = (1, xp F 76 (24 * t + p) (signBits (F 74 t) v)) := (if_pos hb0).trans (by rw [kt, kp]; exact (if_neg hz).trans (if_pos hr))
                  rw [e] at hQ
                  have h8 : ¬ F 74 t = 8 := by
                    have h9 := c21
                    subst ev22 ev20 ev17 ev13 ev12 ev9 ev5
                    rw [← eb]
                    exact h9
                  have h16 : ¬ F 74 t = 16 := by
                    have h9 := c23
                    subst ev22 ev20 ev17 ev13 ev12 ev9 ev5
                    rw [← eb]
                    exact h9
                  have el : v = lowBits (F 74 t) v := by
                    subst ev22 ev20 ev17 ev13 ev12 ev9 ev5
                    exact ((if_neg h8).trans (if_neg h16)).symm
                  rw [el]
                  exact hQ _ (mid_put hR ht eN hN hp h0)
                · refine V2_iload_n (i := 2) d_Sheet_write_52 rfl rfl ?_
                  refine V2_ldc (v := 65535) d_Sheet_write_53 kc_Sheet_29 ?_
                  refine V2_iand d_Sheet_write_55 ?_
                  refine V2_topi (fun v24 ev24 => ?_)
                  refine V2_goto (tgt := 60) d_Sheet_write_56 rfl ?_
                  refine V2_iastore (j := (p)) d_Sheet_write_60 (by omega) (sh_a ht) (xixA (n := p) rfl (by omega) (by decide)) (xixB (n := p) rfl (by omega)) ?_
                  refine V2_return d_Sheet_write_61 rfl ?_
                  refine V2.to (st' := []) ?_ rfl rfl rfl rfl
                  refine V2_iconst (v := 1) d_P_put_55 rfl ?_
                  refine V2_ireturn d_P_put_56 rfl ?_
                  have hr : 0 ≤ (nI p).toInt ∧ (nI p).toInt < (F 75 t).toInt := (by (try clear hQ); (try subst ev24 ev22 ev20 ev17 ev13 ev12 ev9 ev5); ((try simp only [xb_eq, xb_ne, Int32.lt_iff_toInt_lt, Int32.le_iff_toInt_le] at *) <;> (try simp only [← Int32.toInt_inj, true_and, false_and, or_false, false_or, or_true, true_or, and_true, and_false] at *) <;> omega))
                  have hb0 : 0 ≤ (nI t).toInt ∧ (nI t).toInt < 4 := (by (try clear hQ); (try subst ev24 ev22 ev20 ev17 ev13 ev12 ev9 ev5); ((try simp only [xb_eq, xb_ne, Int32.lt_iff_toInt_lt, Int32.le_iff_toInt_le] at *) <;> (try simp only [← Int32.toInt_inj, true_and, false_and, or_false, false_or, or_true, true_or, and_true, and_false] at *) <;> omega))
                  have e : k_put F (nI t) (nI p) v = (1, xp F 76 (24 * t + p) (signBits (F 74 t) v)) := (if_pos hb0).trans (by rw [kt, kp]; exact (if_neg hz).trans (if_pos hr))
                  rw [e] at hQ
                  have h8 : ¬ F 74 t = 8 := by
                    have h9 := c21
                    subst ev24 ev22 ev20 ev17 ev13 ev12 ev9 ev5
                    rw [← eb]
                    exact h9
                  have h16 : F 74 t = 16 := by
                    have h9 := c23
                    subst ev24 ev22 ev20 ev17 ev13 ev12 ev9 ev5
                    rw [← eb]
                    exact h9
                  have el : v24 = lowBits (F 74 t) v := by
                    subst ev24 ev22 ev20 ev17 ev13 ev12 ev9 ev5
                    exact ((if_neg h8).trans (if_pos h16)).symm
                  rw [el]
                  exact hQ _ (mid_put hR ht eN hN hp h0)
              · refine V2_iload_n (i := 2) d_Sheet_write_35 rfl rfl ?_
                refine V2_sipush (v := 255) d_Sheet_write_36 rfl ?_
                refine V2_iand d_Sheet_write_39 ?_
                refine V2_topi (fun v25 ev25 => ?_)
                refine V2_goto (tgt := 60) d_Sheet_write_40 rfl ?_
                refine V2_iastore (j := (p)) d_Sheet_write_60 (by omega) (sh_a ht) (xixA (n := p) rfl (by omega) (by decide)) (xixB (n := p) rfl (by omega)) ?_
                refine V2_return d_Sheet_write_61 rfl ?_
                refine V2.to (st' := []) ?_ rfl rfl rfl rfl
                refine V2_iconst (v := 1) d_P_put_55 rfl ?_
                refine V2_ireturn d_P_put_56 rfl ?_
                have hr : 0 ≤ (nI p).toInt ∧ (nI p).toInt < (F 75 t).toInt := (by (try clear hQ); (try subst ev25 ev20 ev17 ev13 ev12 ev9 ev5); ((try simp only [xb_eq, xb_ne, Int32.lt_iff_toInt_lt, Int32.le_iff_toInt_le] at *) <;> (try simp only [← Int32.toInt_inj, true_and, false_and, or_false, false_or, or_true, true_or, and_true, and_false] at *) <;> omega))
                have hb0 : 0 ≤ (nI t).toInt ∧ (nI t).toInt < 4 := (by (try clear hQ); (try subst ev25 ev20 ev17 ev13 ev12 ev9 ev5); ((try simp only [xb_eq, xb_ne, Int32.lt_iff_toInt_lt, Int32.le_iff_toInt_le] at *) <;> (try simp only [← Int32.toInt_inj, true_and, false_and, or_false, false_or, or_true, true_or, and_true, and_false] at *) <;> omega))
                have e : k_put F (nI t) (nI p) v = (1, xp F 76 (24 * t + p) (signBits (F 74 t) v)) := (if_pos hb0).trans (by rw [kt, kp]; exact (if_neg hz).trans (if_pos hr))
                rw [e] at hQ
                have h8 : F 74 t = 8 := by
                  have h9 := c21
                  subst ev25 ev20 ev17 ev13 ev12 ev9 ev5
                  rw [← eb]
                  exact h9
                have el : v25 = lowBits (F 74 t) v := by
                  subst ev25 ev20 ev17 ev13 ev12 ev9 ev5
                  exact (if_pos h8).symm
                rw [el]
                exact hQ _ (mid_put hR ht eN hN hp h0)
      · refine V2_iconst (v := 1) d_Sheet_isMissing_7 rfl ?_
        refine V2_goto (tgt := 12) d_Sheet_isMissing_8 rfl ?_
        refine V2_zreturn d_Sheet_isMissing_12 rfl (by decide) ?_
        refine V2.to (st' := [.int (1 : Int32)]) ?_ rfl rfl rfl rfl
        refine V2_if_eq (tgt := 32) d_P_put_23 rfl (fun c => (by first | exact absurd c (by decide) | exact absurd (by decide) c)) (fun _ => ?_)
        have hz : F 74 t = 0 := by
          have h9 := c6
          subst ev5
          rw [← eb]
          exact h9
        refine V2_aload_n (i := 0) d_P_put_26 rfl rfl ?_
        refine V2_iconst (v := 2) d_P_put_27 rfl ?_
        refine V2_callV [.int (2 : Int32)] d_P_put_28 rfl rfl lk_P_66 mo_P_fails (by decide) rfl rfl rfl (Nat.le_of_ble_eq_true rfl) (Nat.le_of_ble_eq_true rfl) ?_
        refine c_P_fails2 ?_
        refine V2_topi (fun v26 ev26 => ?_)
        refine V2_ireturn d_P_put_31 rfl ?_
        have hb0 : 0 ≤ (nI t).toInt ∧ (nI t).toInt < 4 := (by (try clear hQ); (try subst ev26 ev5); ((try simp only [xb_eq, xb_ne, Int32.lt_iff_toInt_lt, Int32.le_iff_toInt_le] at *) <;> (try simp only [← Int32.toInt_inj, true_and, false_and, or_false, false_or, or_true, true_or, and_true, and_false] at *) <;> omega))
        have e : k_put F (nI t) i v = (-1000000000 - 2, errF F 2) := (if_pos hb0).trans (by rw [kt]; exact if_pos hz)
        rw [e] at hQ
        subst ev26 ev5
        exact xQi (hQ _ (mid_err hR (by decide))) rfl rfl
theorem c_mod_put {L : Nat} {xs : Nat → Int32} {d : Nat} {Q : Option Value → xF → Prop} {F : xF} {sh i v : Int32} {F0 : xF} (hR : Rel F0) (hM : Mid F0 F (k_put F0 sh i v).2) (hQ : ∀ F2, Rel F2 → Q (some (.int (k_put F0 sh i v).1)) F2) : V2 L xs (d + 2) m_R_put 0 (xEntry [.ref 65, .int sh, .int i, .int v] 5) [] F Q := by
  have q0 : (0 : Int32).toInt = 0 := by decide
  have q1 : (1 : Int32).toInt = 1 := by decide
  have q2 : (2 : Int32).toInt = 2 := by decide
  have q3 : (3 : Int32).toInt = 3 := by decide
  have q4 : (4 : Int32).toInt = 4 := by decide
  have q5 : (5 : Int32).toInt = 5 := by decide
  have q6 : (6 : Int32).toInt = 6 := by decide
  have q7 : (7 : Int32).toInt = 7 := by decide
  have q8 : (8 : Int32).toInt = 8 := by decide
  have q9 : (9 : Int32).toInt = 9 := by decide
  have q10 : (10 : Int32).toInt = 10 := by decide
  have q12 : (12 : Int32).toInt = 12 := by decide
  have q16 : (16 : Int32).toInt = 16 := by decide
  have q20 : (20 : Int32).toInt = 20 := by decide
  have q24 : (24 : Int32).toInt = 24 := by decide
  have q30 : (30 : Int32).toInt = 30 := by decide
  have q32 : (32 : Int32).toInt = 32 := by decide
  have q40 : (40 : Int32).toInt = 40 := by decide
  have q60 : (60 : Int32).toInt = 60 := by decide
  have q69 : (69 : Int32).toInt = 69 := by decide
  have q99 : (99 : Int32).toInt = 99 := by decide
  have q9999 : (9999 : Int32).toInt = 9999 := by decide
  have q274 : (274 : Int32).toInt = 274 := by decide
  have q334 : (334 : Int32).toInt = 334 := by decide
  have e74 : F 74 = F0 74 := hM.1 74 (by decide)
  have e75 : F 75 = F0 75 := hM.1 75 (by decide)
  refine V2.to (l' := [some (.ref 65), some (.int sh), some (.int i), some (.int v), none]) ?_ rfl rfl rfl rfl
  refine V2_iload_n (i := 1) d_R_put_0 rfl rfl ?_
  refine V2_callS [.int sh] d_R_put_1 rfl rfl lk_R_258 mo_R_isSheet (Nat.le_of_ble_eq_true rfl) (Nat.le_of_ble_eq_true rfl) ?_
  refine c_R_isSheet ?_
  refine V2_topi (fun v1 ev1 => ?_)
  refine V2_if_ne (tgt := 13) d_R_put_4 rfl (fun c2 => ?_) (fun c2 => ?_)
  · obtain ⟨t, ht, ept⟩ := in_of (x := sh) (P := 4) (by (try clear hQ); (try subst ev1); ((try simp only [xb_eq, xb_ne, Int32.lt_iff_toInt_lt, Int32.le_iff_toInt_le] at *) <;> (try simp only [← Int32.toInt_inj, true_and, false_and, or_false, false_or, or_true, true_or, and_true, and_false] at *) <;> omega)) (by (try clear hQ); (try subst ev1); ((try simp only [xb_eq, xb_ne, Int32.lt_iff_toInt_lt, Int32.le_iff_toInt_le] at *) <;> (try simp only [← Int32.toInt_inj, true_and, false_and, or_false, false_or, or_true, true_or, and_true, and_false] at *) <;> omega)) (by omega)
    subst ept
    have nt : (nI t).toInt = (t : Int) := nI_toInt (by omega)
    have kt : (nI t).toNatClampNeg = t := nI_clamp (by omega)
    obtain ⟨N, hN, eN, nN, e2, eb, hb⟩ := inv_sz hR ht
    have s1 : (F 75 t - 1).toInt = (N : Int) - 1 := by
      rw [congrFun e75 t, eN]
      exact sub_any (n := N) rfl (by omega) (by decide)
    have n75 : (F 75 t).toInt = (N : Int) := by rw [congrFun e75 t]; exact nN
    refine V2_aload_n (i := 0) d_R_put_13 rfl rfl ?_
    refine V2_getr (a := 74) d_R_put_14 fl_R_38 (by decide) rfl (by decide) rfl ?_
    refine V2_iload_n (i := 1) d_R_put_17 rfl rfl ?_
    refine V2_ialoadJ (t) d_R_put_18 (by decide) rfl (xixA (n := t) rfl (by omega) (by decide)) (xixB (n := t) rfl (by omega)) rfl ?_
    refine V2_topi (fun v3 ev3 => ?_)
    refine V2_if_ne (tgt := 28) d_R_put_19 rfl (fun c4 => ?_) (fun c4 => ?_)
    · have hz : ¬ F0 74 t = 0 := by
        have h9 := c4
        subst ev3 ev1
        rw [← congrFun e74 t]
        exact h9
      refine V2_iload_n (i := 2) d_R_put_28 rfl rfl ?_
      refine V2_iconst (v := 0) d_R_put_29 rfl ?_
      refine V2_aload_n (i := 0) d_R_put_30 rfl rfl ?_
      refine V2_getr (a := 75) d_R_put_31 fl_R_41 (by decide) rfl (by decide) rfl ?_
      refine V2_iload_n (i := 1) d_R_put_34 rfl rfl ?_
      refine V2_ialoadJ (t) d_R_put_35 (by decide) rfl (xixA (n := t) rfl (by omega) (by decide)) (xixB (n := t) rfl (by omega)) rfl ?_
      refine V2_topi (fun v5 ev5 => ?_)
      refine V2_iconst (v := 1) d_R_put_36 rfl ?_
      refine V2_isub d_R_put_37 ?_
      refine V2_topi (fun v6 ev6 => ?_)
      refine V2_callS [.int i, .int (0 : Int32), .int v6] d_R_put_38 rfl rfl lk_R_51 mo_R_in (Nat.le_of_ble_eq_true rfl) (Nat.le_of_ble_eq_true rfl) ?_
      refine c_R_in ?_
      refine V2_topi (fun v7 ev7 => ?_)
      refine V2_if_ne (tgt := 50) d_R_put_41 rfl (fun c8 => ?_) (fun c8 => ?_)
      · obtain ⟨p, hp, epp⟩ := in_of (x := i) (P := N) (by (try clear hQ); (try subst ev7 ev6 ev5 ev3 ev1); ((try simp only [xb_eq, xb_ne, Int32.lt_iff_toInt_lt, Int32.le_iff_toInt_le] at *) <;> (try simp only [← Int32.toInt_inj, true_and, false_and, or_false, false_or, or_true, true_or, and_true, and_false] at *) <;> omega)) (by (try clear hQ); (try subst ev7 ev6 ev5 ev3 ev1); ((try simp only [xb_eq, xb_ne, Int32.lt_iff_toInt_lt, Int32.le_iff_toInt_le] at *) <;> (try simp only [← Int32.toInt_inj, true_and, false_and, or_false, false_or, or_true, true_or, and_true, and_false] at *) <;> omega)) (by omega)
        subst epp
        have np : (nI p).toInt = (p : Int) := nI_toInt (by omega)
        have kp : (nI p).toNatClampNeg = p := nI_clamp (by omega)
        refine V2_bipush (v := 32) d_R_put_50 rfl ?_
        refine V2_aload_n (i := 0) d_R_put_52 rfl rfl ?_
        refine V2_getr (a := 74) d_R_put_53 fl_R_38 (by decide) rfl (by decide) rfl ?_
        refine V2_iload_n (i := 1) d_R_put_56 rfl rfl ?_
        refine V2_ialoadJ (t) d_R_put_57 (by decide) rfl (xixA (n := t) rfl (by omega) (by decide)) (xixB (n := t) rfl (by omega)) rfl ?_
        refine V2_topi (fun v9 ev9 => ?_)
        refine V2_isub d_R_put_58 ?_
        refine V2_topi (fun v10 ev10 => ?_)
        refine V2_istore (i := 4) (l' := [some (.ref 65), some (.int (nI t)), some (.int (nI p)), some (.int v), some (.int v10)]) d_R_put_59 (xst_i (Nat.le_of_ble_eq_true rfl) rfl rfl) ?_
        refine V2_aload_n (i := 0) d_R_put_61 rfl rfl ?_
        refine V2_getr (a := 76) d_R_put_62 fl_R_44 (by decide) rfl (by decide) rfl ?_
        refine V2_bipush (v := 24) d_R_put_65 rfl ?_
        refine V2_iload_n (i := 1) d_R_put_67 rfl rfl ?_
        refine V2_imul d_R_put_68 ?_
        refine V2_topi (fun v11 ev11 => ?_)
        refine V2_iload_n (i := 2) d_R_put_69 rfl rfl ?_
        refine V2_iadd d_R_put_70 ?_
        refine V2_topi (fun v12 ev12 => ?_)
        refine V2_iload_n (i := 3) d_R_put_71 rfl rfl ?_
        refine V2_iload (i := 4) d_R_put_72 rfl ?_
        refine V2_ishl d_R_put_74 ?_
        refine V2_topi (fun v13 ev13 => ?_)
        refine V2_iload (i := 4) d_R_put_75 rfl ?_
        refine V2_ishr d_R_put_77 ?_
        refine V2_topi (fun v14 ev14 => ?_)
        refine V2_iastore (j := (24 * t + p)) d_R_put_78 (by decide) rfl (xixA (n := 24 * t + p) (by subst ev14 ev13 ev12 ev11 ev10 ev9 ev7 ev6 ev5 ev3 ev1; simp only [nI, Int32.ofNat_add, Int32.ofNat_mul]; rfl) (by omega) (by decide)) (xixB (n := 24 * t + p) (by subst ev14 ev13 ev12 ev11 ev10 ev9 ev7 ev6 ev5 ev3 ev1; simp only [nI, Int32.ofNat_add, Int32.ofNat_mul]; rfl) (by omega)) ?_
        refine V2_iconst (v := 1) d_R_put_79 rfl ?_
        refine V2_ireturn d_R_put_80 rfl ?_
        have hr : 0 ≤ (nI p).toInt ∧ (nI p).toInt < (F0 75 t).toInt := (by (try clear hQ); (try subst ev14 ev13 ev12 ev11 ev10 ev9 ev7 ev6 ev5 ev3 ev1); ((try simp only [xb_eq, xb_ne, Int32.lt_iff_toInt_lt, Int32.le_iff_toInt_le] at *) <;> (try simp only [← Int32.toInt_inj, true_and, false_and, or_false, false_or, or_true, true_or, and_true, and_false] at *) <;> omega))
        have hb0 : 0 ≤ (nI t).toInt ∧ (nI t).toInt < 4 := (by (try clear hQ); (try subst ev14 ev13 ev12 ev11 ev10 ev9 ev7 ev6 ev5 ev3 ev1); ((try simp only [xb_eq, xb_ne, Int32.lt_iff_toInt_lt, Int32.le_iff_toInt_le] at *) <;> (try simp only [← Int32.toInt_inj, true_and, false_and, or_false, false_or, or_true, true_or, and_true, and_false] at *) <;> omega))
        have e : k_put F0 (nI t) (nI p) v = (1, xp F0 76 (24 * t + p) (signBits (F0 74 t) v)) := (if_pos hb0).trans (by rw [kt, kp]; exact (if_neg hz).trans (if_pos hr))
        rw [e] at hQ hM
        have el : v14 = signBits (F0 74 t) v := by
          subst ev14 ev13 ev12 ev11 ev10 ev9 ev7 ev6 ev5 ev3 ev1
          rw [congrFun e74 t]
          rfl
        rw [el]
        exact hQ _ (rel_put hR ht hM)
      · refine V2_aload_n (i := 0) d_R_put_44 rfl rfl ?_
        refine V2_iconst (v := 1) d_R_put_45 rfl ?_
        refine V2_callV [.int (1 : Int32)] d_R_put_46 rfl rfl lk_R_55 mo_R_error (by decide) rfl rfl rfl (Nat.le_of_ble_eq_true rfl) (Nat.le_of_ble_eq_true rfl) ?_
        refine c_R_error1 ?_
        refine V2_topi (fun v15 ev15 => ?_)
        refine V2_ireturn d_R_put_49 rfl ?_
        have hr : ¬ (0 ≤ i.toInt ∧ i.toInt < (F0 75 t).toInt) := (by (try clear hQ); (try subst ev15 ev7 ev6 ev5 ev3 ev1); ((try simp only [xb_eq, xb_ne, Int32.lt_iff_toInt_lt, Int32.le_iff_toInt_le] at *) <;> (try simp only [← Int32.toInt_inj, true_and, false_and, or_false, false_or, or_true, true_or, and_true, and_false] at *) <;> omega))
        have hb0 : 0 ≤ (nI t).toInt ∧ (nI t).toInt < 4 := (by (try clear hQ); (try subst ev15 ev7 ev6 ev5 ev3 ev1); ((try simp only [xb_eq, xb_ne, Int32.lt_iff_toInt_lt, Int32.le_iff_toInt_le] at *) <;> (try simp only [← Int32.toInt_inj, true_and, false_and, or_false, false_or, or_true, true_or, and_true, and_false] at *) <;> omega))
        have e : k_put F0 (nI t) i v = (-1000000000 - 1, errF F0 1) := (if_pos hb0).trans (by rw [kt]; exact (if_neg hz).trans (if_neg hr))
        rw [e] at hQ hM
        subst ev15 ev7 ev6 ev5 ev3 ev1
        exact xQi (hQ _ (rel_err hR hM)) rfl rfl
    · have hz : F0 74 t = 0 := by
        have h9 := c4
        subst ev3 ev1
        rw [← congrFun e74 t]
        exact h9
      refine V2_aload_n (i := 0) d_R_put_22 rfl rfl ?_
      refine V2_iconst (v := 2) d_R_put_23 rfl ?_
      refine V2_callV [.int (2 : Int32)] d_R_put_24 rfl rfl lk_R_55 mo_R_error (by decide) rfl rfl rfl (Nat.le_of_ble_eq_true rfl) (Nat.le_of_ble_eq_true rfl) ?_
      refine c_R_error2 ?_
      refine V2_topi (fun v16 ev16 => ?_)
      refine V2_ireturn d_R_put_27 rfl ?_
      have hb0 : 0 ≤ (nI t).toInt ∧ (nI t).toInt < 4 := (by (try clear hQ); (try subst ev16 ev3 ev1); ((try simp only [xb_eq, xb_ne, Int32.lt_iff_toInt_lt, Int32.le_iff_toInt_le] at *) <;> (try simp only [← Int32.toInt_inj, true_and, false_and, or_false, false_or, or_true, true_or, and_true, and_false] at *) <;> omega))
      have e : k_put F0 (nI t) i v = (-1000000000 - 2, errF F0 2) := (if_pos hb0).trans (by rw [kt]; exact if_pos hz)
      rw [e] at hQ hM
      subst ev16 ev3 ev1
      exact xQi (hQ _ (rel_err hR hM)) rfl rfl
  · refine V2_aload_n (i := 0) d_R_put_7 rfl rfl ?_
    refine V2_iconst (v := 1) d_R_put_8 rfl ?_
    refine V2_callV [.int (1 : Int32)] d_R_put_9 rfl rfl lk_R_55 mo_R_error (by decide) rfl rfl rfl (Nat.le_of_ble_eq_true rfl) (Nat.le_of_ble_eq_true rfl) ?_
    refine c_R_error1 ?_
    refine V2_topi (fun v17 ev17 => ?_)
    refine V2_ireturn d_R_put_12 rfl ?_
    have hb0 : ¬ (0 ≤ sh.toInt ∧ sh.toInt < 4) := (by (try clear hQ); (try subst ev17 ev1); ((try simp only [xb_eq, xb_ne, Int32.lt_iff_toInt_lt, Int32.le_iff_toInt_le] at *) <;> (try simp only [← Int32.toInt_inj, true_and, false_and, or_false, false_or, or_true, true_or, and_true, and_false] at *) <;> omega))
    have e : k_put F0 sh i v = (-1000000000 - 1, errF F0 1) := if_neg hb0
    rw [e] at hQ hM
    subst ev17 ev1
    exact xQi (hQ _ (rel_err hR hM)) rfl rfl
/-- from the k-th on, n are left: 1 and the place of the first that isn't its push, or 0 -/
def chkS (S : Nat → Int32) : Nat → Nat → Int32
  | 0, _ => 0
  | n + 1, k => if k < PN S ∧ pushS S k = S (334 + k) then chkS S n (k + 1) else nI (k + 1)
theorem chkS_congr {S S' : Nat → Int32} (h : ∀ j, ¬ j = 10 → S' j = S j) : ∀ n k, chkS S' n k = chkS S n k := by
  intro n
  induction n with
  | zero => intro k; rfl
  | succ n ih =>
    intro k
    unfold chkS
    have e1 : PN S' = PN S := by unfold PN; rw [h 11 (by decide)]
    have e2 : pushS S' k = pushS S k := by
      unfold pushS
      rw [h (12 + 2 * k) (by omega), h (12 + 2 * k + 1) (by omega), h 3 (by decide), h 2 (by decide), h 7 (by decide)]
    rw [e1, e2, h (334 + k) (by omega), ih (k + 1)]
theorem chkS_range (S : Nat → Int32) : ∀ n k, n + k ≤ 24 → 0 ≤ (chkS S n k).toInt ∧ (chkS S n k).toInt ≤ 24 := by
  intro n
  induction n with
  | zero =>
    intro k _
    show 0 ≤ (0 : Int32).toInt ∧ (0 : Int32).toInt ≤ 24
    decide
  | succ n ih =>
    intro k hk
    unfold chkS
    by_cases h : k < PN S ∧ pushS S k = S (334 + k)
    · rw [if_pos h]
      exact ih (k + 1) (by omega)
    · rw [if_neg h, nI_toInt (by omega)]
      omega
def k_check (F : xF) : Int32 × xF := (chkS (F 66) (WN (F 66)) 0, xrw F 66 (upd (F 66) 10 0))
theorem c_P_firstU_loop {L : Nat} {xs : Nat → Int32} {d : Nat} {Q : Option Value → xF → Prop} {F : xF} (hR : Rel F) : ∀ (n_ : Nat) (k m : Nat), k + m = WN (F 66) → m < n_ → Q (some (.int (chkS (F 66) m k - 1))) F → V2 L xs (d + 4) m_P_firstUnlikePush 2 [some (.ref 0), some (.int (nI k))] [] F Q := by
  intro n_
  induction n_ with
  | zero => exact fun k m h1 h2 => absurd h2 (by omega)
  | succ n_ ih =>
    intro k m h1 h2 hQ
    obtain ⟨eP, hP6⟩ := inv_PN hR.2.1.2.2.1
    obtain ⟨eW, hW⟩ := inv_WN hR.2.1.2.2.2.2.2.2
    have e16 : F 16 1 = F 66 10 := hR.1.1.2.2.2.2.2.1.1
    have e4 : F 3 2 = F 66 11 := hR.1.1.2.1.1
    refine V2_iload_n (i := 1) d_P_firstUnlikePush_2 rfl rfl ?_
    refine V2_aload_n (i := 0) d_P_firstUnlikePush_3 rfl rfl ?_
    refine V2_getr (a := 1) d_P_firstUnlikePush_4 fl_P_10 (by decide) rfl (by decide) rfl ?_
    refine V2_getr (a := 16) d_P_firstUnlikePush_7 fl_P_340 (by decide) rfl (by decide) rfl ?_
    refine V2_callV [] d_P_firstUnlikePush_10 rfl rfl lk_P_157 mo_Nums_size (by decide) rfl rfl rfl (Nat.le_of_ble_eq_true rfl) (Nat.le_of_ble_eq_true rfl) ?_
    refine V2.to (l' := [some (.ref 16)]) ?_ rfl rfl rfl rfl
    refine V2_aload_n (i := 0) d_Nums_size_0 rfl rfl ?_
    refine V2_get (v := F 16 1) d_Nums_size_1 fl_Nums_7 (by decide) rfl (by decide) rfl rfl ?_
    refine V2_topi (fun v1 ev1 => ?_)
    refine V2_ireturn d_Nums_size_4 rfl ?_
    refine V2.to (st' := [.int v1, .int (nI k)]) ?_ rfl rfl rfl rfl
    refine V2_icmp_ge (tgt := 70) d_P_firstUnlikePush_13 rfl (fun c2 => ?_) (fun c2 => ?_)
    · refine V2_iconst (v := -1) d_P_firstUnlikePush_70 rfl ?_
      refine V2_ireturn d_P_firstUnlikePush_71 rfl ?_
      have hm : m = 0 := by
        have h9 := c2
        subst ev1
        rw [e16, eW] at h9
        have := (nI_leI (by omega) (by omega)).mp h9
        omega
      subst hm
      subst ev1
      exact xQi hQ (by show (-1 : Int32) = 0 - 1; decide) rfl
    · have hkw : k < WN (F 66) := by
        have h9 := c2
        subst ev1
        rw [e16, eW] at h9
        exact Nat.not_le.mp (fun hh => h9 ((nI_leI (by omega) (by omega)).mpr hh))
      obtain ⟨m, rfl⟩ : ∃ m2, m = m2 + 1 := ⟨m - 1, by omega⟩
      refine V2_aload_n (i := 0) d_P_firstUnlikePush_16 rfl rfl ?_
      refine V2_getr (a := 1) d_P_firstUnlikePush_17 fl_P_10 (by decide) rfl (by decide) rfl ?_
      refine V2_getr (a := 3) d_P_firstUnlikePush_20 fl_P_70 (by decide) rfl (by decide) rfl ?_
      refine V2_iload_n (i := 1) d_P_firstUnlikePush_23 rfl rfl ?_
      refine V2_callV [.int (nI k)] d_P_firstUnlikePush_24 rfl rfl lk_P_84 mo_Push_has (by decide) rfl rfl rfl (Nat.le_of_ble_eq_true rfl) (Nat.le_of_ble_eq_true rfl) ?_
      refine c_Push_has (P := PN (F 66)) (hR.1.1.2.1.1.trans eP) hP6 ?_
      refine V2_topi (fun v3 ev3 => ?_)
      refine V2_if_eq (tgt := 62) d_P_firstUnlikePush_27 rfl (fun c4 => ?_) (fun c4 => ?_)
      · refine V2_iload_n (i := 1) d_P_firstUnlikePush_62 rfl rfl ?_
        refine V2_ireturn d_P_firstUnlikePush_63 rfl ?_
        have hng : ¬ (k < PN (F 66) ∧ pushS (F 66) k = F 66 (334 + k)) := fun h => (show ¬ k < PN (F 66) from fun hh => by
            have h9 := c4
            have h8 := xb_eq.mp (by subst ev3 ev1; exact h9)
            apply h8
            rw [e4, eP]
            exact ⟨nI_pos' (by omega), nI_lt hh (by omega)⟩) h.1
        have e9 : chkS (F 66) (m + 1) k = nI (k + 1) := if_neg hng
        rw [e9] at hQ
        exact xQi hQ (nI_pred k).symm rfl
      · have hkP : k < PN (F 66) := by
          have h9 := c4
          have h8 := xb_ne.mp (by subst ev3 ev1; exact h9)
          rw [e4, eP] at h8
          exact (nI_ltI (by omega) (by omega)).mp h8.2
        refine V2_aload_n (i := 0) d_P_firstUnlikePush_30 rfl rfl ?_
        refine V2_getr (a := 1) d_P_firstUnlikePush_31 fl_P_10 (by decide) rfl (by decide) rfl ?_
        refine V2_getr (a := 3) d_P_firstUnlikePush_34 fl_P_70 (by decide) rfl (by decide) rfl ?_
        refine V2_iload_n (i := 1) d_P_firstUnlikePush_37 rfl rfl ?_
        refine V2_aload_n (i := 0) d_P_firstUnlikePush_38 rfl rfl ?_
        refine V2_getr (a := 1) d_P_firstUnlikePush_39 fl_P_10 (by decide) rfl (by decide) rfl ?_
        refine V2_getr (a := 2) d_P_firstUnlikePush_42 fl_P_93 (by decide) rfl (by decide) rfl ?_
        refine V2_callV [.int (nI k), .ref 2] d_P_firstUnlikePush_45 rfl rfl lk_P_96 mo_Push_pushOf (by decide) rfl rfl rfl (Nat.le_of_ble_eq_true rfl) (Nat.le_of_ble_eq_true rfl) ?_
        refine c_Push_pushOf_2 (P := PN (F 66)) (hR.1.1.2.1.1.trans eP) (hR.1.1.2.1.2.1.trans eP) hP6 hkP ?_
        refine V2_topi (fun v5 ev5 => ?_)
        refine V2_aload_n (i := 0) d_P_firstUnlikePush_48 rfl rfl ?_
        refine V2_getr (a := 1) d_P_firstUnlikePush_49 fl_P_10 (by decide) rfl (by decide) rfl ?_
        refine V2_getr (a := 16) d_P_firstUnlikePush_52 fl_P_340 (by decide) rfl (by decide) rfl ?_
        refine V2_iload_n (i := 1) d_P_firstUnlikePush_55 rfl rfl ?_
        refine V2_callV [.int (nI k)] d_P_firstUnlikePush_56 rfl rfl lk_P_304 mo_Nums_at (by decide) rfl rfl rfl (Nat.le_of_ble_eq_true rfl) (Nat.le_of_ble_eq_true rfl) ?_
        refine c_Nums_at_16 (P := WN (F 66)) (e16.trans eW) hW hkw ?_
        refine V2_topi (fun v6 ev6 => ?_)
        refine V2_icmp_eq (tgt := 64) d_P_firstUnlikePush_59 rfl (fun c7 => ?_) (fun c7 => ?_)
        · obtain ⟨v8, ev8⟩ : ∃ y : Int32, y = nI k + 1 := ⟨_, rfl⟩
          refine V2_iinc (i := 1) (v := v8) (l' := [some (.ref 0), some (.int v8)]) d_P_firstUnlikePush_64 rfl (by rw [ev8]; rfl) (xst_r (Nat.le_of_ble_eq_true rfl) rfl rfl) ?_
          refine V2_goto (tgt := 2) d_P_firstUnlikePush_67 rfl ?_
          have hg : k < PN (F 66) ∧ pushS (F 66) k = F 66 (334 + k) := ⟨hkP, by
            have h9 := c7
            subst ev8 ev6 ev5 ev3 ev1
            rw [push_eq hR hkP] at h9
            exact h9.trans (hR.1.1.2.2.2.2.2.1.2 k hkw)⟩
          refine V2.to (ih (k + 1) m (by omega) (by omega) ?_) rfl (by rw [ev8, nI_1]) rfl rfl
          have e9 : chkS (F 66) (m + 1) k = chkS (F 66) m (k + 1) := if_pos hg
          rw [e9] at hQ
          exact hQ
        · refine V2_iload_n (i := 1) d_P_firstUnlikePush_62 rfl rfl ?_
          refine V2_ireturn d_P_firstUnlikePush_63 rfl ?_
          have hng : ¬ (k < PN (F 66) ∧ pushS (F 66) k = F 66 (334 + k)) := fun h => (by
              have h9 := c7
              apply h9
              subst ev6 ev5 ev3 ev1
              rw [push_eq hR hkP]
              exact h.2.trans (hR.1.1.2.2.2.2.2.1.2 k hkw).symm)
          have e9 : chkS (F 66) (m + 1) k = nI (k + 1) := if_neg hng
          rw [e9] at hQ
          exact xQi hQ (nI_pred k).symm rfl
theorem c_P_firstU {L : Nat} {xs : Nat → Int32} {d : Nat} {Q : Option Value → xF → Prop} {F : xF}  (hR : Rel F) (hQ : Q (some (.int (chkS (F 66) (WN (F 66)) 0 - 1))) F) : V2 L xs (d + 4) m_P_firstUnlikePush 0 (xEntry [.ref 0] 2) [] F Q := by
  refine V2.to (l' := [some (.ref 0), none]) ?_ rfl rfl rfl rfl
  refine V2_iconst (v := 0) d_P_firstUnlikePush_0 rfl ?_
  refine V2_istore_n (i := 1) (l' := [some (.ref 0), some (.int (0 : Int32))]) d_P_firstUnlikePush_1 rfl (xst_r (Nat.le_of_ble_eq_true rfl) rfl rfl) ?_
  exact V2.to (c_P_firstU_loop hR (WN (F 66) + 1) 0 (WN (F 66)) (by omega) (by omega) hQ) rfl rfl rfl rfl
theorem c_cls_check {L : Nat} {xs : Nat → Int32} {d : Nat} {Q : Option Value → xF → Prop} {F : xF}  (hR : Rel F) (hQ : ∀ F1, Mid F F1 (k_check F).2 → Q (some (.int (k_check F).1)) F1) : V2 L xs (d + 5) m_P_check 0 (xEntry [.ref 0] 2) [] F Q := by
  have q0 : (0 : Int32).toInt = 0 := by decide
  have q1 : (1 : Int32).toInt = 1 := by decide
  have q24 : (24 : Int32).toInt = 24 := by decide
  obtain ⟨eW, hW⟩ := inv_WN hR.2.1.2.2.2.2.2.2
  have hr := chkS_range (F 66) (WN (F 66)) 0 (by omega)
  have s1 : (chkS (F 66) (WN (F 66)) 0 - 1).toInt = (chkS (F 66) (WN (F 66)) 0).toInt - 1 := toI_sub (by omega) (by omega) (by decide) (by decide)
  refine V2.to (l' := [some (.ref 0), none]) ?_ rfl rfl rfl rfl
  refine V2_aload_n (i := 0) d_P_check_0 rfl rfl ?_
  refine V2_callV [] d_P_check_1 rfl rfl lk_P_343 mo_P_firstUnlikePush (by decide) rfl rfl rfl (Nat.le_of_ble_eq_true rfl) (Nat.le_of_ble_eq_true rfl) ?_
  refine c_P_firstU hR ?_
  refine V2_topi (fun v1 ev1 => ?_)
  refine V2_istore_n (i := 1) (l' := [some (.ref 0), some (.int v1)]) d_P_check_4 rfl (xst_r (Nat.le_of_ble_eq_true rfl) rfl rfl) ?_
  refine V2_aload_n (i := 0) d_P_check_5 rfl rfl ?_
  refine V2_getr (a := 1) d_P_check_6 fl_P_10 (by decide) rfl (by decide) rfl ?_
  refine V2_getr (a := 16) d_P_check_9 fl_P_340 (by decide) rfl (by decide) rfl ?_
  refine V2_callV [] d_P_check_12 rfl rfl lk_P_162 mo_Nums_empty (by decide) rfl rfl rfl (Nat.le_of_ble_eq_true rfl) (Nat.le_of_ble_eq_true rfl) ?_
  refine c_Nums_empty_16 ?_
  refine V2_iload_n (i := 1) d_P_check_15 rfl rfl ?_
  refine V2_if_ge (tgt := 23) d_P_check_16 rfl (fun c2 => ?_) (fun c2 => ?_)
  · refine V2_iconst (v := 1) d_P_check_23 rfl ?_
    refine V2_iload_n (i := 1) d_P_check_24 rfl rfl ?_
    refine V2_iadd d_P_check_25 ?_
    refine V2_topi (fun v3 ev3 => ?_)
    refine V2_ireturn d_P_check_26 rfl ?_
    have e9 : v3 = chkS (F 66) (WN (F 66)) 0 := by
      subst ev3 ev1
      refine Int32.toInt_inj.mp ?_
      rw [toI_add (by decide) (by decide) (by omega) (by omega), s1]
      omega
    subst ev3 ev1
    exact xQi (hQ _ (mid_W hR (fun k hk => xp_row_ne (by omega)) (relW_wait hR.1.1 hR.2.1 ⟨(xp_same _ _ _ _).trans upd_same.symm, fun i hi => absurd hi (by rw [upd_same]; exact Nat.not_lt_zero i)⟩ (fun k a b => xp_row_ne a) (fun j a b => upd_ne a)))) e9 rfl
  · refine V2_iconst (v := 0) d_P_check_19 rfl ?_
    refine V2_goto (tgt := 26) d_P_check_20 rfl ?_
    refine V2_ireturn d_P_check_26 rfl ?_
    have e9 : (0 : Int32) = chkS (F 66) (WN (F 66)) 0 := by
      have h9 := c2
      subst ev1
      rw [toI_le, s1] at h9
      refine Int32.toInt_inj.mp ?_
      omega
    subst ev1
    exact xQi (hQ _ (mid_W hR (fun k hk => xp_row_ne (by omega)) (relW_wait hR.1.1 hR.2.1 ⟨(xp_same _ _ _ _).trans upd_same.symm, fun i hi => absurd hi (by rw [upd_same]; exact Nat.not_lt_zero i)⟩ (fun k a b => xp_row_ne a) (fun j a b => upd_ne a)))) e9 rfl
theorem c_R_check_loop {L : Nat} {xs : Nat → Int32} {d : Nat} {Q : Option Value → xF → Prop} {F : xF} {W : Nat} (eP : F 66 11 = nI (PN (F 66))) (hP6 : PN (F 66) ≤ 6) (hW : W ≤ 24) : ∀ (n_ : Nat) (k m : Nat), k + m = W → m < n_ → Q (some (.int (chkS (F 66) m k))) F → V2 L xs (d + 2) m_R_check 18 [some (.ref 65), some (.int (nI W)), some (.int (nI k))] [] F Q := by
  intro n_
  induction n_ with
  | zero => exact fun k m h1 h2 => absurd h2 (by omega)
  | succ n_ ih =>
    intro k m h1 h2 hQ
    have s1 : (F 66 11 - 1).toInt = (PN (F 66) : Int) - 1 := sub_any (n := PN (F 66)) eP (by omega) (by decide)
    refine V2_iload_n (i := 2) d_R_check_18 rfl rfl ?_
    refine V2_iload_n (i := 1) d_R_check_19 rfl rfl ?_
    refine V2_icmp_ge (tgt := 59) d_R_check_20 rfl (fun c1 => ?_) (fun c1 => ?_)
    · refine V2_iconst (v := 0) d_R_check_59 rfl ?_
      refine V2_ireturn d_R_check_60 rfl ?_
      have hm : m = 0 := by
        have := (nI_leI (by omega) (by omega)).mp c1
        omega
      subst hm
      exact hQ
    · have hkw : k < W := Nat.not_le.mp (fun hh => c1 ((nI_leI (by omega) (by omega)).mpr hh))
      obtain ⟨m, rfl⟩ : ∃ m2, m = m2 + 1 := ⟨m - 1, by omega⟩
      refine V2_aload_n (i := 0) d_R_check_23 rfl rfl ?_
      refine V2_iload_n (i := 2) d_R_check_24 rfl rfl ?_
      refine V2_callV [.int (nI k)] d_R_check_25 rfl rfl lk_R_168 mo_R_isPusher (by decide) rfl rfl rfl (Nat.le_of_ble_eq_true rfl) (Nat.le_of_ble_eq_true rfl) ?_
      refine c_R_isPusher ?_
      refine V2_topi (fun v2 ev2 => ?_)
      refine V2_if_eq (tgt := 49) d_R_check_28 rfl (fun c3 => ?_) (fun c3 => ?_)
      · refine V2_iconst (v := 1) d_R_check_49 rfl ?_
        refine V2_iload_n (i := 2) d_R_check_50 rfl rfl ?_
        refine V2_iadd d_R_check_51 ?_
        refine V2_topi (fun v4 ev4 => ?_)
        refine V2_ireturn d_R_check_52 rfl ?_
        have hng : ¬ (k < PN (F 66) ∧ pushS (F 66) k = F 66 (334 + k)) := fun h => (show ¬ k < PN (F 66) from fun hh => by
            have h9 := c3
            have h8 := xb_eq.mp (by subst ev4 ev2; exact h9)
            apply h8
            rw [toI_le, toI_le, s1, nI_toInt (by omega)]
            have q0 : (0 : Int32).toInt = 0 := by decide
            omega) h.1
        have e9 : chkS (F 66) (m + 1) k = nI (k + 1) := if_neg hng
        rw [e9] at hQ
        exact xQi hQ (by subst ev4 ev2; rw [Int32.add_comm]; exact nI_1 k) rfl
      · have hkP : k < PN (F 66) := by
          have h9 := c3
          have h8 := xb_ne.mp (by subst ev2; exact h9)
          rw [toI_le, toI_le, s1, nI_toInt (by omega)] at h8
          omega
        refine V2_aload_n (i := 0) d_R_check_31 rfl rfl ?_
        refine V2_getr (a := 66) d_R_check_32 fl_R_7 (by decide) rfl (by decide) rfl ?_
        refine V2_sipush (v := 334) d_R_check_35 rfl ?_
        refine V2_iload_n (i := 2) d_R_check_38 rfl rfl ?_
        refine V2_iadd d_R_check_39 ?_
        refine V2_topi (fun v5 ev5 => ?_)
        refine V2_ialoadJ (334 + k) d_R_check_40 (by decide) rfl (xixA (n := 334 + k) (by subst ev5 ev2; simp only [nI, Int32.ofNat_add]; rfl) (by omega) (by decide)) (xixB (n := 334 + k) (by subst ev5 ev2; simp only [nI, Int32.ofNat_add]; rfl) (by omega)) rfl ?_
        refine V2_topi (fun v6 ev6 => ?_)
        refine V2_aload_n (i := 0) d_R_check_41 rfl rfl ?_
        refine V2_iload_n (i := 2) d_R_check_42 rfl rfl ?_
        refine V2_callV [.int (nI k)] d_R_check_43 rfl rfl lk_R_118 mo_R_pushOf (by decide) rfl rfl rfl (Nat.le_of_ble_eq_true rfl) (Nat.le_of_ble_eq_true rfl) ?_
        refine c_R_pushOf (p := k) (by omega) ?_
        refine V2_topi (fun v7 ev7 => ?_)
        refine V2_icmp_eq (tgt := 53) d_R_check_46 rfl (fun c8 => ?_) (fun c8 => ?_)
        · obtain ⟨v9, ev9⟩ : ∃ y : Int32, y = nI k + 1 := ⟨_, rfl⟩
          refine V2_iinc (i := 2) (v := v9) (l' := [some (.ref 65), some (.int (nI W)), some (.int v9)]) d_R_check_53 rfl (by rw [ev9]; rfl) (xst_i (Nat.le_of_ble_eq_true rfl) rfl rfl) ?_
          refine V2_goto (tgt := 18) d_R_check_56 rfl ?_
          have hg : k < PN (F 66) ∧ pushS (F 66) k = F 66 (334 + k) := ⟨hkP, by
            have h9 := c8
            subst ev9 ev7 ev6 ev5 ev2
            exact h9.symm⟩
          refine V2.to (ih (k + 1) m (by omega) (by omega) ?_) rfl (by rw [ev9, nI_1]) rfl rfl
          have e9 : chkS (F 66) (m + 1) k = chkS (F 66) m (k + 1) := if_pos hg
          rw [e9] at hQ
          exact hQ
        · refine V2_iconst (v := 1) d_R_check_49 rfl ?_
          refine V2_iload_n (i := 2) d_R_check_50 rfl rfl ?_
          refine V2_iadd d_R_check_51 ?_
          refine V2_topi (fun v10 ev10 => ?_)
          refine V2_ireturn d_R_check_52 rfl ?_
          have hng : ¬ (k < PN (F 66) ∧ pushS (F 66) k = F 66 (334 + k)) := fun h => (by
              have h9 := c8
              apply h9
              subst ev10 ev7 ev6 ev5 ev2
              exact h.2.symm)
          have e9 : chkS (F 66) (m + 1) k = nI (k + 1) := if_neg hng
          rw [e9] at hQ
          exact xQi hQ (by subst ev10 ev7 ev6 ev5 ev2; rw [Int32.add_comm]; exact nI_1 k) rfl
theorem c_mod_check {L : Nat} {xs : Nat → Int32} {d : Nat} {Q : Option Value → xF → Prop} {F : xF} {F0 : xF} (hR : Rel F0) (hM : Mid F0 F (k_check F0).2) (hQ : ∀ F2, Rel F2 → Q (some (.int (k_check F0).1)) F2) : V2 L xs (d + 2) m_R_check 0 (xEntry [.ref 65] 3) [] F Q := by
  have e66 : F 66 = F0 66 := hM.1 66 (by decide)
  obtain ⟨eW, hW⟩ := inv_WN hR.2.1.2.2.2.2.2.2
  obtain ⟨eP, hP6⟩ := inv_PN hR.2.1.2.2.1
  refine V2.to (l' := [some (.ref 65), none, none]) ?_ rfl rfl rfl rfl
  refine V2_aload_n (i := 0) d_R_check_0 rfl rfl ?_
  refine V2_getr (a := 66) d_R_check_1 fl_R_7 (by decide) rfl (by decide) rfl ?_
  refine V2_bipush (v := 10) d_R_check_4 rfl ?_
  refine V2_iaload (v := F 66 10) d_R_check_6 (by decide) rfl (xixA (n := 10) rfl (by decide) (by decide)) rfl ?_
  refine V2_topi (fun v1 ev1 => ?_)
  refine V2_istore_n (i := 1) (l' := [some (.ref 65), some (.int v1), none]) d_R_check_7 rfl (xst_r (Nat.le_of_ble_eq_true rfl) rfl rfl) ?_
  refine V2_aload_n (i := 0) d_R_check_8 rfl rfl ?_
  refine V2_getr (a := 66) d_R_check_9 fl_R_7 (by decide) rfl (by decide) rfl ?_
  refine V2_bipush (v := 10) d_R_check_12 rfl ?_
  refine V2_iconst (v := 0) d_R_check_14 rfl ?_
  refine V2_iastore (j := 10) d_R_check_15 (by decide) rfl (xixA (n := 10) rfl (by decide) (by decide)) rfl ?_
  refine V2_iconst (v := 0) d_R_check_16 rfl ?_
  refine V2_istore_n (i := 2) (l' := [some (.ref 65), some (.int v1), some (.int (0 : Int32))]) d_R_check_17 rfl (xst_i (Nat.le_of_ble_eq_true rfl) rfl rfl) ?_
  have ew : v1 = nI (WN (F0 66)) := by
    subst ev1
    rw [e66]
    exact eW
  rw [ew]
  have er : xp F 66 10 0 66 = upd (F0 66) 10 0 := by rw [xp_at, e66]
  have ep : PN (xp F 66 10 0 66) = PN (F0 66) := by
    unfold PN
    rw [er, upd_ne (by decide)]
  refine V2.to (c_R_check_loop (W := WN (F0 66)) (by rw [ep, er, upd_ne (by decide)]; exact eP) (by rw [ep]; exact hP6) hW (WN (F0 66) + 1) 0 (WN (F0 66)) (by omega) (by omega) ?_) rfl rfl rfl rfl
  rw [er, chkS_congr (S := F0 66) (fun j hj => upd_ne hj)]
  refine xQi (hQ (xrw F 66 (upd (F0 66) 10 0)) (rel_W hR hM (invS_wait hR.2.1 ⟨0, by decide, upd_same⟩ (fun j a b => upd_ne a)))) rfl (by rw [xp_row F, e66])
