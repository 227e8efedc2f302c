/-! deepest, judge -/
/-- the last up to n that is so -/
noncomputable def lastN (ok : Nat → Prop) : Nat → Option Nat
  | 0 => none
  | n + 1 => @ite _ (ok (n + 1)) (Classical.propDecidable _) (some (n + 1)) (lastN ok n)
theorem last_t {ok : Nat → Prop} {n : Nat} (h : ok (n + 1)) : lastN ok (n + 1) = some (n + 1) := if_pos h
theorem last_f {ok : Nat → Prop} {n : Nat} (h : ¬ ok (n + 1)) : lastN ok (n + 1) = lastN ok n := if_neg h
theorem last_le {ok : Nat → Prop} : ∀ (n j : Nat), lastN ok n = some j → j ≤ n := by
  intro n
  induction n with
  | zero => intro j h; cases h
  | succ n ih =>
    intro j h
    by_cases hk : ok (n + 1)
    · rw [last_t hk] at h
      cases h
      omega
    · rw [last_f hk] at h
      have := ih j h
      omega
def okDeep (S : Nat → Int32) (gas : Int32) (N k : Nat) : Prop := ¬ outN gas 63 (PN S) N (upd S 0 (nI k)) = none
noncomputable def k_deepest (F : xF) (gas n : Int32) : Int32 × xF := if (0 ≤ gas.toInt ∧ gas.toInt ≤ 9) ∧ 1 ≤ n.toInt ∧ n.toInt ≤ 60 then (if (F 66 5).toInt = 1 then (-1000000000 - 3, errF F 3) else orErr F (lastN (okDeep (F 66) gas n.toNatClampNeg) 60)) else (-1000000000 - 1, errF F 1)
theorem nI_d60 {k : Nat} (h1 : 1 ≤ k) (h : k ≤ 60) : 1 ≤ nI k ∧ nI k ≤ 60 := by
  have e := nI_toInt (n := k) (by omega)
  have q1 : (1 : Int32).toInt = 1 := by decide
  have q60 : (60 : Int32).toInt = 60 := by decide
  rw [toI_le, toI_le, e, q1, q60]
  omega
theorem c_P_deepest_loop {L : Nat} {xs : Nat → Int32} {d : Nat} {Q : Option Value → xF → Prop} {F : xF} {S : Nat → Int32} {gas : Int32} {p : Nat} (h : relW F 1 S) (hi : invS S) (hp60 : p ≤ 60) (hg : 0 ≤ gas.toInt ∧ gas.toInt ≤ 9) : ∀ (n_ : Nat) (k : Nat) (G : xF), k ≤ 60 → k < n_ → scrC F G → (lastN (okDeep S gas p) k = none → ∀ G2 : xF, scrC F G2 → Q (some (.int (-1000000000 - 2))) (xp G2 56 2 (G2 56 2 + 1))) → (∀ j, j ≤ 60 → lastN (okDeep S gas p) k = some j → ∀ G2 : xF, scrC F G2 → Q (some (.int (nI j))) G2) → V2 L xs (d + 8) m_P_deepest 45 [some (.ref 0), some (.int gas), some (.int (nI p)), some (.int (nI k))] [] G Q := by
  intro n_
  induction n_ with
  | zero => exact fun k G h1 h2 => absurd h2 (by omega)
  | succ n_ ih =>
    intro k G h1 h2 hG hE hY
    have g1 := hG
    refine V2_iload_n (i := 3) d_P_deepest_45 rfl rfl ?_
    refine V2_iconst (v := 1) d_P_deepest_46 rfl ?_
    refine V2_icmp_lt (tgt := 98) d_P_deepest_47 rfl (fun c1 => ?_) (fun c1 => ?_)
    · refine V2_aload_n (i := 0) d_P_deepest_98 rfl rfl ?_
      refine V2_iconst (v := 2) d_P_deepest_99 rfl ?_
      refine V2_callV [.int (2 : Int32)] d_P_deepest_100 rfl rfl lk_P_66 mo_P_fails (by decide) rfl rfl rfl (Nat.le_of_ble_eq_true rfl) (Nat.le_of_ble_eq_true rfl) ?_
      refine c_P_fails2 ?_
      refine V2_topi (fun v2 ev2 => ?_)
      refine V2_ireturn d_P_deepest_103 rfl ?_
      have hm : k = 0 := by
        have h9 := c1
        have := (nI_ltI (a := k) (b := 1) (by omega) (by omega)).mp h9
        omega
      subst hm
      subst ev2
      exact hE rfl G g1
    · have hk1 : ¬ k = 0 := by
        intro h0
        have h9 := c1
        subst h0
        exact h9 (by decide)
      obtain ⟨k, rfl⟩ : ∃ k2, k = k2 + 1 := ⟨k - 1, by omega⟩
      refine V2_aload_n (i := 0) d_P_deepest_50 rfl rfl ?_
      refine V2_getr (a := 35) d_P_deepest_51 fl_P_22 (by decide) rfl (by decide) rfl ?_
      refine V2_aload_n (i := 0) d_P_deepest_54 rfl rfl ?_
      refine V2_getr (a := 1) d_P_deepest_55 fl_P_10 (by decide) rfl (by decide) rfl ?_
      refine V2_getr (a := 2) d_P_deepest_58 fl_P_93 (by decide) rfl (by decide) rfl ?_
      refine V2_callV [.ref 2] d_P_deepest_61 rfl rfl lk_P_227 mo_Car_copyFrom (by decide) rfl rfl rfl (Nat.le_of_ble_eq_true rfl) (Nat.le_of_ble_eq_true rfl) ?_
      refine c_Car_copy_35_2 (by rw [show G 2 7 = S 5 from (congrFun (hG 2 (by decide) (by decide) (by decide)) 7).trans h.1.2.2.2.2.2.2.2]; exact hi.1.2.2.2.2.2.1) (fun H p0 g0 => ?_)
      refine V2_aload_n (i := 0) d_P_deepest_64 rfl rfl ?_
      refine V2_getr (a := 35) d_P_deepest_65 fl_P_22 (by decide) rfl (by decide) rfl ?_
      refine V2_iload_n (i := 3) d_P_deepest_68 rfl rfl ?_
      refine V2_put d_P_deepest_69 fl_P_214 (by decide) rfl (by decide) rfl ?_
      refine V2_aload_n (i := 0) d_P_deepest_72 rfl rfl ?_
      refine V2_getr (a := 1) d_P_deepest_73 fl_P_10 (by decide) rfl (by decide) rfl ?_
      refine V2_aload_n (i := 0) d_P_deepest_76 rfl rfl ?_
      refine V2_getr (a := 35) d_P_deepest_77 fl_P_22 (by decide) rfl (by decide) rfl ?_
      refine V2_iload_n (i := 1) d_P_deepest_80 rfl rfl ?_
      refine V2_iload_n (i := 2) d_P_deepest_81 rfl rfl ?_
      refine V2_bipush (v := 63) d_P_deepest_82 rfl ?_
      refine V2_callV [.ref 35, .int gas, .int (nI p), .int (63 : Int32)] d_P_deepest_84 rfl rfl lk_P_265 mo_World_swingsTillOut (by decide) rfl rfl rfl (Nat.le_of_ble_eq_true rfl) (Nat.le_of_ble_eq_true rfl) ?_
      refine c_World_tillOut (T := upd S 0 (nI (k + 1))) h hi hp60 hg ((hG.car g0).car (fun a ha => xp_row_ne ha)) (by rw [xp_at]; exact relCr_upd (relCr_row (relCr_c h.1 (hG 2 (by decide) (by decide) (by decide)) (fun _ _ => rfl)) p0) (by decide)) ((like.refl _).upd (by decide)) (invC_upd0 hi.1 (nI_d60 (by omega) (by omega))) (fun G2 h2 => ?_)
      refine V2_topi (fun v3 ev3 => ?_)
      refine V2_if_lt (tgt := 92) d_P_deepest_87 rfl (fun c4 => ?_) (fun c4 => ?_)
      · obtain ⟨v5, ev5⟩ : ∃ y : Int32, y = nI (k + 1) + -1 := ⟨_, rfl⟩
        refine V2_iinc (i := 3) (v := v5) (l' := [some (.ref 0), some (.int gas), some (.int (nI p)), some (.int v5)]) d_P_deepest_92 rfl (by rw [ev5]; rfl) (xst_i (Nat.le_of_ble_eq_true rfl) rfl rfl) ?_
        refine V2_goto (tgt := 45) d_P_deepest_95 rfl ?_
        have hok : ¬ okDeep S gas p (k + 1) := by
          intro h0
          have h9 := c4
          subst ev5 ev3
          rcases resK_range (g := gas) (s := 63) (P := PN S) (m := p) (T := upd S 0 (nI (k + 1))) (by omega) with ⟨e, _⟩ | ⟨j, _, _, e⟩
          · exact h0 e
          · rw [toI_lt, e] at h9
            have q0 : (0 : Int32).toInt = 0 := by decide
            omega
        rw [last_f hok] at hY
        rw [ev5, nI_add_m1 (by omega)]
        exact V2.to (ih k G2 (by omega) (by omega) h2 (fun e => hE (by rw [last_f hok]; exact e)) hY) rfl rfl rfl rfl
      · refine V2_iload_n (i := 3) d_P_deepest_90 rfl rfl ?_
        refine V2_ireturn d_P_deepest_91 rfl ?_
        have hok : okDeep S gas p (k + 1) := by
          intro h0
          have h9 := c4
          subst ev3
          rw [h0] at h9
          exact h9 (by decide)
        exact hY (k + 1) (by omega) (last_t hok) G2 h2
theorem c_cls_deepest {L : Nat} {xs : Nat → Int32} {d : Nat} {Q : Option Value → xF → Prop} {F : xF} {gas n : Int32} (hR : Rel F) (hQ : ∀ F1, Mid F F1 (k_deepest F gas n).2 → Q (some (.int (k_deepest F gas n).1)) F1) : V2 L xs (d + 8) m_P_deepest 0 (xEntry [.ref 0, .int gas, .int n] 4) [] F Q := by
  have q0 : (0 : Int32).toInt = 0 := by decide
  have q1 : (1 : Int32).toInt = 1 := by decide
  have q2 : (2 : Int32).toInt = 2 := by decide
  have q3 : (3 : Int32).toInt = 3 := by decide
  have q4 : (4 : Int32).toInt = 4 := by decide
  have q5 : (5 : Int32).toInt = 5 := by decide
  have q6 : (6 : Int32).toInt = 6 := by decide
  have q7 : (7 : Int32).toInt = 7 := by decide
  have q8 : (8 : Int32).toInt = 8 := by decide
  have q9 : (9 : Int32).toInt = 9 := by decide
  have q10 : (10 : Int32).toInt = 10 := by decide
  have q12 : (12 : Int32).toInt = 12 := by decide
  have q16 : (16 : Int32).toInt = 16 := by decide
  have q20 : (20 : Int32).toInt = 20 := by decide
  have q24 : (24 : Int32).toInt = 24 := by decide
  have q30 : (30 : Int32).toInt = 30 := by decide
  have q32 : (32 : Int32).toInt = 32 := by decide
  have q40 : (40 : Int32).toInt = 40 := by decide
  have q60 : (60 : Int32).toInt = 60 := by decide
  have q69 : (69 : Int32).toInt = 69 := by decide
  have q99 : (99 : Int32).toInt = 99 := by decide
  have q9999 : (9999 : Int32).toInt = 9999 := by decide
  have q274 : (274 : Int32).toInt = 274 := by decide
  have q334 : (334 : Int32).toInt = 334 := by decide
  have c7 : F 2 7 = F 66 5 := hR.1.1.1.2.2.2.2.2.2.2
  have s5 : F 66 5 = 0 ∨ F 66 5 = 1 := hR.2.1.1.2.2.2.2.2.1
  refine V2.to (l' := [some (.ref 0), some (.int gas), some (.int n), none]) ?_ rfl rfl rfl rfl
  refine V2_iload_n (i := 1) d_P_deepest_0 rfl rfl ?_
  refine V2_callS [.int gas] d_P_deepest_1 rfl rfl lk_P_189 mo_P_isGas (Nat.le_of_ble_eq_true rfl) (Nat.le_of_ble_eq_true rfl) ?_
  refine V2.to (l' := [some (.int gas)]) ?_ rfl rfl rfl rfl
  refine V2_iload_n (i := 0) d_P_isGas_0 rfl rfl ?_
  refine V2_iconst (v := 0) d_P_isGas_1 rfl ?_
  refine V2_bipush (v := 9) d_P_isGas_2 rfl ?_
  refine V2_callS [.int gas, .int (0 : Int32), .int (9 : Int32)] d_P_isGas_4 rfl rfl lk_P_133 mo_P_within (Nat.le_of_ble_eq_true rfl) (Nat.le_of_ble_eq_true rfl) ?_
  refine V2.to (l' := [some (.int gas), some (.int (0 : Int32)), some (.int (9 : Int32))]) ?_ rfl rfl rfl rfl
  refine V2_iload_n (i := 0) d_P_within_0 rfl rfl ?_
  refine V2_iload_n (i := 1) d_P_within_1 rfl rfl ?_
  refine V2_icmp_lt (tgt := 14) d_P_within_2 rfl (fun c1 => ?_) (fun c1 => ?_)
  · refine V2_iconst (v := 0) d_P_within_14 rfl ?_
    refine V2_zreturn d_P_within_15 rfl (by decide) ?_
    refine V2.to (st' := [.int (0 : Int32)]) ?_ rfl rfl rfl rfl
    refine V2_zreturn d_P_isGas_7 rfl (by decide) ?_
    refine V2.to (st' := [.int (0 : Int32)]) ?_ rfl rfl rfl rfl
    refine V2_if_eq (tgt := 17) d_P_deepest_4 rfl (fun _ => ?_) (fun c => (by first | exact absurd c (by decide) | exact absurd (by decide) c))
    refine V2_aload_n (i := 0) d_P_deepest_17 rfl rfl ?_
    refine V2_iconst (v := 1) d_P_deepest_18 rfl ?_
    refine V2_callV [.int (1 : Int32)] d_P_deepest_19 rfl rfl lk_P_66 mo_P_fails (by decide) rfl rfl rfl (Nat.le_of_ble_eq_true rfl) (Nat.le_of_ble_eq_true rfl) ?_
    refine c_P_fails1 ?_
    refine V2_topi (fun v2 ev2 => ?_)
    refine V2_ireturn d_P_deepest_22 rfl ?_
    have hb0 : ¬ ((0 ≤ gas.toInt ∧ gas.toInt ≤ 9) ∧ 1 ≤ n.toInt ∧ n.toInt ≤ 60) := (by (try clear hQ); (try subst ev2); ((try simp only [xb_eq, xb_ne, Int32.lt_iff_toInt_lt, Int32.le_iff_toInt_le] at *) <;> (try simp only [← Int32.toInt_inj, true_and, false_and, or_false, false_or, or_true, true_or, and_true, and_false] at *) <;> omega))
    have e : k_deepest F gas n = (-1000000000 - 1, errF F 1) := if_neg hb0
    rw [e] at hQ
    subst ev2
    exact xQi (hQ _ (mid_err hR (by decide))) rfl rfl
  · refine V2_iload_n (i := 0) d_P_within_5 rfl rfl ?_
    refine V2_iload_n (i := 2) d_P_within_6 rfl rfl ?_
    refine V2_icmp_gt (tgt := 14) d_P_within_7 rfl (fun c3 => ?_) (fun c3 => ?_)
    · refine V2_iconst (v := 0) d_P_within_14 rfl ?_
      refine V2_zreturn d_P_within_15 rfl (by decide) ?_
      refine V2.to (st' := [.int (0 : Int32)]) ?_ rfl rfl rfl rfl
      refine V2_zreturn d_P_isGas_7 rfl (by decide) ?_
      refine V2.to (st' := [.int (0 : Int32)]) ?_ rfl rfl rfl rfl
      refine V2_if_eq (tgt := 17) d_P_deepest_4 rfl (fun _ => ?_) (fun c => (by first | exact absurd c (by decide) | exact absurd (by decide) c))
      refine V2_aload_n (i := 0) d_P_deepest_17 rfl rfl ?_
      refine V2_iconst (v := 1) d_P_deepest_18 rfl ?_
      refine V2_callV [.int (1 : Int32)] d_P_deepest_19 rfl rfl lk_P_66 mo_P_fails (by decide) rfl rfl rfl (Nat.le_of_ble_eq_true rfl) (Nat.le_of_ble_eq_true rfl) ?_
      refine c_P_fails1 ?_
      refine V2_topi (fun v4 ev4 => ?_)
      refine V2_ireturn d_P_deepest_22 rfl ?_
      have hb0 : ¬ ((0 ≤ gas.toInt ∧ gas.toInt ≤ 9) ∧ 1 ≤ n.toInt ∧ n.toInt ≤ 60) := (by (try clear hQ); (try subst ev4); ((try simp only [xb_eq, xb_ne, Int32.lt_iff_toInt_lt, Int32.le_iff_toInt_le] at *) <;> (try simp only [← Int32.toInt_inj, true_and, false_and, or_false, false_or, or_true, true_or, and_true, and_false] at *) <;> omega))
      have e : k_deepest F gas n = (-1000000000 - 1, errF F 1) := if_neg hb0
      rw [e] at hQ
      subst ev4
      exact xQi (hQ _ (mid_err hR (by decide))) rfl rfl
    · refine V2_iconst (v := 1) d_P_within_10 rfl ?_
      refine V2_goto (tgt := 15) d_P_within_11 rfl ?_
      refine V2_zreturn d_P_within_15 rfl (by decide) ?_
      refine V2.to (st' := [.int (1 : Int32)]) ?_ rfl rfl rfl rfl
      refine V2_zreturn d_P_isGas_7 rfl (by decide) ?_
      refine V2.to (st' := [.int (1 : Int32)]) ?_ rfl rfl rfl rfl
      refine V2_if_eq (tgt := 17) d_P_deepest_4 rfl (fun c => (by first | exact absurd c (by decide) | exact absurd (by decide) c)) (fun _ => ?_)
      refine V2_iload_n (i := 2) d_P_deepest_7 rfl rfl ?_
      refine V2_iconst (v := 1) d_P_deepest_8 rfl ?_
      refine V2_bipush (v := 60) d_P_deepest_9 rfl ?_
      refine V2_callS [.int n, .int (1 : Int32), .int (60 : Int32)] d_P_deepest_11 rfl rfl lk_P_133 mo_P_within (Nat.le_of_ble_eq_true rfl) (Nat.le_of_ble_eq_true rfl) ?_
      refine V2.to (l' := [some (.int n), some (.int (1 : Int32)), some (.int (60 : Int32))]) ?_ rfl rfl rfl rfl
      refine V2_iload_n (i := 0) d_P_within_0 rfl rfl ?_
      refine V2_iload_n (i := 1) d_P_within_1 rfl rfl ?_
      refine V2_icmp_lt (tgt := 14) d_P_within_2 rfl (fun c5 => ?_) (fun c5 => ?_)
      · refine V2_iconst (v := 0) d_P_within_14 rfl ?_
        refine V2_zreturn d_P_within_15 rfl (by decide) ?_
        refine V2.to (st' := [.int (0 : Int32)]) ?_ rfl rfl rfl rfl
        refine V2_if_ne (tgt := 23) d_P_deepest_14 rfl (fun c => (by first | exact absurd c (by decide) | exact absurd (by decide) c)) (fun _ => ?_)
        refine V2_aload_n (i := 0) d_P_deepest_17 rfl rfl ?_
        refine V2_iconst (v := 1) d_P_deepest_18 rfl ?_
        refine V2_callV [.int (1 : Int32)] d_P_deepest_19 rfl rfl lk_P_66 mo_P_fails (by decide) rfl rfl rfl (Nat.le_of_ble_eq_true rfl) (Nat.le_of_ble_eq_true rfl) ?_
        refine c_P_fails1 ?_
        refine V2_topi (fun v6 ev6 => ?_)
        refine V2_ireturn d_P_deepest_22 rfl ?_
        have hb0 : ¬ ((0 ≤ gas.toInt ∧ gas.toInt ≤ 9) ∧ 1 ≤ n.toInt ∧ n.toInt ≤ 60) := (by (try clear hQ); (try subst ev6); ((try simp only [xb_eq, xb_ne, Int32.lt_iff_toInt_lt, Int32.le_iff_toInt_le] at *) <;> (try simp only [← Int32.toInt_inj, true_and, false_and, or_false, false_or, or_true, true_or, and_true, and_false] at *) <;> omega))
        have e : k_deepest F gas n = (-1000000000 - 1, errF F 1) := if_neg hb0
        rw [e] at hQ
        subst ev6
        exact xQi (hQ _ (mid_err hR (by decide))) rfl rfl
      · refine V2_iload_n (i := 0) d_P_within_5 rfl rfl ?_
        refine V2_iload_n (i := 2) d_P_within_6 rfl rfl ?_
        refine V2_icmp_gt (tgt := 14) d_P_within_7 rfl (fun c7 => ?_) (fun c7 => ?_)
        · refine V2_iconst (v := 0) d_P_within_14 rfl ?_
          refine V2_zreturn d_P_within_15 rfl (by decide) ?_
          refine V2.to (st' := [.int (0 : Int32)]) ?_ rfl rfl rfl rfl
          refine V2_if_ne (tgt := 23) d_P_deepest_14 rfl (fun c => (by first | exact absurd c (by decide) | exact absurd (by decide) c)) (fun _ => ?_)
          refine V2_aload_n (i := 0) d_P_deepest_17 rfl rfl ?_
          refine V2_iconst (v := 1) d_P_deepest_18 rfl ?_
          refine V2_callV [.int (1 : Int32)] d_P_deepest_19 rfl rfl lk_P_66 mo_P_fails (by decide) rfl rfl rfl (Nat.le_of_ble_eq_true rfl) (Nat.le_of_ble_eq_true rfl) ?_
          refine c_P_fails1 ?_
          refine V2_topi (fun v8 ev8 => ?_)
          refine V2_ireturn d_P_deepest_22 rfl ?_
          have hb0 : ¬ ((0 ≤ gas.toInt ∧ gas.toInt ≤ 9) ∧ 1 ≤ n.toInt ∧ n.toInt ≤ 60) := (by (try clear hQ); (try subst ev8); ((try simp only [xb_eq, xb_ne, Int32.lt_iff_toInt_lt, Int32.le_iff_toInt_le] at *) <;> (try simp only [← Int32.toInt_inj, true_and, false_and, or_false, false_or, or_true, true_or, and_true, and_false] at *) <;> omega))
          have e : k_deepest F gas n = (-1000000000 - 1, errF F 1) := if_neg hb0
          rw [e] at hQ
          subst ev8
          exact xQi (hQ _ (mid_err hR (by decide))) rfl rfl
        · refine V2_iconst (v := 1) d_P_within_10 rfl ?_
          refine V2_goto (tgt := 15) d_P_within_11 rfl ?_
          refine V2_zreturn d_P_within_15 rfl (by decide) ?_
          refine V2.to (st' := [.int (1 : Int32)]) ?_ rfl rfl rfl rfl
          refine V2_if_ne (tgt := 23) d_P_deepest_14 rfl (fun _ => ?_) (fun c => (by first | exact absurd c (by decide) | exact absurd (by decide) c))
          obtain ⟨p, hp, epp⟩ := in_of (x := n) (P := 61) (by (try clear hQ); (try skip); ((try simp only [xb_eq, xb_ne, Int32.lt_iff_toInt_lt, Int32.le_iff_toInt_le] at *) <;> (try simp only [← Int32.toInt_inj, true_and, false_and, or_false, false_or, or_true, true_or, and_true, and_false] at *) <;> omega)) (by (try clear hQ); (try skip); ((try simp only [xb_eq, xb_ne, Int32.lt_iff_toInt_lt, Int32.le_iff_toInt_le] at *) <;> (try simp only [← Int32.toInt_inj, true_and, false_and, or_false, false_or, or_true, true_or, and_true, and_false] at *) <;> omega)) (by omega)
          subst epp
          have np : (nI p).toInt = (p : Int) := nI_toInt (by omega)
          have kp : (nI p).toNatClampNeg = p := nI_clamp (by omega)
          refine V2_aload_n (i := 0) d_P_deepest_23 rfl rfl ?_
          refine V2_getr (a := 1) d_P_deepest_24 fl_P_10 (by decide) rfl (by decide) rfl ?_
          refine V2_getr (a := 2) d_P_deepest_27 fl_P_93 (by decide) rfl (by decide) rfl ?_
          refine V2_get (v := F 2 7) d_P_deepest_30 fl_P_237 (by decide) rfl (by decide) rfl rfl ?_
          refine V2_topi (fun v9 ev9 => ?_)
          refine V2_if_eq (tgt := 42) d_P_deepest_33 rfl (fun c10 => ?_) (fun c10 => ?_)
          · refine V2_bipush (v := 60) d_P_deepest_42 rfl ?_
            refine V2_istore_n (i := 3) (l' := [some (.ref 0), some (.int gas), some (.int (nI p)), some (.int (60 : Int32))]) d_P_deepest_44 rfl (xst_i (Nat.le_of_ble_eq_true rfl) rfl rfl) ?_
            have hb0 : (0 ≤ gas.toInt ∧ gas.toInt ≤ 9) ∧ 1 ≤ (nI p).toInt ∧ (nI p).toInt ≤ 60 := (by (try clear hQ); (try subst ev9); ((try simp only [xb_eq, xb_ne, Int32.lt_iff_toInt_lt, Int32.le_iff_toInt_le] at *) <;> (try simp only [← Int32.toInt_inj, true_and, false_and, or_false, false_or, or_true, true_or, and_true, and_false] at *) <;> omega))
            have hb1 : ¬ ((F 66 5).toInt = 1) := (by (try clear hQ); (try subst ev9); ((try simp only [xb_eq, xb_ne, Int32.lt_iff_toInt_lt, Int32.le_iff_toInt_le] at *) <;> (try simp only [← Int32.toInt_inj, true_and, false_and, or_false, false_or, or_true, true_or, and_true, and_false] at *) <;> omega))
            have e : k_deepest F gas (nI p) = orErr F (lastN (okDeep (F 66) gas p) 60) := (if_pos hb0).trans ((if_neg hb1).trans (by rw [kp]))
            rw [e] at hQ
            refine V2.to (c_P_deepest_loop (F := F) (gas := gas) (p := p) hR.1.1 hR.2.1 (by omega) hb0.1 61 60 F (by omega) (by omega) (scrC.refl F) (fun e G2 h2 => ?_) (fun j hj e G2 h2 => ?_)) rfl rfl rfl rfl
            · rw [e, orErr_n] at hQ
              exact hQ _ (mid_scr_err hR h2 (by decide))
            · rw [e, orErr_s (by omega)] at hQ
              exact hQ _ (mid_scr hR h2)
          · refine V2_aload_n (i := 0) d_P_deepest_36 rfl rfl ?_
            refine V2_iconst (v := 3) d_P_deepest_37 rfl ?_
            refine V2_callV [.int (3 : Int32)] d_P_deepest_38 rfl rfl lk_P_66 mo_P_fails (by decide) rfl rfl rfl (Nat.le_of_ble_eq_true rfl) (Nat.le_of_ble_eq_true rfl) ?_
            refine c_P_fails3 ?_
            refine V2_topi (fun v11 ev11 => ?_)
            refine V2_ireturn d_P_deepest_41 rfl ?_
            have hb0 : (0 ≤ gas.toInt ∧ gas.toInt ≤ 9) ∧ 1 ≤ (nI p).toInt ∧ (nI p).toInt ≤ 60 := (by (try clear hQ); (try subst ev11 ev9); ((try simp only [xb_eq, xb_ne, Int32.lt_iff_toInt_lt, Int32.le_iff_toInt_le] at *) <;> (try simp only [← Int32.toInt_inj, true_and, false_and, or_false, false_or, or_true, true_or, and_true, and_false] at *) <;> omega))
            have hb1 : (F 66 5).toInt = 1 := (by (try clear hQ); (try subst ev11 ev9); ((try simp only [xb_eq, xb_ne, Int32.lt_iff_toInt_lt, Int32.le_iff_toInt_le] at *) <;> (try simp only [← Int32.toInt_inj, true_and, false_and, or_false, false_or, or_true, true_or, and_true, and_false] at *) <;> omega))
            have e : k_deepest F gas (nI p) = (-1000000000 - 3, errF F 3) := (if_pos hb0).trans (if_pos hb1)
            rw [e] at hQ
            subst ev11 ev9
            exact xQi (hQ _ (mid_err hR (by decide))) rfl rfl
theorem c_R_deepest_loop {L : Nat} {xs : Nat → Int32} {d : Nat} {Q : Option Value → xF → Prop} {F : xF} {S : Nat → Int32} {gas : Int32} {p : Nat} (hi : invS S) (e66 : F 66 = S) (e65 : F 65 5 = 63) (hp60 : p ≤ 60) (hE : lastN (okDeep S gas p) 60 = none → ∀ G2 : xF, scrM F G2 → Q (some (.int (-1000000000 - 2))) (xp G2 69 2 (G2 69 2 + 1))) (hY : ∀ j, j ≤ 60 → lastN (okDeep S gas p) 60 = some j → ∀ G2 : xF, scrM F G2 → Q (some (.int (nI j))) G2) : ∀ (n_ : Nat) (k : Nat) (b : Int32) (G : xF), k ≤ 60 → 60 < n_ + k → (∀ j, ¬ j = 0 → G 66 j = S j) → (∀ a, ¬ a = 66 → ¬ a = 68 → ¬ a = 71 → ¬ a = 72 → G a = F a) → b = resK 0 (lastN (okDeep S gas p) k) → V2 L xs (d + 6) m_R_deepest 46 [some (.ref 65), some (.int gas), some (.int (nI p)), some (.int (S 0)), some (.int b), some (.int (nI (k + 1)))] [] G Q := by
  intro n_
  induction n_ with
  | zero => exact fun k b G h1 h2 => absurd h2 (by omega)
  | succ n_ ih =>
    intro k b G h1 h2 e6 g1 eb
    refine V2_iload (i := 5) d_R_deepest_46 rfl ?_
    refine V2_bipush (v := 60) d_R_deepest_48 rfl ?_
    refine V2_icmp_gt (tgt := 86) d_R_deepest_50 rfl (fun c1 => ?_) (fun c1 => ?_)
    · refine V2_aload_n (i := 0) d_R_deepest_86 rfl rfl ?_
      refine V2_getr (a := 66) d_R_deepest_87 fl_R_7 (by decide) rfl (by decide) rfl ?_
      refine V2_iconst (v := 0) d_R_deepest_90 rfl ?_
      refine V2_iload_n (i := 3) d_R_deepest_91 rfl rfl ?_
      refine V2_iastore (j := 0) d_R_deepest_92 (by decide) rfl (xixA (n := 0) rfl (by decide) (by decide)) rfl ?_
      refine V2_iload (i := 4) d_R_deepest_93 rfl ?_
      refine V2_iconst (v := -1) d_R_deepest_95 rfl ?_
      refine V2_icmp_ne (tgt := 107) d_R_deepest_96 rfl (fun c2 => ?_) (fun c2 => ?_)
      · refine V2_iload (i := 4) d_R_deepest_107 rfl ?_
        refine V2_ireturn d_R_deepest_109 rfl ?_
        have hrow : upd (G 66) 0 (S 0) = S := by
          funext j
          by_cases h0 : j = 0
          · subst h0
            exact upd_same
          · rw [upd_ne h0]
            exact e6 j h0
        have hk60 : k = 60 := by
          have h9 := c1
          have := (nI_ltI (a := 60) (b := k + 1) (by omega) (by omega)).mp h9
          omega
        subst hk60
        have hsc : scrM F (xp G 66 0 (S 0)) := fun a h1 h2 h3 => (by
          by_cases h6 : a = 66
          · subst h6
            rw [xp_at, hrow, e66]
          · rw [xp_row_ne h6]
            exact g1 a h6 h1 h2 h3)
        rcases res_range (o := lastN (okDeep S gas p) 60) (m := 60) (by omega) (fun j h => last_le _ _ h) with ⟨e, _⟩ | ⟨j, hj, e, e2, _⟩
        · exfalso
          apply c2
          rw [eb, e]
          rfl
        · rw [eb, e2]
          skip
          exact hY j hj e _ hsc
      · refine V2_aload_n (i := 0) d_R_deepest_99 rfl rfl ?_
        refine V2_iconst (v := 2) d_R_deepest_100 rfl ?_
        refine V2_callV [.int (2 : Int32)] d_R_deepest_101 rfl rfl lk_R_55 mo_R_error (by decide) rfl rfl rfl (Nat.le_of_ble_eq_true rfl) (Nat.le_of_ble_eq_true rfl) ?_
        refine c_R_error2 ?_
        refine V2_topi (fun v3 ev3 => ?_)
        refine V2_goto (tgt := 109) d_R_deepest_104 rfl ?_
        refine V2_ireturn d_R_deepest_109 rfl ?_
        have hrow : upd (G 66) 0 (S 0) = S := by
          funext j
          by_cases h0 : j = 0
          · subst h0
            exact upd_same
          · rw [upd_ne h0]
            exact e6 j h0
        have hk60 : k = 60 := by
          have h9 := c1
          have := (nI_ltI (a := 60) (b := k + 1) (by omega) (by omega)).mp h9
          omega
        subst hk60
        have hsc : scrM F (xp G 66 0 (S 0)) := fun a h1 h2 h3 => (by
          by_cases h6 : a = 66
          · subst h6
            rw [xp_at, hrow, e66]
          · rw [xp_row_ne h6]
            exact g1 a h6 h1 h2 h3)
        have hn : lastN (okDeep S gas p) 60 = none := by
          rcases res_range (o := lastN (okDeep S gas p) 60) (m := 60) (by omega) (fun j h => last_le _ _ h) with ⟨e, _⟩ | ⟨j, _, _, _, e⟩
          · exact e
          · rw [← eb, c2] at e
            have qm : (-1 : Int32).toInt = -1 := by decide
            omega
        subst ev3
        exact hE hn _ hsc
    · have hk10 : k < 60 := by
        have h9 := c1
        have : ¬ 60 < k + 1 := fun hh => h9 ((nI_ltI (a := 60) (b := k + 1) (by omega) (by omega)).mpr hh)
        omega
      have e62_ : xp G 66 0 (nI (k + 1)) 66 = upd S 0 (nI (k + 1)) := (xp_at _ _ _ _).trans (by
        funext j
        by_cases h0 : j = 0
        · subst h0
          rw [upd_same, upd_same]
        · rw [upd_ne h0, upd_ne h0]
          exact e6 j h0)
      refine V2_aload_n (i := 0) d_R_deepest_53 rfl rfl ?_
      refine V2_getr (a := 66) d_R_deepest_54 fl_R_7 (by decide) rfl (by decide) rfl ?_
      refine V2_iconst (v := 0) d_R_deepest_57 rfl ?_
      refine V2_iload (i := 5) d_R_deepest_58 rfl ?_
      refine V2_iastore (j := 0) d_R_deepest_60 (by decide) rfl (xixA (n := 0) rfl (by decide) (by decide)) rfl ?_
      refine V2_aload_n (i := 0) d_R_deepest_61 rfl rfl ?_
      refine V2_iload_n (i := 1) d_R_deepest_62 rfl rfl ?_
      refine V2_iload_n (i := 2) d_R_deepest_63 rfl rfl ?_
      refine V2_callV [.int gas, .int (nI p)] d_R_deepest_64 rfl rfl lk_R_209 mo_R_outBy (by decide) rfl rfl rfl (Nat.le_of_ble_eq_true rfl) (Nat.le_of_ble_eq_true rfl) ?_
      refine c_R_outBy (S := S) (M := p) (set := 63) hi (by rw [e62_]; exact (like.refl _).upd (by decide)) hp60 ((xp_ne (Or.inl (by decide))).trans ((congrFun (g1 65 (by decide) (by decide) (by decide) (by decide)) 5).trans e65)) (fun G2 h2 => ?_)
      rw [e62_]
      refine V2_topi (fun v4 ev4 => ?_)
      refine V2_iconst (v := -1) d_R_deepest_67 rfl ?_
      refine V2_icmp_ne (tgt := 76) d_R_deepest_68 rfl (fun c5 => ?_) (fun c5 => ?_)
      · refine V2_iload (i := 5) d_R_deepest_76 rfl ?_
        refine V2_istore (i := 4) (l' := [some (.ref 65), some (.int gas), some (.int (nI p)), some (.int (S 0)), some (.int (nI (k + 1))), some (.int (nI (k + 1)))]) d_R_deepest_78 (xst_i (Nat.le_of_ble_eq_true rfl) rfl rfl) ?_
        obtain ⟨v6, ev6⟩ : ∃ y : Int32, y = nI (k + 1) + 1 := ⟨_, rfl⟩
        refine V2_iinc (i := 5) (v := v6) (l' := [some (.ref 65), some (.int gas), some (.int (nI p)), some (.int (S 0)), some (.int (nI (k + 1))), some (.int v6)]) d_R_deepest_80 rfl (by rw [ev6]; rfl) (xst_i (Nat.le_of_ble_eq_true rfl) rfl rfl) ?_
        refine V2_goto (tgt := 46) d_R_deepest_83 rfl ?_
        have hok : okDeep S gas p (k + 1) := by
          intro h0
          have h9 := c5
          subst ev6 ev4
          rw [h0] at h9
          exact h9 rfl
        refine V2.to (ih (k + 1) (nI (k + 1)) G2 (by omega) (by omega) (fun j hj => ?_) (fun a b c e f => (h2 a c e f).trans ((xp_row_ne b).trans (g1 a b c e f))) (by rw [last_t hok]; exact (congrArg nI (Nat.zero_add (k + 1))).symm)) rfl ?_ rfl rfl
        · rw [h2 66 (by decide) (by decide) (by decide), e62_, upd_ne hj]
        · rw [ev6, nI_1]
      · refine V2_iload (i := 4) d_R_deepest_71 rfl ?_
        refine V2_goto (tgt := 78) d_R_deepest_73 rfl ?_
        refine V2_istore (i := 4) (l' := [some (.ref 65), some (.int gas), some (.int (nI p)), some (.int (S 0)), some (.int b), some (.int (nI (k + 1)))]) d_R_deepest_78 (xst_i (Nat.le_of_ble_eq_true rfl) rfl rfl) ?_
        obtain ⟨v7, ev7⟩ : ∃ y : Int32, y = nI (k + 1) + 1 := ⟨_, rfl⟩
        refine V2_iinc (i := 5) (v := v7) (l' := [some (.ref 65), some (.int gas), some (.int (nI p)), some (.int (S 0)), some (.int b), some (.int v7)]) d_R_deepest_80 rfl (by rw [ev7]; rfl) (xst_i (Nat.le_of_ble_eq_true rfl) rfl rfl) ?_
        refine V2_goto (tgt := 46) d_R_deepest_83 rfl ?_
        have hok : ¬ okDeep S gas p (k + 1) := by
          intro h0
          have h9 := c5
          subst ev7 ev4
          rcases resK_range (g := gas) (s := 63) (P := PN S) (m := p) (T := upd S 0 (nI (k + 1))) (by omega) with ⟨e, _⟩ | ⟨j, _, _, e⟩
          · exact h0 e
          · rw [h9] at e
            have qm : (-1 : Int32).toInt = -1 := by decide
            omega
        refine V2.to (ih (k + 1) (b) G2 (by omega) (by omega) (fun j hj => ?_) (fun a b c e f => (h2 a c e f).trans ((xp_row_ne b).trans (g1 a b c e f))) (by rw [last_f hok]; exact eb)) rfl ?_ rfl rfl
        · rw [h2 66 (by decide) (by decide) (by decide), e62_, upd_ne hj]
        · rw [ev7, nI_1]
theorem c_mod_deepest {L : Nat} {xs : Nat → Int32} {d : Nat} {Q : Option Value → xF → Prop} {F : xF} {gas n : Int32} {F0 : xF} (hR : Rel F0) (hM : Mid F0 F (k_deepest F0 gas n).2) (hQ : ∀ F2, Rel F2 → Q (some (.int (k_deepest F0 gas n).1)) F2) : V2 L xs (d + 6) m_R_deepest 0 (xEntry [.ref 65, .int gas, .int n] 6) [] F Q := by
  have q0 : (0 : Int32).toInt = 0 := by decide
  have q1 : (1 : Int32).toInt = 1 := by decide
  have q2 : (2 : Int32).toInt = 2 := by decide
  have q3 : (3 : Int32).toInt = 3 := by decide
  have q4 : (4 : Int32).toInt = 4 := by decide
  have q5 : (5 : Int32).toInt = 5 := by decide
  have q6 : (6 : Int32).toInt = 6 := by decide
  have q7 : (7 : Int32).toInt = 7 := by decide
  have q8 : (8 : Int32).toInt = 8 := by decide
  have q9 : (9 : Int32).toInt = 9 := by decide
  have q10 : (10 : Int32).toInt = 10 := by decide
  have q12 : (12 : Int32).toInt = 12 := by decide
  have q16 : (16 : Int32).toInt = 16 := by decide
  have q20 : (20 : Int32).toInt = 20 := by decide
  have q24 : (24 : Int32).toInt = 24 := by decide
  have q30 : (30 : Int32).toInt = 30 := by decide
  have q32 : (32 : Int32).toInt = 32 := by decide
  have q40 : (40 : Int32).toInt = 40 := by decide
  have q60 : (60 : Int32).toInt = 60 := by decide
  have q69 : (69 : Int32).toInt = 69 := by decide
  have q99 : (99 : Int32).toInt = 99 := by decide
  have q9999 : (9999 : Int32).toInt = 9999 := by decide
  have q274 : (274 : Int32).toInt = 274 := by decide
  have q334 : (334 : Int32).toInt = 334 := by decide
  have e66 : F 66 = F0 66 := hM.1 66 (by decide)
  have e66_5 : F 66 5 = F0 66 5 := congrFun e66 5
  have e66_7 : F 66 7 = F0 66 7 := congrFun e66 7
  have s5 : F0 66 5 = 0 ∨ F0 66 5 = 1 := hR.2.1.1.2.2.2.2.2.1
  have e63 : F 65 5 = 63 := (congrFun (hM.1 65 (by decide)) 5).trans hR.2.2.2.1
  refine V2.to (l' := [some (.ref 65), some (.int gas), some (.int n), none, none, none]) ?_ rfl rfl rfl rfl
  refine V2_iload_n (i := 1) d_R_deepest_0 rfl rfl ?_
  refine V2_callS [.int gas] d_R_deepest_1 rfl rfl lk_R_181 mo_R_isGas (Nat.le_of_ble_eq_true rfl) (Nat.le_of_ble_eq_true rfl) ?_
  refine c_R_isGas ?_
  refine V2_topi (fun v1 ev1 => ?_)
  refine V2_if_eq (tgt := 14) d_R_deepest_4 rfl (fun c2 => ?_) (fun c2 => ?_)
  · refine V2_aload_n (i := 0) d_R_deepest_14 rfl rfl ?_
    refine V2_iconst (v := 1) d_R_deepest_15 rfl ?_
    refine V2_callV [.int (1 : Int32)] d_R_deepest_16 rfl rfl lk_R_55 mo_R_error (by decide) rfl rfl rfl (Nat.le_of_ble_eq_true rfl) (Nat.le_of_ble_eq_true rfl) ?_
    refine c_R_error1 ?_
    refine V2_topi (fun v3 ev3 => ?_)
    refine V2_ireturn d_R_deepest_19 rfl ?_
    have hb0 : ¬ ((0 ≤ gas.toInt ∧ gas.toInt ≤ 9) ∧ 1 ≤ n.toInt ∧ n.toInt ≤ 60) := (by (try clear hQ); (try subst ev3 ev1); ((try simp only [xb_eq, xb_ne, Int32.lt_iff_toInt_lt, Int32.le_iff_toInt_le] at *) <;> (try simp only [← Int32.toInt_inj, true_and, false_and, or_false, false_or, or_true, true_or, and_true, and_false] at *) <;> omega))
    have e : k_deepest F0 gas n = (-1000000000 - 1, errF F0 1) := if_neg hb0
    rw [e] at hQ hM
    subst ev3 ev1
    exact xQi (hQ _ (rel_err hR hM)) rfl rfl
  · refine V2_iload_n (i := 2) d_R_deepest_7 rfl rfl ?_
    refine V2_callS [.int n] d_R_deepest_8 rfl rfl lk_R_212 mo_R_isTime (Nat.le_of_ble_eq_true rfl) (Nat.le_of_ble_eq_true rfl) ?_
    refine c_R_isTime ?_
    refine V2_topi (fun v4 ev4 => ?_)
    refine V2_if_ne (tgt := 20) d_R_deepest_11 rfl (fun c5 => ?_) (fun c5 => ?_)
    · obtain ⟨p, hp, epp⟩ := in_of (x := n) (P := 61) (by (try clear hQ); (try subst ev4 ev1); ((try simp only [xb_eq, xb_ne, Int32.lt_iff_toInt_lt, Int32.le_iff_toInt_le] at *) <;> (try simp only [← Int32.toInt_inj, true_and, false_and, or_false, false_or, or_true, true_or, and_true, and_false] at *) <;> omega)) (by (try clear hQ); (try subst ev4 ev1); ((try simp only [xb_eq, xb_ne, Int32.lt_iff_toInt_lt, Int32.le_iff_toInt_le] at *) <;> (try simp only [← Int32.toInt_inj, true_and, false_and, or_false, false_or, or_true, true_or, and_true, and_false] at *) <;> omega)) (by omega)
      subst epp
      have np : (nI p).toInt = (p : Int) := nI_toInt (by omega)
      have kp : (nI p).toNatClampNeg = p := nI_clamp (by omega)
      refine V2_aload_n (i := 0) d_R_deepest_20 rfl rfl ?_
      refine V2_callV [] d_R_deepest_21 rfl rfl lk_R_152 mo_R_isOut (by decide) rfl rfl rfl (Nat.le_of_ble_eq_true rfl) (Nat.le_of_ble_eq_true rfl) ?_
      refine c_R_isOut ?_
      refine V2_topi (fun v6 ev6 => ?_)
      refine V2_if_eq (tgt := 33) d_R_deepest_24 rfl (fun c7 => ?_) (fun c7 => ?_)
      · refine V2_aload_n (i := 0) d_R_deepest_33 rfl rfl ?_
        refine V2_getr (a := 66) d_R_deepest_34 fl_R_7 (by decide) rfl (by decide) rfl ?_
        refine V2_iconst (v := 0) d_R_deepest_37 rfl ?_
        refine V2_iaload (v := F 66 0) d_R_deepest_38 (by decide) rfl (xixA (n := 0) rfl (by decide) (by decide)) rfl ?_
        refine V2_topi (fun v8 ev8 => ?_)
        refine V2_istore_n (i := 3) (l' := [some (.ref 65), some (.int gas), some (.int (nI p)), some (.int v8), none, none]) d_R_deepest_39 rfl (xst_i (Nat.le_of_ble_eq_true rfl) rfl rfl) ?_
        refine V2_iconst (v := -1) d_R_deepest_40 rfl ?_
        refine V2_istore (i := 4) (l' := [some (.ref 65), some (.int gas), some (.int (nI p)), some (.int v8), some (.int (-1 : Int32)), none]) d_R_deepest_41 (xst_i (Nat.le_of_ble_eq_true rfl) rfl rfl) ?_
        refine V2_iconst (v := 1) d_R_deepest_43 rfl ?_
        refine V2_istore (i := 5) (l' := [some (.ref 65), some (.int gas), some (.int (nI p)), some (.int v8), some (.int (-1 : Int32)), some (.int (1 : Int32))]) d_R_deepest_44 (xst_i (Nat.le_of_ble_eq_true rfl) rfl rfl) ?_
        have hb0 : (0 ≤ gas.toInt ∧ gas.toInt ≤ 9) ∧ 1 ≤ (nI p).toInt ∧ (nI p).toInt ≤ 60 := (by (try clear hQ); (try subst ev8 ev6 ev4 ev1); ((try simp only [xb_eq, xb_ne, Int32.lt_iff_toInt_lt, Int32.le_iff_toInt_le] at *) <;> (try simp only [← Int32.toInt_inj, true_and, false_and, or_false, false_or, or_true, true_or, and_true, and_false] at *) <;> omega))
        have hb1 : ¬ ((F0 66 5).toInt = 1) := (by (try clear hQ); (try subst ev8 ev6 ev4 ev1); ((try simp only [xb_eq, xb_ne, Int32.lt_iff_toInt_lt, Int32.le_iff_toInt_le] at *) <;> (try simp only [← Int32.toInt_inj, true_and, false_and, or_false, false_or, or_true, true_or, and_true, and_false] at *) <;> omega))
        have e : k_deepest F0 gas (nI p) = orErr F0 (lastN (okDeep (F0 66) gas p) 60) := (if_pos hb0).trans ((if_neg hb1).trans (by rw [kp]))
        rw [e] at hQ hM
        have ea0 : v8 = F0 66 0 := by subst ev8 ev6 ev4 ev1; exact congrFun e66 0
        rw [ea0]
        refine V2.to (c_R_deepest_loop (F := F) (S := F0 66) (gas := gas) (p := p) hR.2.1 e66 e63 (by omega) (fun e G2 h2 => ?_) (fun j hj e G2 h2 => ?_) 61 0 (-1) F (by omega) (by omega) (fun j _ => congrFun e66 j) (fun a _ _ _ _ => rfl) rfl) rfl rfl rfl rfl
        · rw [e, orErr_n] at hQ hM
          exact hQ _ (rel_scr_err hR hM h2)
        · rw [e, orErr_s (by omega)] at hQ hM
          exact hQ _ (rel_scr hR hM h2)
      · refine V2_aload_n (i := 0) d_R_deepest_27 rfl rfl ?_
        refine V2_iconst (v := 3) d_R_deepest_28 rfl ?_
        refine V2_callV [.int (3 : Int32)] d_R_deepest_29 rfl rfl lk_R_55 mo_R_error (by decide) rfl rfl rfl (Nat.le_of_ble_eq_true rfl) (Nat.le_of_ble_eq_true rfl) ?_
        refine c_R_error3 ?_
        refine V2_topi (fun v9 ev9 => ?_)
        refine V2_ireturn d_R_deepest_32 rfl ?_
        have hb0 : (0 ≤ gas.toInt ∧ gas.toInt ≤ 9) ∧ 1 ≤ (nI p).toInt ∧ (nI p).toInt ≤ 60 := (by (try clear hQ); (try subst ev9 ev6 ev4 ev1); ((try simp only [xb_eq, xb_ne, Int32.lt_iff_toInt_lt, Int32.le_iff_toInt_le] at *) <;> (try simp only [← Int32.toInt_inj, true_and, false_and, or_false, false_or, or_true, true_or, and_true, and_false] at *) <;> omega))
        have hb1 : (F0 66 5).toInt = 1 := (by (try clear hQ); (try subst ev9 ev6 ev4 ev1); ((try simp only [xb_eq, xb_ne, Int32.lt_iff_toInt_lt, Int32.le_iff_toInt_le] at *) <;> (try simp only [← Int32.toInt_inj, true_and, false_and, or_false, false_or, or_true, true_or, and_true, and_false] at *) <;> omega))
        have e : k_deepest F0 gas (nI p) = (-1000000000 - 3, errF F0 3) := (if_pos hb0).trans (if_pos hb1)
        rw [e] at hQ hM
        subst ev9 ev6 ev4 ev1
        exact xQi (hQ _ (rel_err hR hM)) rfl rfl
    · refine V2_aload_n (i := 0) d_R_deepest_14 rfl rfl ?_
      refine V2_iconst (v := 1) d_R_deepest_15 rfl ?_
      refine V2_callV [.int (1 : Int32)] d_R_deepest_16 rfl rfl lk_R_55 mo_R_error (by decide) rfl rfl rfl (Nat.le_of_ble_eq_true rfl) (Nat.le_of_ble_eq_true rfl) ?_
      refine c_R_error1 ?_
      refine V2_topi (fun v10 ev10 => ?_)
      refine V2_ireturn d_R_deepest_19 rfl ?_
      have hb0 : ¬ ((0 ≤ gas.toInt ∧ gas.toInt ≤ 9) ∧ 1 ≤ n.toInt ∧ n.toInt ≤ 60) := (by (try clear hQ); (try subst ev10 ev4 ev1); ((try simp only [xb_eq, xb_ne, Int32.lt_iff_toInt_lt, Int32.le_iff_toInt_le] at *) <;> (try simp only [← Int32.toInt_inj, true_and, false_and, or_false, false_or, or_true, true_or, and_true, and_false] at *) <;> omega))
      have e : k_deepest F0 gas n = (-1000000000 - 1, errF F0 1) := if_neg hb0
      rw [e] at hQ hM
      subst ev10 ev4 ev1
      exact xQi (hQ _ (rel_err hR hM)) rfl rfl
noncomputable def judS (f : Nat → Int32) : Nat → Nat → (Nat → Int32) → Nat
  | 0, k, _ => k
  | m + 1, k, T => if T 5 = 1 then k else if stepD T 2 = f k then judS f m (k + 1) (stepD T) else k
theorem jud_1 {f : Nat → Int32} {m k : Nat} {T : Nat → Int32} (h : T 5 = 1) : judS f m k T = k := by
  cases m with
  | zero => rfl
  | succ m => exact if_pos h
theorem jud_t {f : Nat → Int32} {m k : Nat} {T : Nat → Int32} (h : ¬ T 5 = 1) (h2 : stepD T 2 = f k) : judS f (m + 1) k T = judS f m (k + 1) (stepD T) := (if_neg h).trans (if_pos h2)
theorem jud_f {f : Nat → Int32} {m k : Nat} {T : Nat → Int32} (h : ¬ T 5 = 1) (h2 : ¬ stepD T 2 = f k) : judS f (m + 1) k T = k := (if_neg h).trans (if_neg h2)
noncomputable def k_judge (F : xF) (sh : Int32) : Int32 × xF :=
  if 0 ≤ sh.toInt ∧ sh.toInt < 4 then (if F 74 sh.toNatClampNeg = 0 then (-1000000000 - 2, errF F 2) else (nI (judS (fun k => F 76 (24 * sh.toNatClampNeg + k)) (F 75 sh.toNatClampNeg).toNatClampNeg 0 (F 66)), F)) else (-1000000000 - 1, errF F 1)
theorem stepD_8 {T : Nat → Int32} : stepD T 8 = nzS (T 8) := by
  unfold stepD goS
  rw [goM_hi _ _ _ _ (by decide), upd_same]
theorem invC_z {T : Nat → Int32} {z : Int32} (h : invC T) : invC (upd T 8 z) := invC_c h (fun j hj => upd_ne (by omega))
theorem stepD_invC {T : Nat → Int32} (h : invC T) : invC (stepD T) := go_inv (invC_z h)
theorem stepD_n {T : Nat → Int32} (h : invC T) : ∃ n : Nat, n < 100 ∧ stepD T 2 = nI n := by
  have h2 := (stepD_invC h).2.2.1
  obtain ⟨n, hn, e⟩ := in_of (P := 100) h2.1 (by omega) (by omega)
  exact ⟨n, hn, e⟩
theorem c_P_judge_loop {L : Nat} {xs : Nat → Int32} {d : Nat} {Q : Option Value → xF → Prop} {F : xF} {S : Nat → Int32} {t N : Nat} (hR : Rel F) (eS : F 66 = S) (ht : t < 4) (hN : N ≤ 24) (eN : F 75 t = nI N) : ∀ (n_ : Nat) (k m : Nat) (G : xF) (T : Nat → Int32), k + m = N → m < n_ → scrC F G → relCr (G 35) T → like T S → invC T → (∀ G2 : xF, scrC F G2 → Q (some (.int (nI (judS (fun k => F 76 (24 * t + k)) m k T)))) G2) → V2 L xs (d + 7) m_P_judge 54 [some (.ref 0), some (.int (nI t)), some (.ref (57 + 2 * t)), some (.int (T 8)), some (.int (nI k))] [] G Q := by
  intro n_
  induction n_ with
  | zero => exact fun k m G T h1 h2 => absurd h2 (by omega)
  | succ n_ ih =>
    intro k m G T h1 h2 g1 hc hT hC hQ
    have h : relW F 1 S := by rw [← eS]; exact hR.1.1
    have hi : invS S := by rw [← eS]; exact hR.2.1
    have s2 : G (57 + 2 * t) 2 = nI N := (congrFun (g1 _ (by omega) (by omega) (by omega)) 2).trans ((hR.1.2.2.2.2.2.2 t ht).2.1.trans eN)
    refine V2_iload (i := 4) d_P_judge_54 rfl ?_
    refine V2_aload_n (i := 2) d_P_judge_56 rfl rfl ?_
    refine V2_callV [] d_P_judge_57 rfl rfl lk_P_275 mo_Sheet_size (by omega) (sh_k1 ht) rfl rfl (Nat.le_of_ble_eq_true rfl) (Nat.le_of_ble_eq_true rfl) ?_
    refine V2.to (l' := [some (.ref (57 + 2 * t))]) ?_ rfl rfl rfl rfl
    refine V2_aload_n (i := 0) d_Sheet_size_0 rfl rfl ?_
    refine V2_get d_Sheet_size_1 fl_Sheet_17 (by omega) (sh_k ht) (by decide) (sh_n ht (by decide)) rfl ?_
    refine V2_topi (fun v1 ev1 => ?_)
    refine V2_ireturn d_Sheet_size_4 rfl ?_
    refine V2.to (st' := [.int v1, .int (nI k)]) ?_ rfl rfl rfl rfl
    refine V2_icmp_ge (tgt := 121) d_P_judge_60 rfl (fun c2 => ?_) (fun c2 => ?_)
    · refine V2_iload (i := 4) d_P_judge_121 rfl ?_
      refine V2_ireturn d_P_judge_123 rfl ?_
      have hm : m = 0 := by
        have h9 := c2
        subst ev1
        rw [s2] at h9
        have := (nI_leI (by omega) (by omega)).mp h9
        omega
      subst hm
      exact hQ G g1
    · have hkw : k < N := by
        have h9 := c2
        subst ev1
        rw [s2] at h9
        exact Nat.not_le.mp (fun hh => h9 ((nI_leI (by omega) (by omega)).mpr hh))
      obtain ⟨m, rfl⟩ : ∃ m2, m = m2 + 1 := ⟨m - 1, by omega⟩
      have hEq := (hR.1.2.2.2.2.2.2 t ht).2.2 k (by rw [eN, nI_clamp (by omega)]; omega)
      refine V2_aload_n (i := 0) d_P_judge_63 rfl rfl ?_
      refine V2_getr (a := 35) d_P_judge_64 fl_P_22 (by decide) rfl (by decide) rfl ?_
      refine V2_get (v := G 35 7) d_P_judge_67 fl_P_237 (by decide) rfl (by decide) rfl rfl ?_
      refine V2_topi (fun v3 ev3 => ?_)
      refine V2_if_ne (tgt := 121) d_P_judge_70 rfl (fun c4 => ?_) (fun c4 => ?_)
      · refine V2_iload (i := 4) d_P_judge_121 rfl ?_
        refine V2_ireturn d_P_judge_123 rfl ?_
        have h5 : T 5 = 1 := by
          have h9 := c4
          subst ev3 ev1
          rw [hc.2.2.2.2.2.2.2] at h9
          exact hC.2.2.2.2.2.1.resolve_left h9
        rw [jud_1 h5] at hQ
        exact hQ G g1
      · have h5 : ¬ T 5 = 1 := by
          intro h
          have h9 := c4
          subst ev3 ev1
          rw [hc.2.2.2.2.2.2.2, h] at h9
          exact absurd h9 (by decide)
        refine V2_iload_n (i := 3) d_P_judge_73 rfl rfl ?_
        refine V2_callS [.int (T 8)] d_P_judge_74 rfl rfl lk_P_205 mo_P_drawnBehind (Nat.le_of_ble_eq_true rfl) (Nat.le_of_ble_eq_true rfl) ?_
        refine V2.to (l' := [some (.int (T 8))]) ?_ rfl rfl rfl rfl
        refine V2_iload_n (i := 0) d_P_drawnBehind_0 rfl rfl ?_
        refine V2_ldcw (v := 1103515245) d_P_drawnBehind_1 kc_P_347 ?_
        refine V2_imul d_P_drawnBehind_4 ?_
        refine V2_topi (fun v5 ev5 => ?_)
        refine V2_sipush (v := 12345) d_P_drawnBehind_5 rfl ?_
        refine V2_iadd d_P_drawnBehind_8 ?_
        refine V2_topi (fun v6 ev6 => ?_)
        refine V2_ireturn d_P_drawnBehind_9 rfl ?_
        refine V2.to (st' := [.int v6]) ?_ rfl rfl rfl rfl
        refine V2_istore_n (i := 3) (l' := [some (.ref 0), some (.int (nI t)), some (.ref (57 + 2 * t)), some (.int v6), some (.int (nI k))]) d_P_judge_77 rfl (xst_r (Nat.le_of_ble_eq_true rfl) rfl rfl) ?_
        refine V2_aload_n (i := 0) d_P_judge_78 rfl rfl ?_
        refine V2_getr (a := 1) d_P_judge_79 fl_P_10 (by decide) rfl (by decide) rfl ?_
        refine V2_aload_n (i := 0) d_P_judge_82 rfl rfl ?_
        refine V2_getr (a := 35) d_P_judge_83 fl_P_22 (by decide) rfl (by decide) rfl ?_
        refine V2_iload_n (i := 3) d_P_judge_86 rfl rfl ?_
        refine V2_callS [.int v6] d_P_judge_87 rfl rfl lk_P_208 mo_P_gasOf (Nat.le_of_ble_eq_true rfl) (Nat.le_of_ble_eq_true rfl) ?_
        refine V2.to (l' := [some (.int v6)]) ?_ rfl rfl rfl rfl
        refine V2_iload_n (i := 0) d_P_gasOf_0 rfl rfl ?_
        refine V2_bipush (v := 8) d_P_gasOf_1 rfl ?_
        refine V2_iushr d_P_gasOf_3 ?_
        refine V2_topi (fun v7 ev7 => ?_)
        refine V2_bipush (v := 10) d_P_gasOf_4 rfl ?_
        refine V2_iremM d_P_gasOf_6 (by decide) ?_
        refine V2_topi (fun v8 ev8 => ?_)
        refine V2_ireturn d_P_gasOf_7 rfl ?_
        refine V2.to (st' := [.int v8, .ref 35, .ref 1]) ?_ rfl rfl rfl rfl
        refine V2_bipush (v := 63) d_P_judge_90 rfl ?_
        refine V2_callV [.ref 35, .int v8, .int (63 : Int32)] d_P_judge_92 rfl rfl lk_P_195 mo_World_drive (by decide) rfl rfl rfl (Nat.le_of_ble_eq_true rfl) (Nat.le_of_ble_eq_true rfl) ?_
        have ez : v6 = nzS (T 8) := by subst ev8 ev7 ev6 ev5 ev3 ev1; rfl
        have eg : v8 = gasS (nzS (T 8)) := by subst ev8 ev7 ev6 ev5 ev3 ev1; rfl
        rw [eg, ez]
        refine c_drive35 (T := upd T 8 (nzS (T 8))) h hi g1 (hT.upd (by decide)) (relCr_c hc rfl (fun j hj => upd_ne (by omega))) (invC_z hC) (gas_range _) (fun G2 h2 h3 => ?_)
        rw [show goS (upd T 8 (nzS (T 8))) (gasS (nzS (T 8))) 63 (PN S) = stepD T from by unfold stepD; rw [PN_like hT]] at h3
        refine V2_topi (fun v9 ev9 => ?_)
        refine V2_pop d_P_judge_95 rfl ?_
        have s22 : G2 (57 + 2 * t) 2 = nI N := (congrFun (h2 _ (by omega) (by omega) (by omega)) 2).trans ((hR.1.2.2.2.2.2.2 t ht).2.1.trans eN)
        have e58 : G2 (58 + 2 * t) k = F (58 + 2 * t) k := congrFun (h2 _ (by omega) (by omega) (by omega)) k
        refine V2_aload_n (i := 0) d_P_judge_96 rfl rfl ?_
        refine V2_getr (a := 35) d_P_judge_97 fl_P_22 (by decide) rfl (by decide) rfl ?_
        refine V2_get (v := G2 35 2) d_P_judge_100 fl_P_199 (by decide) rfl (by decide) rfl rfl ?_
        refine V2_topi (fun v10 ev10 => ?_)
        refine V2_aload_n (i := 2) d_P_judge_103 rfl rfl ?_
        refine V2_iload (i := 4) d_P_judge_104 rfl ?_
        refine V2_callV [.int (nI k)] d_P_judge_106 rfl rfl lk_P_333 mo_Sheet_at (by omega) (sh_k1 ht) rfl rfl (Nat.le_of_ble_eq_true rfl) (Nat.le_of_ble_eq_true rfl) ?_
        refine V2.to (l' := [some (.ref (57 + 2 * t)), some (.int (nI k))]) ?_ rfl rfl rfl rfl
        refine V2_iload_n (i := 1) d_Sheet_at_0 rfl rfl ?_
        refine V2_if_lt (tgt := 30) d_Sheet_at_1 rfl (fun c11 => (by first | exact absurd c11 (show ¬ nI k < 0 from nI_pos (by omega)) | exact absurd (show ¬ nI k < 0 from nI_pos (by omega)) c11)) (fun c11 => ?_)
        refine V2_iload_n (i := 1) d_Sheet_at_4 rfl rfl ?_
        refine V2_aload_n (i := 0) d_Sheet_at_5 rfl rfl ?_
        refine V2_get d_Sheet_at_6 fl_Sheet_17 (by omega) (sh_k ht) (by decide) (sh_n ht (by decide)) rfl ?_
        refine V2_topi (fun v12 ev12 => ?_)
        refine V2_icmp_ge (tgt := 30) d_Sheet_at_9 rfl (fun c13 => (by first | exact absurd c13 (show ¬ v12 ≤ nI k from by subst ev12 ev10 ev9 ev8 ev7 ev6 ev5 ev3 ev1; rw [s22]; exact nI_ge (by omega) (by omega)) | exact absurd (show ¬ v12 ≤ nI k from by subst ev12 ev10 ev9 ev8 ev7 ev6 ev5 ev3 ev1; rw [s22]; exact nI_ge (by omega) (by omega)) c13)) (fun c13 => ?_)
        refine V2_iload_n (i := 1) d_Sheet_at_12 rfl rfl ?_
        refine V2_aload_n (i := 0) d_Sheet_at_13 rfl rfl ?_
        refine V2_getr (a := (58 + 2 * t)) d_Sheet_at_14 fl_Sheet_9 (by omega) (sh_k ht) (by decide) (sh_r ht) ?_
        refine V2_alen (t := 0) (v := 24) d_Sheet_at_17 (by omega) (sh_a ht) (by decide) rfl ?_
        refine V2_icmp_ge (tgt := 30) d_Sheet_at_18 rfl (fun c14 => (by first | exact absurd c14 (show ¬ (24 : Int32) ≤ nI k from nI_ge (a := k) (b := 24) (by omega) (by decide)) | exact absurd (show ¬ (24 : Int32) ≤ nI k from nI_ge (a := k) (b := 24) (by omega) (by decide)) c14)) (fun c14 => ?_)
        refine V2_aload_n (i := 0) d_Sheet_at_21 rfl rfl ?_
        refine V2_getr (a := (58 + 2 * t)) d_Sheet_at_22 fl_Sheet_9 (by omega) (sh_k ht) (by decide) (sh_r ht) ?_
        refine V2_iload_n (i := 1) d_Sheet_at_25 rfl rfl ?_
        refine V2_ialoadJ (k) d_Sheet_at_26 (by omega) (sh_a ht) (xixA (n := k) rfl (by omega) (by decide)) (xixB (n := k) rfl (by omega)) rfl ?_
        refine V2_topi (fun v15 ev15 => ?_)
        refine V2_goto (tgt := 31) d_Sheet_at_27 rfl ?_
        refine V2_ireturn d_Sheet_at_31 rfl ?_
        refine V2.to (st' := [.int v15, .int v10]) ?_ rfl rfl rfl rfl
        refine V2_icmp_eq (tgt := 115) d_P_judge_109 rfl (fun c16 => ?_) (fun c16 => ?_)
        · obtain ⟨v17, ev17⟩ : ∃ y : Int32, y = nI k + 1 := ⟨_, rfl⟩
          refine V2_iinc (i := 4) (v := v17) (l' := [some (.ref 0), some (.int (nI t)), some (.ref (57 + 2 * t)), some (.int (nzS (T 8))), some (.int v17)]) d_P_judge_115 rfl (by rw [ev17]; rfl) (xst_i (Nat.le_of_ble_eq_true rfl) rfl rfl) ?_
          refine V2_goto (tgt := 54) d_P_judge_118 rfl ?_
          have hee : stepD T 2 = F 76 (24 * t + k) := by
            have h9 := c16
            obtain ⟨n, hn, en⟩ := stepD_n hC
            subst ev17 ev15 ev12 ev10 ev9 ev8 ev7 ev6 ev5 ev3 ev1
            rw [h3.2.2.1, e58, en] at h9
            exact en.trans ((eq_small hEq hn).mp h9.symm).symm
          rw [jud_t (f := fun k => F 76 (24 * t + k)) h5 hee] at hQ
          rw [ev17, nI_1]
          exact V2.to (ih (k + 1) m G2 (stepD T) (by omega) (by omega) h2 h3 (stepD_like hT) (stepD_invC hC) hQ) rfl (by rw [stepD_8]) rfl rfl
        · refine V2_iload (i := 4) d_P_judge_112 rfl ?_
          refine V2_ireturn d_P_judge_114 rfl ?_
          have hne : ¬ stepD T 2 = F 76 (24 * t + k) := by
            intro hh
            obtain ⟨n, hn, en⟩ := stepD_n hC
            apply c16
            subst ev15 ev12 ev10 ev9 ev8 ev7 ev6 ev5 ev3 ev1
            rw [h3.2.2.1, e58, en]
            exact ((eq_small hEq hn).mpr (hh.symm.trans en)).symm
          rw [jud_f (f := fun k => F 76 (24 * t + k)) h5 hne] at hQ
          exact hQ G2 h2
theorem c_cls_judge {L : Nat} {xs : Nat → Int32} {d : Nat} {Q : Option Value → xF → Prop} {F : xF} {sh : Int32} (hR : Rel F) (hQ : ∀ F1, Mid F F1 (k_judge F sh).2 → Q (some (.int (k_judge F sh).1)) F1) : V2 L xs (d + 7) m_P_judge 0 (xEntry [.ref 0, .int sh] 5) [] F Q := by
  have q0 : (0 : Int32).toInt = 0 := by decide
  have q1 : (1 : Int32).toInt = 1 := by decide
  have q2 : (2 : Int32).toInt = 2 := by decide
  have q3 : (3 : Int32).toInt = 3 := by decide
  have q4 : (4 : Int32).toInt = 4 := by decide
  have q5 : (5 : Int32).toInt = 5 := by decide
  have q6 : (6 : Int32).toInt = 6 := by decide
  have q7 : (7 : Int32).toInt = 7 := by decide
  have q8 : (8 : Int32).toInt = 8 := by decide
  have q9 : (9 : Int32).toInt = 9 := by decide
  have q10 : (10 : Int32).toInt = 10 := by decide
  have q12 : (12 : Int32).toInt = 12 := by decide
  have q16 : (16 : Int32).toInt = 16 := by decide
  have q20 : (20 : Int32).toInt = 20 := by decide
  have q24 : (24 : Int32).toInt = 24 := by decide
  have q30 : (30 : Int32).toInt = 30 := by decide
  have q32 : (32 : Int32).toInt = 32 := by decide
  have q40 : (40 : Int32).toInt = 40 := by decide
  have q60 : (60 : Int32).toInt = 60 := by decide
  have q69 : (69 : Int32).toInt = 69 := by decide
  have q99 : (99 : Int32).toInt = 99 := by decide
  have q9999 : (9999 : Int32).toInt = 9999 := by decide
  have q274 : (274 : Int32).toInt = 274 := by decide
  have q334 : (334 : Int32).toInt = 334 := by decide
  refine V2.to (l' := [some (.ref 0), some (.int sh), none, none, none]) ?_ rfl rfl rfl rfl
  refine V2_aload_n (i := 0) d_P_judge_0 rfl rfl ?_
  refine V2_iload_n (i := 1) d_P_judge_1 rfl rfl ?_
  refine V2_callV [.int sh] d_P_judge_2 rfl rfl lk_P_268 mo_P_sheetAt (by decide) rfl rfl rfl (Nat.le_of_ble_eq_true rfl) (Nat.le_of_ble_eq_true rfl) ?_
  refine V2.to (l' := [some (.ref 0), some (.int sh)]) ?_ rfl rfl rfl rfl
  refine V2_iload_n (i := 1) d_P_sheetAt_0 rfl rfl ?_
  refine V2_if_lt (tgt := 22) d_P_sheetAt_1 rfl (fun c1 => ?_) (fun c1 => ?_)
  · refine V2_null d_P_sheetAt_22 ?_
    refine V2_areturnN d_P_sheetAt_23 rfl (Or.inl ⟨_, rfl⟩) ?_
    refine V2.to (st' := [.null]) ?_ rfl rfl rfl rfl
    refine V2_astore_nN (i := 2) (l' := [some (.ref 0), some (.int sh), some (.null), none, none]) d_P_judge_5 rfl (xst_i (Nat.le_of_ble_eq_true rfl) rfl rfl) ?_
    refine V2_aload_nN (i := 2) d_P_judge_6 rfl rfl ?_
    refine V2_ifnonnullN d_P_judge_7 ?_
    refine V2_aload_n (i := 0) d_P_judge_10 rfl rfl ?_
    refine V2_iconst (v := 1) d_P_judge_11 rfl ?_
    refine V2_callV [.int (1 : Int32)] d_P_judge_12 rfl rfl lk_P_66 mo_P_fails (by decide) rfl rfl rfl (Nat.le_of_ble_eq_true rfl) (Nat.le_of_ble_eq_true rfl) ?_
    refine c_P_fails1 ?_
    refine V2_topi (fun v2 ev2 => ?_)
    refine V2_ireturn d_P_judge_15 rfl ?_
    have hb0 : ¬ (0 ≤ sh.toInt ∧ sh.toInt < 4) := (by (try clear hQ); (try subst ev2); ((try simp only [xb_eq, xb_ne, Int32.lt_iff_toInt_lt, Int32.le_iff_toInt_le] at *) <;> (try simp only [← Int32.toInt_inj, true_and, false_and, or_false, false_or, or_true, true_or, and_true, and_false] at *) <;> omega))
    have e : k_judge F sh = (-1000000000 - 1, errF F 1) := if_neg hb0
    rw [e] at hQ
    subst ev2
    exact xQi (hQ _ (mid_err hR (by decide))) rfl rfl
  · refine V2_iload_n (i := 1) d_P_sheetAt_4 rfl rfl ?_
    refine V2_aload_n (i := 0) d_P_sheetAt_5 rfl rfl ?_
    refine V2_getr (a := 55) d_P_sheetAt_6 fl_P_49 (by decide) rfl (by decide) rfl ?_
    refine V2_alen (t := 1) (v := 4) d_P_sheetAt_9 (by decide) rfl (by decide) rfl ?_
    refine V2_icmp_ge (tgt := 22) d_P_sheetAt_10 rfl (fun c3 => ?_) (fun c3 => ?_)
    · refine V2_null d_P_sheetAt_22 ?_
      refine V2_areturnN d_P_sheetAt_23 rfl (Or.inl ⟨_, rfl⟩) ?_
      refine V2.to (st' := [.null]) ?_ rfl rfl rfl rfl
      refine V2_astore_nN (i := 2) (l' := [some (.ref 0), some (.int sh), some (.null), none, none]) d_P_judge_5 rfl (xst_i (Nat.le_of_ble_eq_true rfl) rfl rfl) ?_
      refine V2_aload_nN (i := 2) d_P_judge_6 rfl rfl ?_
      refine V2_ifnonnullN d_P_judge_7 ?_
      refine V2_aload_n (i := 0) d_P_judge_10 rfl rfl ?_
      refine V2_iconst (v := 1) d_P_judge_11 rfl ?_
      refine V2_callV [.int (1 : Int32)] d_P_judge_12 rfl rfl lk_P_66 mo_P_fails (by decide) rfl rfl rfl (Nat.le_of_ble_eq_true rfl) (Nat.le_of_ble_eq_true rfl) ?_
      refine c_P_fails1 ?_
      refine V2_topi (fun v4 ev4 => ?_)
      refine V2_ireturn d_P_judge_15 rfl ?_
      have hb0 : ¬ (0 ≤ sh.toInt ∧ sh.toInt < 4) := (by (try clear hQ); (try subst ev4); ((try simp only [xb_eq, xb_ne, Int32.lt_iff_toInt_lt, Int32.le_iff_toInt_le] at *) <;> (try simp only [← Int32.toInt_inj, true_and, false_and, or_false, false_or, or_true, true_or, and_true, and_false] at *) <;> omega))
      have e : k_judge F sh = (-1000000000 - 1, errF F 1) := if_neg hb0
      rw [e] at hQ
      subst ev4
      exact xQi (hQ _ (mid_err hR (by decide))) rfl rfl
    · obtain ⟨t, ht, ept⟩ := in_of (x := sh) (P := 4) (by (try clear hQ); (try skip); ((try simp only [xb_eq, xb_ne, Int32.lt_iff_toInt_lt, Int32.le_iff_toInt_le] at *) <;> (try simp only [← Int32.toInt_inj, true_and, false_and, or_false, false_or, or_true, true_or, and_true, and_false] at *) <;> omega)) (by (try clear hQ); (try skip); ((try simp only [xb_eq, xb_ne, Int32.lt_iff_toInt_lt, Int32.le_iff_toInt_le] at *) <;> (try simp only [← Int32.toInt_inj, true_and, false_and, or_false, false_or, or_true, true_or, and_true, and_false] at *) <;> omega)) (by omega)
      subst ept
      have nt : (nI t).toInt = (t : Int) := nI_toInt (by omega)
      have kt : (nI t).toNatClampNeg = t := nI_clamp (by omega)
      obtain ⟨N, hN, eN, nN, e2, eb, hb⟩ := inv_sz hR ht
      refine V2_aload_n (i := 0) d_P_sheetAt_13 rfl rfl ?_
      refine V2_getr (a := 55) d_P_sheetAt_14 fl_P_49 (by decide) rfl (by decide) rfl ?_
      refine V2_iload_n (i := 1) d_P_sheetAt_17 rfl rfl ?_
      refine V2_aaload (t := 0) (a := (57 + 2 * t)) d_P_sheetAt_18 (by decide) rfl (by decide) (vp_in_nI ht (by omega)) (sh_s ht) ?_
      refine V2_goto (tgt := 23) d_P_sheetAt_19 rfl ?_
      refine V2_areturn d_P_sheetAt_23 rfl (Or.inl ⟨_, rfl⟩) ?_
      refine V2.to (st' := [.ref (57 + 2 * t)]) ?_ rfl rfl rfl rfl
      refine V2_astore_n (i := 2) (l' := [some (.ref 0), some (.int (nI t)), some (.ref (57 + 2 * t)), none, none]) d_P_judge_5 rfl (xst_i (Nat.le_of_ble_eq_true rfl) rfl rfl) ?_
      refine V2_aload_n (i := 2) d_P_judge_6 rfl rfl ?_
      refine V2_ifnonnull (tgt := 16) d_P_judge_7 rfl ?_
      refine V2_aload_n (i := 2) d_P_judge_16 rfl rfl ?_
      refine V2_callV [] d_P_judge_17 rfl rfl lk_P_272 mo_Sheet_isMissing (by omega) (sh_k1 ht) rfl rfl (Nat.le_of_ble_eq_true rfl) (Nat.le_of_ble_eq_true rfl) ?_
      refine V2.to (l' := [some (.ref (57 + 2 * t))]) ?_ rfl rfl rfl rfl
      refine V2_aload_n (i := 0) d_Sheet_isMissing_0 rfl rfl ?_
      refine V2_get d_Sheet_isMissing_1 fl_Sheet_13 (by omega) (sh_k ht) (by decide) (sh_n ht (by decide)) rfl ?_
      refine V2_topi (fun v5 ev5 => ?_)
      refine V2_if_ne (tgt := 11) d_Sheet_isMissing_4 rfl (fun c6 => ?_) (fun c6 => ?_)
      · refine V2_iconst (v := 0) d_Sheet_isMissing_11 rfl ?_
        refine V2_zreturn d_Sheet_isMissing_12 rfl (by decide) ?_
        refine V2.to (st' := [.int (0 : Int32)]) ?_ rfl rfl rfl rfl
        refine V2_if_eq (tgt := 29) d_P_judge_20 rfl (fun _ => ?_) (fun c => (by first | exact absurd c (by decide) | exact absurd (by decide) c))
        have hz : ¬ F 74 t = 0 := by
          have h9 := c6
          subst ev5
          rw [← eb]
          exact h9
        refine V2_aload_n (i := 0) d_P_judge_29 rfl rfl ?_
        refine V2_getr (a := 35) d_P_judge_30 fl_P_22 (by decide) rfl (by decide) rfl ?_
        refine V2_aload_n (i := 0) d_P_judge_33 rfl rfl ?_
        refine V2_getr (a := 1) d_P_judge_34 fl_P_10 (by decide) rfl (by decide) rfl ?_
        refine V2_getr (a := 2) d_P_judge_37 fl_P_93 (by decide) rfl (by decide) rfl ?_
        refine V2_callV [.ref 2] d_P_judge_40 rfl rfl lk_P_227 mo_Car_copyFrom (by decide) rfl rfl rfl (Nat.le_of_ble_eq_true rfl) (Nat.le_of_ble_eq_true rfl) ?_
        refine c_Car_copy_35_2 (by rw [show F 2 7 = F 66 5 from hR.1.1.1.2.2.2.2.2.2.2]; exact hR.2.1.1.2.2.2.2.2.1) (fun G p0 g0 => ?_)
        refine V2_aload_n (i := 0) d_P_judge_43 rfl rfl ?_
        refine V2_getr (a := 1) d_P_judge_44 fl_P_10 (by decide) rfl (by decide) rfl ?_
        refine V2_get (v := G 1 6) d_P_judge_47 fl_P_202 (by decide) rfl (by decide) rfl rfl ?_
        refine V2_topi (fun v7 ev7 => ?_)
        refine V2_istore_n (i := 3) (l' := [some (.ref 0), some (.int (nI t)), some (.ref (57 + 2 * t)), some (.int v7), none]) d_P_judge_50 rfl (xst_r (Nat.le_of_ble_eq_true rfl) rfl rfl) ?_
        refine V2_iconst (v := 0) d_P_judge_51 rfl ?_
        refine V2_istore (i := 4) (l' := [some (.ref 0), some (.int (nI t)), some (.ref (57 + 2 * t)), some (.int v7), some (.int (0 : Int32))]) d_P_judge_52 (xst_i (Nat.le_of_ble_eq_true rfl) rfl rfl) ?_
        have hb0 : 0 ≤ (nI t).toInt ∧ (nI t).toInt < 4 := (by (try clear hQ); (try subst ev7 ev5); ((try simp only [xb_eq, xb_ne, Int32.lt_iff_toInt_lt, Int32.le_iff_toInt_le] at *) <;> (try simp only [← Int32.toInt_inj, true_and, false_and, or_false, false_or, or_true, true_or, and_true, and_false] at *) <;> omega))
        have e : k_judge F (nI t) = (nI (judS (fun k => F 76 (24 * t + k)) N 0 (F 66)), F) := (if_pos hb0).trans (by rw [kt, eN, nI_clamp (show N < 2 ^ 31 by omega)]; exact if_neg hz)
        rw [e] at hQ
        have ez : v7 = F 66 8 := by
          subst ev7 ev5
          rw [g0 1 (by decide)]
          exact hR.1.1.2.2.2.2.2.2
        rw [ez]
        exact V2.to (c_P_judge_loop (S := F 66) hR rfl ht hN eN (N + 1) 0 N G (F 66) (by omega) (by omega) ((scrC.refl F).car g0) (relCr_row hR.1.1.1 p0) (like.refl _) hR.2.1.1 (fun G2 h2 => hQ G2 (mid_scr hR h2))) rfl rfl rfl rfl
      · refine V2_iconst (v := 1) d_Sheet_isMissing_7 rfl ?_
        refine V2_goto (tgt := 12) d_Sheet_isMissing_8 rfl ?_
        refine V2_zreturn d_Sheet_isMissing_12 rfl (by decide) ?_
        refine V2.to (st' := [.int (1 : Int32)]) ?_ rfl rfl rfl rfl
        refine V2_if_eq (tgt := 29) d_P_judge_20 rfl (fun c => (by first | exact absurd c (by decide) | exact absurd (by decide) c)) (fun _ => ?_)
        have hz : F 74 t = 0 := by
          have h9 := c6
          subst ev5
          rw [← eb]
          exact h9
        refine V2_aload_n (i := 0) d_P_judge_23 rfl rfl ?_
        refine V2_iconst (v := 2) d_P_judge_24 rfl ?_
        refine V2_callV [.int (2 : Int32)] d_P_judge_25 rfl rfl lk_P_66 mo_P_fails (by decide) rfl rfl rfl (Nat.le_of_ble_eq_true rfl) (Nat.le_of_ble_eq_true rfl) ?_
        refine c_P_fails2 ?_
        refine V2_topi (fun v8 ev8 => ?_)
        refine V2_ireturn d_P_judge_28 rfl ?_
        have hb0 : 0 ≤ (nI t).toInt ∧ (nI t).toInt < 4 := (by (try clear hQ); (try subst ev8 ev5); ((try simp only [xb_eq, xb_ne, Int32.lt_iff_toInt_lt, Int32.le_iff_toInt_le] at *) <;> (try simp only [← Int32.toInt_inj, true_and, false_and, or_false, false_or, or_true, true_or, and_true, and_false] at *) <;> omega))
        have e : k_judge F (nI t) = (-1000000000 - 2, errF F 2) := (if_pos hb0).trans (by rw [kt]; exact if_pos hz)
        rw [e] at hQ
        subst ev8 ev5
        exact xQi (hQ _ (mid_err hR (by decide))) rfl rfl
theorem c_R_judge_loop {L : Nat} {xs : Nat → Int32} {d : Nat} {Q : Option Value → xF → Prop} {F : xF} {S : Nat → Int32} {t N : Nat} {w : Int32} (hi : invS S) (e65 : F 65 5 = 63) (ht : t < 4) (hN : N ≤ 24) (eN : F 75 t = nI N) : ∀ (n_ : Nat) (k m : Nat) (G : xF), k + m = N → m < n_ → rowM F G → like (G 66) S → (∀ G2 : xF, rowM F G2 → like (G2 66) S → V2 L xs (d + 5) m_R_judge 103 [some (.ref 65), some (.int (nI t)), some (.int w), some (.int (nI (judS (fun k => F 76 (24 * t + k)) m k (G 66)))), none, none] [] G2 Q) → V2 L xs (d + 5) m_R_judge 25 [some (.ref 65), some (.int (nI t)), some (.int w), some (.int (nI k)), some (.int (1 : Int32)), none] [] G Q := by
  intro n_
  induction n_ with
  | zero => exact fun k m G h1 h2 => absurd h2 (by omega)
  | succ n_ ih =>
    intro k m G h1 h2 g1 hT hK
    have s2 : G 75 t = nI N := (congrFun (g1 75 (by decide) (by decide) (by decide)) t).trans eN
    refine V2_iload (i := 4) d_R_judge_25 rfl ?_
    refine V2_if_eq (tgt := 103) d_R_judge_27 rfl (fun c => (by first | exact absurd c (by decide) | exact absurd (by decide) c)) (fun _ => ?_)
    refine V2_iload_n (i := 3) d_R_judge_30 rfl rfl ?_
    refine V2_aload_n (i := 0) d_R_judge_31 rfl rfl ?_
    refine V2_getr (a := 75) d_R_judge_32 fl_R_41 (by decide) rfl (by decide) rfl ?_
    refine V2_iload_n (i := 1) d_R_judge_35 rfl rfl ?_
    refine V2_ialoadJ (t) d_R_judge_36 (by decide) rfl (xixA (n := t) rfl (by omega) (by decide)) (xixB (n := t) rfl (by omega)) rfl ?_
    refine V2_topi (fun v1 ev1 => ?_)
    refine V2_icmp_ge (tgt := 103) d_R_judge_37 rfl (fun c2 => ?_) (fun c2 => ?_)
    · have hm : m = 0 := by
        have h9 := c2
        subst ev1
        rw [s2] at h9
        have := (nI_leI (by omega) (by omega)).mp h9
        omega
      subst hm
      refine V2.weak (l' := [some (.ref 65), some (.int (nI t)), some (.int w), some (.int (nI k)), none, none]) ?_ ⟨rfl, rfl, rfl, rfl, trivial⟩
      exact V2.to (hK G g1 hT) rfl rfl rfl rfl
    · have hkw : k < N := by
        have h9 := c2
        subst ev1
        rw [s2] at h9
        exact Nat.not_le.mp (fun hh => h9 ((nI_leI (by omega) (by omega)).mpr hh))
      obtain ⟨m, rfl⟩ : ∃ m2, m = m2 + 1 := ⟨m - 1, by omega⟩
      refine V2_aload_n (i := 0) d_R_judge_40 rfl rfl ?_
      refine V2_callV [] d_R_judge_41 rfl rfl lk_R_152 mo_R_isOut (by decide) rfl rfl rfl (Nat.le_of_ble_eq_true rfl) (Nat.le_of_ble_eq_true rfl) ?_
      refine c_R_isOut ?_
      refine V2_topi (fun v3 ev3 => ?_)
      refine V2_if_ne (tgt := 103) d_R_judge_44 rfl (fun c4 => ?_) (fun c4 => ?_)
      · have h5 : G 66 5 = 1 := xb_ne.mp (by have h8 := c4; subst ev3 ev1; exact h8)
        rw [jud_1 h5] at hK
        refine V2.weak (l' := [some (.ref 65), some (.int (nI t)), some (.int w), some (.int (nI k)), none, none]) ?_ ⟨rfl, rfl, rfl, rfl, trivial⟩
        exact V2.to (hK G g1 hT) rfl rfl rfl rfl
      · have h5 : ¬ G 66 5 = 1 := xb_eq.mp (by have h8 := c4; subst ev3 ev1; exact h8)
        refine V2_aload_n (i := 0) d_R_judge_47 rfl rfl ?_
        refine V2_aload_n (i := 0) d_R_judge_48 rfl rfl ?_
        refine V2_callV [] d_R_judge_49 rfl rfl lk_R_187 mo_R_draw (by decide) rfl rfl rfl (Nat.le_of_ble_eq_true rfl) (Nat.le_of_ble_eq_true rfl) ?_
        refine c_R_draw ?_
        refine V2_topi (fun v5 ev5 => ?_)
        refine V2_bipush (v := 10) d_R_judge_52 rfl ?_
        refine V2_iremM d_R_judge_54 (by decide) ?_
        refine V2_topi (fun v6 ev6 => ?_)
        refine V2_callV [.int v6] d_R_judge_55 rfl rfl lk_R_155 mo_R_goes (by decide) rfl rfl rfl (Nat.le_of_ble_eq_true rfl) (Nat.le_of_ble_eq_true rfl) ?_
        have eg : v6 = gasS (nzS (G 66 8)) := by
          subst ev6 ev5 ev3 ev1
          rfl
        rw [eg]
        refine c_goesM (S := S) hi (by rw [show xp G 66 8 (G 66 8 * 1103515245 + 12345) 66 = upd (G 66) 8 (nzS (G 66 8)) from xp_at _ _ _ _]; exact hT.upd (by decide)) (fun G2 h1_ h2_ => ?_)
        rw [show xp G 66 8 (G 66 8 * 1103515245 + 12345) 66 = upd (G 66) 8 (nzS (G 66 8)) from xp_at _ _ _ _, xp_ne (Or.inl (by decide)), (congrFun (g1 65 (by decide) (by decide) (by decide)) 5).trans e65, show goS (upd (G 66) 8 (nzS (G 66 8))) (gasS (nzS (G 66 8))) 63 (PN S) = stepD (G 66) from by unfold stepD; rw [PN_like hT]] at h1_
        refine V2_topi (fun v7 ev7 => ?_)
        refine V2_istore (i := 5) (l' := [some (.ref 65), some (.int (nI t)), some (.int w), some (.int (nI k)), some (.int (1 : Int32)), some (.int v7)]) d_R_judge_58 (xst_i (Nat.le_of_ble_eq_true rfl) rfl rfl) ?_
        refine V2_aload_n (i := 0) d_R_judge_60 rfl rfl ?_
        refine V2_getr (a := 66) d_R_judge_61 fl_R_7 (by decide) rfl (by decide) rfl ?_
        refine V2_iconst (v := 2) d_R_judge_64 rfl ?_
        refine V2_iaload (v := G2 66 2) d_R_judge_65 (by decide) rfl (xixA (n := 2) rfl (by decide) (by decide)) rfl ?_
        refine V2_topi (fun v8 ev8 => ?_)
        refine V2_aload_n (i := 0) d_R_judge_66 rfl rfl ?_
        refine V2_getr (a := 76) d_R_judge_67 fl_R_44 (by decide) rfl (by decide) rfl ?_
        refine V2_bipush (v := 24) d_R_judge_70 rfl ?_
        refine V2_iload_n (i := 1) d_R_judge_72 rfl rfl ?_
        refine V2_imul d_R_judge_73 ?_
        refine V2_topi (fun v9 ev9 => ?_)
        refine V2_iload_n (i := 3) d_R_judge_74 rfl rfl ?_
        refine V2_iadd d_R_judge_75 ?_
        refine V2_topi (fun v10 ev10 => ?_)
        refine V2_ialoadJ (24 * t + k) d_R_judge_76 (by decide) rfl (xixA (n := 24 * t + k) (by subst ev10 ev9 ev8 ev7 ev6 ev5 ev3 ev1; simp only [nI, Int32.ofNat_add, Int32.ofNat_mul]; rfl) (by omega) (by decide)) (xixB (n := 24 * t + k) (by subst ev10 ev9 ev8 ev7 ev6 ev5 ev3 ev1; simp only [nI, Int32.ofNat_add, Int32.ofNat_mul]; rfl) (by omega)) rfl ?_
        refine V2_topi (fun v11 ev11 => ?_)
        refine V2_icmp_ne (tgt := 84) d_R_judge_77 rfl (fun c12 => ?_) (fun c12 => ?_)
        · refine V2_iconst (v := 0) d_R_judge_84 rfl ?_
          refine V2_istore (i := 4) (l' := [some (.ref 65), some (.int (nI t)), some (.int w), some (.int (nI k)), some (.int (0 : Int32)), some (.int v7)]) d_R_judge_85 (xst_i (Nat.le_of_ble_eq_true rfl) rfl rfl) ?_
          refine V2_iload_n (i := 3) d_R_judge_87 rfl rfl ?_
          refine V2_iload (i := 4) d_R_judge_88 rfl ?_
          refine V2_if_eq (tgt := 97) d_R_judge_90 rfl (fun _ => ?_) (fun c => (by first | exact absurd c (by decide) | exact absurd (by decide) c))
          refine V2_iconst (v := 0) d_R_judge_97 rfl ?_
          refine V2_iadd d_R_judge_98 ?_
          refine V2_topi (fun v13 ev13 => ?_)
          refine V2_istore_n (i := 3) (l' := [some (.ref 65), some (.int (nI t)), some (.int w), some (.int v13), some (.int (0 : Int32)), some (.int v7)]) d_R_judge_99 rfl (xst_i (Nat.le_of_ble_eq_true rfl) rfl rfl) ?_
          refine V2_goto (tgt := 25) d_R_judge_100 rfl ?_
          refine V2_iload (i := 4) d_R_judge_25 rfl ?_
          refine V2_if_eq (tgt := 103) d_R_judge_27 rfl (fun _ => ?_) (fun c => (by first | exact absurd c (by decide) | exact absurd (by decide) c))
          have hne : ¬ stepD (G 66) 2 = F 76 (24 * t + k) := by
            intro hh
            apply c12
            subst ev13 ev11 ev10 ev9 ev8 ev7 ev6 ev5 ev3 ev1
            rw [h1_, h2_ 76 (by decide) (by decide) (by decide), xp_row_ne (by decide), g1 76 (by decide) (by decide) (by decide)]
            exact hh
          rw [jud_f (f := fun k => F 76 (24 * t + k)) h5 hne] at hK
          have e0 : v13 = nI k := by rw [ev13]; exact Int32.add_zero _
          rw [e0]
          refine V2.weak (l' := [some (.ref 65), some (.int (nI t)), some (.int w), some (.int (nI k)), none, none]) ?_ ⟨rfl, rfl, rfl, rfl, trivial⟩
          exact V2.to (hK G2 (fun a b c e => (h2_ a b c e).trans ((xp_row_ne b).trans (g1 a b c e))) (by rw [h1_]; exact stepD_like hT)) rfl rfl rfl rfl
        · refine V2_iconst (v := 1) d_R_judge_80 rfl ?_
          refine V2_goto (tgt := 85) d_R_judge_81 rfl ?_
          refine V2_istore (i := 4) (l' := [some (.ref 65), some (.int (nI t)), some (.int w), some (.int (nI k)), some (.int (1 : Int32)), some (.int v7)]) d_R_judge_85 (xst_i (Nat.le_of_ble_eq_true rfl) rfl rfl) ?_
          refine V2_iload_n (i := 3) d_R_judge_87 rfl rfl ?_
          refine V2_iload (i := 4) d_R_judge_88 rfl ?_
          refine V2_if_eq (tgt := 97) d_R_judge_90 rfl (fun c => (by first | exact absurd c (by decide) | exact absurd (by decide) c)) (fun _ => ?_)
          refine V2_iconst (v := 1) d_R_judge_93 rfl ?_
          refine V2_goto (tgt := 98) d_R_judge_94 rfl ?_
          refine V2_iadd d_R_judge_98 ?_
          refine V2_topi (fun v14 ev14 => ?_)
          refine V2_istore_n (i := 3) (l' := [some (.ref 65), some (.int (nI t)), some (.int w), some (.int v14), some (.int (1 : Int32)), some (.int v7)]) d_R_judge_99 rfl (xst_i (Nat.le_of_ble_eq_true rfl) rfl rfl) ?_
          refine V2_goto (tgt := 25) d_R_judge_100 rfl ?_
          have hee : stepD (G 66) 2 = F 76 (24 * t + k) := by
            have h9 := c12
            subst ev14 ev11 ev10 ev9 ev8 ev7 ev6 ev5 ev3 ev1
            rw [h1_, h2_ 76 (by decide) (by decide) (by decide), xp_row_ne (by decide), g1 76 (by decide) (by decide) (by decide)] at h9
            exact h9
          rw [jud_t (f := fun k => F 76 (24 * t + k)) h5 hee] at hK
          rw [ev14, nI_1]
          refine V2.weak (l' := [some (.ref 65), some (.int (nI t)), some (.int w), some (.int (nI (k + 1))), some (.int (1 : Int32)), none]) ?_ ⟨rfl, rfl, rfl, rfl, rfl, trivial⟩
          refine V2.to (ih (k + 1) m G2 (by omega) (by omega) (fun a b c e => (h2_ a b c e).trans ((xp_row_ne b).trans (g1 a b c e))) (by rw [h1_]; exact stepD_like hT) ?_) rfl rfl rfl rfl
          rw [h1_]
          exact hK
theorem c_R_judge_end {L : Nat} {xs : Nat → Int32} {d : Nat} {Q : Option Value → xF → Prop} {F : xF} {H F0 : xF} {t : Nat} {w a : Int32} (p0 : ∀ j, j < 24 → H 68 j = F0 66 j) (g0 : ∀ a, ¬ a = 68 → H a = F0 a) (r1 : rowM H F) (r2 : ∀ j, 24 ≤ j → F 66 j = F0 66 j) (hQ : ∀ G : xF, scrM F0 G → Q (some (.int a)) G) : V2 L xs (d + 5) m_R_judge 103 ([some (.ref 65), some (.int (nI t)), some (.int w), some (.int a), none, none]) [] F Q := by
  refine V2_aload_n (i := 0) d_R_judge_103 rfl rfl ?_
  refine V2_callV [] d_R_judge_104 rfl rfl lk_R_158 mo_R_layBack (by decide) rfl rfl rfl (Nat.le_of_ble_eq_true rfl) (Nat.le_of_ble_eq_true rfl) ?_
  refine c_layB (S := F0 66) (fun j hj => (congrFun (r1 68 (by decide) (by decide) (by decide)) j).trans (p0 j hj)) r2 (fun G3 b1 b2 => ?_)
  refine V2_iload_n (i := 3) d_R_judge_107 rfl rfl ?_
  refine V2_ireturn d_R_judge_108 rfl ?_
  exact hQ G3 (fun a h1 h2 h3 => by
    by_cases h6 : a = 66
    · rw [h6]
      exact b1
    · rw [b2 a h6, r1 a h6 h2 h3, g0 a h1])
theorem c_mod_judge {L : Nat} {xs : Nat → Int32} {d : Nat} {Q : Option Value → xF → Prop} {F : xF} {sh : Int32} {F0 : xF} (hR : Rel F0) (hM : Mid F0 F (k_judge F0 sh).2) (hQ : ∀ F2, Rel F2 → Q (some (.int (k_judge F0 sh).1)) F2) : V2 L xs (d + 5) m_R_judge 0 (xEntry [.ref 65, .int sh] 6) [] F Q := by
  have q0 : (0 : Int32).toInt = 0 := by decide
  have q1 : (1 : Int32).toInt = 1 := by decide
  have q2 : (2 : Int32).toInt = 2 := by decide
  have q3 : (3 : Int32).toInt = 3 := by decide
  have q4 : (4 : Int32).toInt = 4 := by decide
  have q5 : (5 : Int32).toInt = 5 := by decide
  have q6 : (6 : Int32).toInt = 6 := by decide
  have q7 : (7 : Int32).toInt = 7 := by decide
  have q8 : (8 : Int32).toInt = 8 := by decide
  have q9 : (9 : Int32).toInt = 9 := by decide
  have q10 : (10 : Int32).toInt = 10 := by decide
  have q12 : (12 : Int32).toInt = 12 := by decide
  have q16 : (16 : Int32).toInt = 16 := by decide
  have q20 : (20 : Int32).toInt = 20 := by decide
  have q24 : (24 : Int32).toInt = 24 := by decide
  have q30 : (30 : Int32).toInt = 30 := by decide
  have q32 : (32 : Int32).toInt = 32 := by decide
  have q40 : (40 : Int32).toInt = 40 := by decide
  have q60 : (60 : Int32).toInt = 60 := by decide
  have q69 : (69 : Int32).toInt = 69 := by decide
  have q99 : (99 : Int32).toInt = 99 := by decide
  have q9999 : (9999 : Int32).toInt = 9999 := by decide
  have q274 : (274 : Int32).toInt = 274 := by decide
  have q334 : (334 : Int32).toInt = 334 := by decide
  obtain ⟨eP, hP6⟩ := inv_PN hR.2.1.2.2.1
  have nP : (F0 66 11).toInt = (PN (F0 66) : Int) := PN_int hR.2.1.2.2.1
  have e66 : F 66 = F0 66 := hM.1 66 (by decide)
  have e74 : F 74 = F0 74 := hM.1 74 (by decide)
  have e75 : F 75 = F0 75 := hM.1 75 (by decide)
  have e76 : F 76 = F0 76 := hM.1 76 (by decide)
  have e63 : F 65 5 = 63 := (congrFun (hM.1 65 (by decide)) 5).trans hR.2.2.2.1
  refine V2.to (l' := [some (.ref 65), some (.int sh), none, none, none, none]) ?_ rfl rfl rfl rfl
  refine V2_aload_n (i := 0) d_R_judge_0 rfl rfl ?_
  refine V2_iload_n (i := 1) d_R_judge_1 rfl rfl ?_
  refine V2_callV [.int sh] d_R_judge_2 rfl rfl lk_R_218 mo_R_lacks (by decide) rfl rfl rfl (Nat.le_of_ble_eq_true rfl) (Nat.le_of_ble_eq_true rfl) ?_
  refine V2.to (l' := [some (.ref 65), some (.int sh)]) ?_ rfl rfl rfl rfl
  refine V2_iload_n (i := 1) d_R_lacks_0 rfl rfl ?_
  refine V2_callS [.int sh] d_R_lacks_1 rfl rfl lk_R_258 mo_R_isSheet (Nat.le_of_ble_eq_true rfl) (Nat.le_of_ble_eq_true rfl) ?_
  refine c_R_isSheet ?_
  refine V2_topi (fun v1 ev1 => ?_)
  refine V2_if_ne (tgt := 11) d_R_lacks_4 rfl (fun c2 => ?_) (fun c2 => ?_)
  · obtain ⟨t, ht, ept⟩ := in_of (x := sh) (P := 4) (by (try clear hQ); (try subst ev1); ((try simp only [xb_eq, xb_ne, Int32.lt_iff_toInt_lt, Int32.le_iff_toInt_le] at *) <;> (try simp only [← Int32.toInt_inj, true_and, false_and, or_false, false_or, or_true, true_or, and_true, and_false] at *) <;> omega)) (by (try clear hQ); (try subst ev1); ((try simp only [xb_eq, xb_ne, Int32.lt_iff_toInt_lt, Int32.le_iff_toInt_le] at *) <;> (try simp only [← Int32.toInt_inj, true_and, false_and, or_false, false_or, or_true, true_or, and_true, and_false] at *) <;> omega)) (by omega)
    subst ept
    have nt : (nI t).toInt = (t : Int) := nI_toInt (by omega)
    have kt : (nI t).toNatClampNeg = t := nI_clamp (by omega)
    obtain ⟨N, hN, eN, nN, e2, eb, hb⟩ := inv_sz hR ht
    refine V2_aload_n (i := 0) d_R_lacks_11 rfl rfl ?_
    refine V2_getr (a := 74) d_R_lacks_12 fl_R_38 (by decide) rfl (by decide) rfl ?_
    refine V2_iload_n (i := 1) d_R_lacks_15 rfl rfl ?_
    refine V2_ialoadJ (t) d_R_lacks_16 (by decide) rfl (xixA (n := t) rfl (by omega) (by decide)) (xixB (n := t) rfl (by omega)) rfl ?_
    refine V2_topi (fun v3 ev3 => ?_)
    refine V2_if_ne (tgt := 24) d_R_lacks_17 rfl (fun c4 => ?_) (fun c4 => ?_)
    · have hz : ¬ F0 74 t = 0 := by
        have h9 := c4
        subst ev3 ev1
        rw [← congrFun e74 t]
        exact h9
      refine V2_iconst (v := 0) d_R_lacks_24 rfl ?_
      refine V2_ireturn d_R_lacks_25 rfl ?_
      refine V2.to (st' := [.int (0 : Int32)]) ?_ rfl rfl rfl rfl
      refine V2_istore_n (i := 2) (l' := [some (.ref 65), some (.int (nI t)), some (.int (0 : Int32)), none, none, none]) d_R_judge_5 rfl (xst_i (Nat.le_of_ble_eq_true rfl) rfl rfl) ?_
      refine V2_iload_n (i := 2) d_R_judge_6 rfl rfl ?_
      refine V2_if_eq (tgt := 16) d_R_judge_7 rfl (fun _ => ?_) (fun c => (by first | exact absurd c (by decide) | exact absurd (by decide) c))
      refine V2_aload_n (i := 0) d_R_judge_16 rfl rfl ?_
      refine V2_callV [] d_R_judge_17 rfl rfl lk_R_149 mo_R_layDown (by decide) rfl rfl rfl (Nat.le_of_ble_eq_true rfl) (Nat.le_of_ble_eq_true rfl) ?_
      refine c_layD (fun H p0 g0 => ?_)
      refine V2_iconst (v := 0) d_R_judge_20 rfl ?_
      refine V2_istore_n (i := 3) (l' := [some (.ref 65), some (.int (nI t)), some (.int (0 : Int32)), some (.int (0 : Int32)), none, none]) d_R_judge_21 rfl (xst_i (Nat.le_of_ble_eq_true rfl) rfl rfl) ?_
      refine V2_iconst (v := 1) d_R_judge_22 rfl ?_
      refine V2_istore (i := 4) (l' := [some (.ref 65), some (.int (nI t)), some (.int (0 : Int32)), some (.int (0 : Int32)), some (.int (1 : Int32)), none]) d_R_judge_23 (xst_i (Nat.le_of_ble_eq_true rfl) rfl rfl) ?_
      have hb0 : 0 ≤ (nI t).toInt ∧ (nI t).toInt < 4 := (by (try clear hQ); (try subst ev3 ev1); ((try simp only [xb_eq, xb_ne, Int32.lt_iff_toInt_lt, Int32.le_iff_toInt_le] at *) <;> (try simp only [← Int32.toInt_inj, true_and, false_and, or_false, false_or, or_true, true_or, and_true, and_false] at *) <;> omega))
      have e : k_judge F0 (nI t) = (nI (judS (fun k => F0 76 (24 * t + k)) N 0 (F0 66)), F0) := (if_pos hb0).trans (by rw [kt, eN, nI_clamp (show N < 2 ^ 31 by omega)]; exact if_neg hz)
      rw [e] at hQ hM
      have e6 : H 66 = F0 66 := (g0 66 (by decide)).trans e66
      refine V2.to (c_R_judge_loop (F := H) (S := F0 66) (w := 0) hR.2.1 ((congrFun (g0 65 (by decide)) 5).trans e63) ht hN ((congrFun (g0 75 (by decide)) t).trans ((congrFun e75 t).trans eN)) (N + 1) 0 N H (by omega) (by omega) (fun a _ _ _ => rfl) (by rw [e6]; exact like.refl _) (fun G2 r1 r2 => ?_)) rfl rfl rfl rfl
      rw [show (fun k => H 76 (24 * t + k)) = (fun k => F0 76 (24 * t + k)) from by funext k; rw [g0 76 (by decide), e76], e6]
      exact c_R_judge_end (F0 := F) (H := H) p0 g0 r1 (fun j hj => (r2 j (by omega)).trans (congrFun e66 j).symm) (fun G h2 => hQ G (rel_scr hR hM h2))
    · have hz : F0 74 t = 0 := by
        have h9 := c4
        subst ev3 ev1
        rw [← congrFun e74 t]
        exact h9
      refine V2_iconst (v := 2) d_R_lacks_20 rfl ?_
      refine V2_goto (tgt := 25) d_R_lacks_21 rfl ?_
      refine V2_ireturn d_R_lacks_25 rfl ?_
      refine V2.to (st' := [.int (2 : Int32)]) ?_ rfl rfl rfl rfl
      refine V2_istore_n (i := 2) (l' := [some (.ref 65), some (.int (nI t)), some (.int (2 : Int32)), none, none, none]) d_R_judge_5 rfl (xst_i (Nat.le_of_ble_eq_true rfl) rfl rfl) ?_
      refine V2_iload_n (i := 2) d_R_judge_6 rfl rfl ?_
      refine V2_if_eq (tgt := 16) d_R_judge_7 rfl (fun c => (by first | exact absurd c (by decide) | exact absurd (by decide) c)) (fun _ => ?_)
      refine V2_aload_n (i := 0) d_R_judge_10 rfl rfl ?_
      refine V2_iload_n (i := 2) d_R_judge_11 rfl rfl ?_
      refine V2_callV [.int (2 : Int32)] d_R_judge_12 rfl rfl lk_R_55 mo_R_error (by decide) rfl rfl rfl (Nat.le_of_ble_eq_true rfl) (Nat.le_of_ble_eq_true rfl) ?_
      refine c_R_error2 ?_
      refine V2_topi (fun v5 ev5 => ?_)
      refine V2_ireturn d_R_judge_15 rfl ?_
      have hb0 : 0 ≤ (nI t).toInt ∧ (nI t).toInt < 4 := (by (try clear hQ); (try subst ev5 ev3 ev1); ((try simp only [xb_eq, xb_ne, Int32.lt_iff_toInt_lt, Int32.le_iff_toInt_le] at *) <;> (try simp only [← Int32.toInt_inj, true_and, false_and, or_false, false_or, or_true, true_or, and_true, and_false] at *) <;> omega))
      have e : k_judge F0 (nI t) = (-1000000000 - 2, errF F0 2) := (if_pos hb0).trans (by rw [kt]; exact if_pos hz)
      rw [e] at hQ hM
      subst ev5 ev3 ev1
      exact xQi (hQ _ (rel_err hR hM)) rfl rfl
  · refine V2_iconst (v := 1) d_R_lacks_7 rfl ?_
    refine V2_goto (tgt := 25) d_R_lacks_8 rfl ?_
    refine V2_ireturn d_R_lacks_25 rfl ?_
    refine V2.to (st' := [.int (1 : Int32)]) ?_ rfl rfl rfl rfl
    refine V2_istore_n (i := 2) (l' := [some (.ref 65), some (.int sh), some (.int (1 : Int32)), none, none, none]) d_R_judge_5 rfl (xst_i (Nat.le_of_ble_eq_true rfl) rfl rfl) ?_
    refine V2_iload_n (i := 2) d_R_judge_6 rfl rfl ?_
    refine V2_if_eq (tgt := 16) d_R_judge_7 rfl (fun c => (by first | exact absurd c (by decide) | exact absurd (by decide) c)) (fun _ => ?_)
    refine V2_aload_n (i := 0) d_R_judge_10 rfl rfl ?_
    refine V2_iload_n (i := 2) d_R_judge_11 rfl rfl ?_
    refine V2_callV [.int (1 : Int32)] d_R_judge_12 rfl rfl lk_R_55 mo_R_error (by decide) rfl rfl rfl (Nat.le_of_ble_eq_true rfl) (Nat.le_of_ble_eq_true rfl) ?_
    refine c_R_error1 ?_
    refine V2_topi (fun v6 ev6 => ?_)
    refine V2_ireturn d_R_judge_15 rfl ?_
    have hb0 : ¬ (0 ≤ sh.toInt ∧ sh.toInt < 4) := (by (try clear hQ); (try subst ev6 ev1); ((try simp only [xb_eq, xb_ne, Int32.lt_iff_toInt_lt, Int32.le_iff_toInt_le] at *) <;> (try simp only [← Int32.toInt_inj, true_and, false_and, or_false, false_or, or_true, true_or, and_true, and_false] at *) <;> omega))
    have e : k_judge F0 sh = (-1000000000 - 1, errF F0 1) := if_neg hb0
    rw [e] at hQ hM
    subst ev6 ev1
    exact xQi (hQ _ (rel_err hR hM)) rfl rfl
