/-! plan -/
noncomputable def procP (n : Nat) (S : Nat → Int32) (row : Nat) (s : Int32 × Nat × Int32) : Int32 × Nat × Int32 := if s.1.toInt = -1 ∨ (0 < obR (trN (PN S) n row S) ∧ (s.2.1 = 0 ∨ obR (trN (PN S) n row S) < s.2.1)) ∨ (obR (trN (PN S) n row S) = 0 ∧ s.2.1 = 0 ∧ s.2.2.toInt < (abR (trN (PN S) n row S)).toInt) then (nI row, obR (trN (PN S) n row S), abR (trN (PN S) n row S)) else s
theorem pP_t {n row : Nat} {S : Nat → Int32} {s : Int32 × Nat × Int32} {t : Option Nat × (Nat → Int32)} (e : trN (PN S) n row S = t) (h : s.1.toInt = -1 ∨ (0 < obR t ∧ (s.2.1 = 0 ∨ obR t < s.2.1)) ∨ (obR t = 0 ∧ s.2.1 = 0 ∧ s.2.2.toInt < (abR t).toInt)) : procP n S row s = (nI row, obR t, abR t) := by
  subst e
  exact if_pos h
theorem pP_f {n row : Nat} {S : Nat → Int32} {s : Int32 × Nat × Int32} {t : Option Nat × (Nat → Int32)} (e : trN (PN S) n row S = t) (h : ¬ (s.1.toInt = -1 ∨ (0 < obR t ∧ (s.2.1 = 0 ∨ obR t < s.2.1)) ∨ (obR t = 0 ∧ s.2.1 = 0 ∧ s.2.2.toInt < (abR t).toInt))) : procP n S row s = s := by
  subst e
  exact if_neg h
theorem ob_le {P n row : Nat} {S : Nat → Int32} : obR (trN P n row S) ≤ n := by
  unfold obR
  cases e : (trN P n row S).1 with
  | none => exact Nat.zero_le n
  | some j => exact tr_le _ _ _ j e
def planI (n : Nat) (s : Int32 × Nat × Int32) : Prop := s.2.1 ≤ n ∧ ∃ b, s.1 = nI b ∧ b < 10 ^ n
theorem plan_inv {n : Nat} {S : Nat → Int32} : ∀ (m a : Nat) (s : Int32 × Nat × Int32), a + m ≤ 10 ^ n → planI n s → planI n (blk (procP n S) a m s) := by
  intro m
  induction m with
  | zero => intro a s _ h; exact h
  | succ m ih =>
    intro a s hm h
    refine ih (a + 1) _ (by omega) ?_
    unfold procP
    split
    · exact ⟨ob_le, a, rfl, by omega⟩
    · exact h
noncomputable def planS (F : xF) (n : Nat) : Int32 × Nat × Int32 := blk (procP n (F 66)) 0 (10 ^ n) (-1, 0, 0)
theorem planS_i (F : xF) (n : Nat) : planI n (planS F n) := by
  have hp : 0 < 10 ^ n := Nat.pow_pos (by decide)
  unfold planS
  rw [show 10 ^ n = (10 ^ n - 1) + 1 by omega]
  show planI n (blk (procP n (F 66)) (0 + 1) (10 ^ n - 1) (procP n (F 66) 0 (-1, 0, 0)))
  refine plan_inv _ _ _ (by omega) ?_
  rw [pP_t rfl (Or.inl (by decide))]
  exact ⟨ob_le, 0, rfl, hp⟩
def planA (n : Nat) (s : Int32 × Nat × Int32) (w : Int32) : Int32 := if w.toInt = -2 then nI s.2.1 else if w.toInt = -1 then s.2.2 else nI (s.1.toNatClampNeg / 10 ^ (n - 1 - w.toNatClampNeg) % 10)
noncomputable def k_plan (F : xF) (n w : Int32) : Int32 × xF := if (1 ≤ n.toInt ∧ n.toInt ≤ 4) ∧ -2 ≤ w.toInt ∧ w.toInt ≤ n.toInt - 1 then (if (F 66 5).toInt = 1 then (-1000000000 - 3, errF F 3) else (planA n.toNatClampNeg (planS F n.toNatClampNeg) w, F)) else (-1000000000 - 1, errF F 1)
def planR (n : Nat) (G : xF) (s : Int32 × Nat × Int32) : Prop := s.2.1 ≤ n ∧ ((s.2.1 = 0 ∧ G 36 6 = nI (n + 1)) ∨ (0 < s.2.1 ∧ G 36 6 = nI s.2.1)) ∧ ((s.1.toInt = -1 ∧ s.2.1 = 0 ∧ G 36 7 = -1000) ∨ (¬ s.1.toInt = -1 ∧ G 36 7 = s.2.2 ∧ ∃ b, s.1 = nI b ∧ b < 10 ^ n ∧ ∀ i, i < n → G 41 i = nI (b / 10 ^ (n - 1 - i) % 10)))
theorem planR_st {n : Nat} : stabR (planR n) := by
  intro G G2 s h ha hj
  obtain ⟨h1, h2, h3⟩ := h
  unfold planR
  rw [hj 6 (by decide), hj 7 (by decide)]
  refine ⟨h1, h2, ?_⟩
  rcases h3 with h3 | ⟨h3, h4, b, h5, h6, h7⟩
  · exact Or.inl h3
  · exact Or.inr ⟨h3, h4, b, h5, h6, fun i hi => (congrFun (ha 41 (by omega)) i).trans (h7 i hi)⟩
theorem dig_pad {pre r l n i : Nat} (hn : n = l + 1 + r) : (i ≤ l → pre * 10 ^ r / 10 ^ (n - 1 - i) % 10 = pre / 10 ^ (l - i) % 10) ∧ (l < i → i < n → pre * 10 ^ r / 10 ^ (n - 1 - i) % 10 = 0) := by
  subst hn
  constructor
  · intro hi
    rw [show l + 1 + r - 1 - i = r + (l - i) by omega, Nat.pow_add, ← Nat.div_div_eq_div_mul, Nat.mul_div_cancel _ (Nat.pow_pos (by decide))]
  · intro h1 h2
    rw [show r = (r - (l + 1 + r - 1 - i)) + (l + 1 + r - 1 - i) by omega, Nat.pow_add, ← Nat.mul_assoc]
    rw [show l + 1 + (r - (l + 1 + r - 1 - i) + (l + 1 + r - 1 - i)) - 1 - i = l + 1 + r - 1 - i by omega]
    rw [Nat.mul_div_cancel _ (Nat.pow_pos (by decide)), show r - (l + 1 + r - 1 - i) = (r - (l + 1 + r - 1 - i) - 1) + 1 by omega, Nat.pow_succ, ← Nat.mul_assoc, Nat.mul_mod_left]
theorem nI_nn1 {k : Nat} (h : k ≤ 1000000) : ¬ (nI k).toInt = -1 := by
  rw [nI_toInt (by omega)]
  omega
set_option maxHeartbeats 2000000 in
theorem c_visP_0 {L : Nat} {xs : Nat → Int32} {d : Nat} {Q : Option Value → xF → Prop} {F G : xF} {S T : Nat → Int32} {n pre B : Nat} {bst hi : Int32} (hn : n ≤ 4) (hl : 0 < n) (hx : ctxV F G S T 0 n (0 + 1) pre 43) (hR : planR n G (bst, B, hi)) (hQ : ∀ (G2 : xF) (b : Int32), frV G G2 → ((b = 1 ∧ ¬ T 5 = 1 ∧ 0 + 1 < n ∧ True ∧ planR n G2 (bst, B, hi)) ∨ ((b = 0 ∨ b = 1 ∧ (T 5 = 1 ∨ 0 + 1 = n)) ∧ planR n G2 (blk (procP n S) (pre * 10 ^ (n - (0 + 1))) (10 ^ (n - (0 + 1))) (bst, B, hi)))) → Q (some (.int b)) G2) : V2 L xs (d + 4) m_Rows_goesOn 0 (xEntry [.ref 36, .int (0 : Int32), .ref 43] 3) [] G Q := by
  have q0 : (0 : Int32).toInt = 0 := by decide
  have q1 : (1 : Int32).toInt = 1 := by decide
  have q2 : (2 : Int32).toInt = 2 := by decide
  have q3 : (3 : Int32).toInt = 3 := by decide
  have q4 : (4 : Int32).toInt = 4 := by decide
  have q5 : (5 : Int32).toInt = 5 := by decide
  have q6 : (6 : Int32).toInt = 6 := by decide
  have q7 : (7 : Int32).toInt = 7 := by decide
  have q8 : (8 : Int32).toInt = 8 := by decide
  have q9 : (9 : Int32).toInt = 9 := by decide
  have q10 : (10 : Int32).toInt = 10 := by decide
  have q12 : (12 : Int32).toInt = 12 := by decide
  have q16 : (16 : Int32).toInt = 16 := by decide
  have q20 : (20 : Int32).toInt = 20 := by decide
  have q24 : (24 : Int32).toInt = 24 := by decide
  have q30 : (30 : Int32).toInt = 30 := by decide
  have q32 : (32 : Int32).toInt = 32 := by decide
  have q40 : (40 : Int32).toInt = 40 := by decide
  have q60 : (60 : Int32).toInt = 60 := by decide
  have q69 : (69 : Int32).toInt = 69 := by decide
  have q99 : (99 : Int32).toInt = 99 := by decide
  have q9999 : (9999 : Int32).toInt = 9999 := by decide
  have q274 : (274 : Int32).toInt = 274 := by decide
  have q334 : (334 : Int32).toInt = 334 := by decide
  have hT0 := hx.2.2.2.2.2.2.2.1.1
  have hT2 := hx.2.2.2.2.2.2.2.1.2.2.1
  have s5T := hx.2.2.2.2.2.2.2.1.2.2.2.2.2.1
  have e57 : G 43 7 = T 5 := hx.2.2.2.2.2.1.2.2.2.2.2.2.2
  refine V2.to (l' := [some (.ref 36), some (.int (0 : Int32)), some (.ref 43)]) ?_ rfl rfl rfl rfl
  refine V2_aload_n (i := 0) d_Rows_goesOn_0 rfl rfl ?_
  refine V2_get (v := G 36 4) d_Rows_goesOn_1 fl_Rows_33 (by decide) rfl (by decide) rfl rfl ?_
  refine V2_topi (fun v1 ev1 => ?_)
  have c2 : v1 = 0 := (by subst ev1; exact hx.2.1)
  refine V2_lookup (tgt := 46) d_Rows_goesOn_4 (by decide) (by rw [c2]; first | done | rfl | decide +kernel) rfl ?_
  refine V2_aload_n (i := 0) d_Rows_goesOn_46 rfl rfl ?_
  refine V2_iload_n (i := 1) d_Rows_goesOn_47 rfl rfl ?_
  refine V2_aload_n (i := 2) d_Rows_goesOn_48 rfl rfl ?_
  refine V2_callV [.int (0 : Int32), .ref 43] d_Rows_goesOn_49 rfl rfl lk_Rows_123 mo_Rows_canBeBetter (by decide) rfl rfl rfl (Nat.le_of_ble_eq_true rfl) (Nat.le_of_ble_eq_true rfl) ?_
  refine V2.to (l' := [some (.ref 36), some (.int (0 : Int32)), some (.ref 43), none, none, none, none]) ?_ rfl rfl rfl rfl
  refine V2_iload_n (i := 1) d_Rows_canBeBetter_0 rfl rfl ?_
  refine V2_iconst (v := 1) d_Rows_canBeBetter_1 rfl ?_
  refine V2_iadd d_Rows_canBeBetter_2 ?_
  refine V2_lit (v := 1) (by decide) ?_
  refine V2_istore_n (i := 3) (l' := [some (.ref 36), some (.int (0 : Int32)), some (.ref 43), some (.int (1 : Int32)), none, none, none]) d_Rows_canBeBetter_3 rfl (xst_r (Nat.le_of_ble_eq_true rfl) rfl rfl) ?_
  refine V2_aload_n (i := 2) d_Rows_canBeBetter_4 rfl rfl ?_
  refine V2_get (v := G 43 2) d_Rows_canBeBetter_5 fl_Rows_126 (by decide) rfl (by decide) rfl rfl ?_
  refine V2_topi (fun v3 ev3 => ?_)
  refine V2_aload_n (i := 2) d_Rows_canBeBetter_8 rfl rfl ?_
  refine V2_get (v := G 43 0) d_Rows_canBeBetter_9 fl_Rows_129 (by decide) rfl (by decide) rfl rfl ?_
  refine V2_topi (fun v4 ev4 => ?_)
  refine V2_isub d_Rows_canBeBetter_12 ?_
  refine V2_topi (fun v5 ev5 => ?_)
  refine V2_istore (i := 4) (l' := [some (.ref 36), some (.int (0 : Int32)), some (.ref 43), some (.int (1 : Int32)), some (.int v5), none, none]) d_Rows_canBeBetter_13 (xst_i (Nat.le_of_ble_eq_true rfl) rfl rfl) ?_
  refine V2_aload_n (i := 2) d_Rows_canBeBetter_15 rfl rfl ?_
  refine V2_get (v := G 43 7) d_Rows_canBeBetter_16 fl_Rows_80 (by decide) rfl (by decide) rfl rfl ?_
  refine V2_topi (fun v6 ev6 => ?_)
  refine V2_if_eq (tgt := 34) d_Rows_canBeBetter_19 rfl (fun c7 => ?_) (fun c7 => ?_)
  · refine V2_iconst (v := 0) d_Rows_canBeBetter_34 rfl ?_
    refine V2_istore (i := 5) (l' := [some (.ref 36), some (.int (0 : Int32)), some (.ref 43), some (.int (1 : Int32)), some (.int v5), some (.int (0 : Int32)), none]) d_Rows_canBeBetter_35 (xst_i (Nat.le_of_ble_eq_true rfl) rfl rfl) ?_
    refine V2_aload_n (i := 2) d_Rows_canBeBetter_37 rfl rfl ?_
    refine V2_get (v := G 43 7) d_Rows_canBeBetter_38 fl_Rows_80 (by decide) rfl (by decide) rfl rfl ?_
    refine V2_topi (fun v8 ev8 => ?_)
    refine V2_if_ne (tgt := 76) d_Rows_canBeBetter_41 rfl (fun c9 => ?_) (fun c9 => ?_)
    · refine V2_iconst (v := 0) d_Rows_canBeBetter_76 rfl ?_
      refine V2_istore (i := 6) (l' := [some (.ref 36), some (.int (0 : Int32)), some (.ref 43), some (.int (1 : Int32)), some (.int v5), some (.int (0 : Int32)), some (.int (0 : Int32))]) d_Rows_canBeBetter_77 (xst_i (Nat.le_of_ble_eq_true rfl) rfl rfl) ?_
      refine V2_iload (i := 5) d_Rows_canBeBetter_79 rfl ?_
      refine V2_if_eq (tgt := 89) d_Rows_canBeBetter_81 rfl (fun _ => ?_) (fun c => (by first | exact absurd c (by decide) | exact absurd (by decide) c))
      refine V2_iload (i := 5) d_Rows_canBeBetter_89 rfl ?_
      refine V2_if_ne (tgt := 99) d_Rows_canBeBetter_91 rfl (fun c => (by first | exact absurd c (by decide) | exact absurd (by decide) c)) (fun _ => ?_)
      refine V2_iload (i := 6) d_Rows_canBeBetter_94 rfl ?_
      refine V2_if_eq (tgt := 110) d_Rows_canBeBetter_96 rfl (fun _ => ?_) (fun c => (by first | exact absurd c (by decide) | exact absurd (by decide) c))
      refine V2_iload_n (i := 3) d_Rows_canBeBetter_110 rfl rfl ?_
      refine V2_iconst (v := 1) d_Rows_canBeBetter_111 rfl ?_
      refine V2_iadd d_Rows_canBeBetter_112 ?_
      refine V2_lit (v := 2) (by decide) ?_
      refine V2_aload_n (i := 0) d_Rows_canBeBetter_113 rfl rfl ?_
      refine V2_get (v := G 36 6) d_Rows_canBeBetter_114 fl_Rows_40 (by decide) rfl (by decide) rfl rfl ?_
      refine V2_topi (fun v10 ev10 => ?_)
      refine V2_icmp_ge (tgt := 124) d_Rows_canBeBetter_117 rfl (fun c11 => ?_) (fun c11 => ?_)
      · refine V2_iconst (v := 0) d_Rows_canBeBetter_124 rfl ?_
        refine V2_zreturn d_Rows_canBeBetter_125 rfl (by decide) ?_
        refine V2.to (st' := [.int (0 : Int32)]) ?_ rfl rfl rfl rfl
        refine V2_zreturn d_Rows_goesOn_52 rfl (by decide) ?_
        have hB1 : B ≤ n := hR.1
        have hf : (B = 0 ∧ (G 36 6).toInt = (n : Int) + 1) ∨ (0 < B ∧ (G 36 6).toInt = (B : Int)) := by
          rcases hR.2.1 with ⟨h1, h2⟩ | ⟨h1, h2⟩
          · exact Or.inl ⟨h1, by rw [h2, nI_toInt (by omega)]; omega⟩
          · exact Or.inr ⟨h1, by rw [h2, nI_toInt (by have := hR.1; omega)]⟩
        have hov : (bst.toInt = -1 ∧ B = 0 ∧ (G 36 7).toInt = -1000) ∨ (¬ bst.toInt = -1 ∧ (G 36 7).toInt = hi.toInt) := by
          rcases hR.2.2 with ⟨h1, h2, h3⟩ | ⟨h1, h3, _⟩
          · exact Or.inl ⟨h1, h2, by rw [h3]; decide⟩
          · exact Or.inr ⟨h1, by rw [h3]⟩
        have sA : (T 2 - T 0).toInt = (T 2).toInt - (T 0).toInt := toI_sub (by omega) (by omega) (by omega) (by omega)
        have e2 : G 43 2 = T 2 := hx.2.2.2.2.2.1.2.2.1
        have e0 : G 43 0 = T 0 := hx.2.2.2.2.2.1.1
        have el : G 36 5 = nI n := hx.2.2.1
        have sA2 : (G 43 2 - G 43 0).toInt = (T 2).toInt - (T 0).toInt := by rw [e2, e0]; exact sA
        have nl : (G 36 5).toInt = (n : Int) := by rw [el]; exact nI_toInt (by omega)
        have h5 : ¬ T 5 = 1 := by
          intro h
          have h9 := c7
          subst ev10 ev8 ev6 ev5 ev4 ev3 ev1
          rw [hx.2.2.2.2.2.1.2.2.2.2.2.2.2, h] at h9
          exact absurd h9 (by decide)
        exfalso
        exact (by (try clear hQ); (try subst ev10 ev8 ev6 ev5 ev4 ev3 ev1); ((try simp only [xb_eq, xb_ne, Int32.lt_iff_toInt_lt, Int32.le_iff_toInt_le] at *) <;> (try simp only [← Int32.toInt_inj, true_and, false_and, or_false, false_or, or_true, true_or, and_true, and_false] at *) <;> omega))
      · refine V2_iconst (v := 1) d_Rows_canBeBetter_120 rfl ?_
        refine V2_goto (tgt := 125) d_Rows_canBeBetter_121 rfl ?_
        refine V2_zreturn d_Rows_canBeBetter_125 rfl (by decide) ?_
        refine V2.to (st' := [.int (1 : Int32)]) ?_ rfl rfl rfl rfl
        refine V2_zreturn d_Rows_goesOn_52 rfl (by decide) ?_
        have hB1 : B ≤ n := hR.1
        have hf : (B = 0 ∧ (G 36 6).toInt = (n : Int) + 1) ∨ (0 < B ∧ (G 36 6).toInt = (B : Int)) := by
          rcases hR.2.1 with ⟨h1, h2⟩ | ⟨h1, h2⟩
          · exact Or.inl ⟨h1, by rw [h2, nI_toInt (by omega)]; omega⟩
          · exact Or.inr ⟨h1, by rw [h2, nI_toInt (by have := hR.1; omega)]⟩
        have hov : (bst.toInt = -1 ∧ B = 0 ∧ (G 36 7).toInt = -1000) ∨ (¬ bst.toInt = -1 ∧ (G 36 7).toInt = hi.toInt) := by
          rcases hR.2.2 with ⟨h1, h2, h3⟩ | ⟨h1, h3, _⟩
          · exact Or.inl ⟨h1, h2, by rw [h3]; decide⟩
          · exact Or.inr ⟨h1, by rw [h3]⟩
        have sA : (T 2 - T 0).toInt = (T 2).toInt - (T 0).toInt := toI_sub (by omega) (by omega) (by omega) (by omega)
        have e2 : G 43 2 = T 2 := hx.2.2.2.2.2.1.2.2.1
        have e0 : G 43 0 = T 0 := hx.2.2.2.2.2.1.1
        have el : G 36 5 = nI n := hx.2.2.1
        have sA2 : (G 43 2 - G 43 0).toInt = (T 2).toInt - (T 0).toInt := by rw [e2, e0]; exact sA
        have nl : (G 36 5).toInt = (n : Int) := by rw [el]; exact nI_toInt (by omega)
        have h5 : ¬ T 5 = 1 := by
          intro h
          have h9 := c7
          subst ev10 ev8 ev6 ev5 ev4 ev3 ev1
          rw [hx.2.2.2.2.2.1.2.2.2.2.2.2.2, h] at h9
          exact absurd h9 (by decide)
        exfalso
        exact (by (try clear hQ); (try subst ev10 ev8 ev6 ev5 ev4 ev3 ev1); ((try simp only [xb_eq, xb_ne, Int32.lt_iff_toInt_lt, Int32.le_iff_toInt_le] at *) <;> (try simp only [← Int32.toInt_inj, true_and, false_and, or_false, false_or, or_true, true_or, and_true, and_false] at *) <;> omega))
    · refine V2_iload_n (i := 3) d_Rows_canBeBetter_44 rfl rfl ?_
      refine V2_aload_n (i := 0) d_Rows_canBeBetter_45 rfl rfl ?_
      refine V2_get (v := G 36 5) d_Rows_canBeBetter_46 fl_Rows_37 (by decide) rfl (by decide) rfl rfl ?_
      refine V2_topi (fun v12 ev12 => ?_)
      refine V2_icmp_ne (tgt := 76) d_Rows_canBeBetter_49 rfl (fun c13 => ?_) (fun c13 => ?_)
      · refine V2_iconst (v := 0) d_Rows_canBeBetter_76 rfl ?_
        refine V2_istore (i := 6) (l' := [some (.ref 36), some (.int (0 : Int32)), some (.ref 43), some (.int (1 : Int32)), some (.int v5), some (.int (0 : Int32)), some (.int (0 : Int32))]) d_Rows_canBeBetter_77 (xst_i (Nat.le_of_ble_eq_true rfl) rfl rfl) ?_
        refine V2_iload (i := 5) d_Rows_canBeBetter_79 rfl ?_
        refine V2_if_eq (tgt := 89) d_Rows_canBeBetter_81 rfl (fun _ => ?_) (fun c => (by first | exact absurd c (by decide) | exact absurd (by decide) c))
        refine V2_iload (i := 5) d_Rows_canBeBetter_89 rfl ?_
        refine V2_if_ne (tgt := 99) d_Rows_canBeBetter_91 rfl (fun c => (by first | exact absurd c (by decide) | exact absurd (by decide) c)) (fun _ => ?_)
        refine V2_iload (i := 6) d_Rows_canBeBetter_94 rfl ?_
        refine V2_if_eq (tgt := 110) d_Rows_canBeBetter_96 rfl (fun _ => ?_) (fun c => (by first | exact absurd c (by decide) | exact absurd (by decide) c))
        refine V2_iload_n (i := 3) d_Rows_canBeBetter_110 rfl rfl ?_
        refine V2_iconst (v := 1) d_Rows_canBeBetter_111 rfl ?_
        refine V2_iadd d_Rows_canBeBetter_112 ?_
        refine V2_lit (v := 2) (by decide) ?_
        refine V2_aload_n (i := 0) d_Rows_canBeBetter_113 rfl rfl ?_
        refine V2_get (v := G 36 6) d_Rows_canBeBetter_114 fl_Rows_40 (by decide) rfl (by decide) rfl rfl ?_
        refine V2_topi (fun v14 ev14 => ?_)
        refine V2_icmp_ge (tgt := 124) d_Rows_canBeBetter_117 rfl (fun c15 => ?_) (fun c15 => ?_)
        · refine V2_iconst (v := 0) d_Rows_canBeBetter_124 rfl ?_
          refine V2_zreturn d_Rows_canBeBetter_125 rfl (by decide) ?_
          refine V2.to (st' := [.int (0 : Int32)]) ?_ rfl rfl rfl rfl
          refine V2_zreturn d_Rows_goesOn_52 rfl (by decide) ?_
          have hB1 : B ≤ n := hR.1
          have hf : (B = 0 ∧ (G 36 6).toInt = (n : Int) + 1) ∨ (0 < B ∧ (G 36 6).toInt = (B : Int)) := by
            rcases hR.2.1 with ⟨h1, h2⟩ | ⟨h1, h2⟩
            · exact Or.inl ⟨h1, by rw [h2, nI_toInt (by omega)]; omega⟩
            · exact Or.inr ⟨h1, by rw [h2, nI_toInt (by have := hR.1; omega)]⟩
          have hov : (bst.toInt = -1 ∧ B = 0 ∧ (G 36 7).toInt = -1000) ∨ (¬ bst.toInt = -1 ∧ (G 36 7).toInt = hi.toInt) := by
            rcases hR.2.2 with ⟨h1, h2, h3⟩ | ⟨h1, h3, _⟩
            · exact Or.inl ⟨h1, h2, by rw [h3]; decide⟩
            · exact Or.inr ⟨h1, by rw [h3]⟩
          have sA : (T 2 - T 0).toInt = (T 2).toInt - (T 0).toInt := toI_sub (by omega) (by omega) (by omega) (by omega)
          have e2 : G 43 2 = T 2 := hx.2.2.2.2.2.1.2.2.1
          have e0 : G 43 0 = T 0 := hx.2.2.2.2.2.1.1
          have el : G 36 5 = nI n := hx.2.2.1
          have sA2 : (G 43 2 - G 43 0).toInt = (T 2).toInt - (T 0).toInt := by rw [e2, e0]; exact sA
          have nl : (G 36 5).toInt = (n : Int) := by rw [el]; exact nI_toInt (by omega)
          have h5 : ¬ T 5 = 1 := by
            intro h
            have h9 := c7
            subst ev14 ev12 ev8 ev6 ev5 ev4 ev3 ev1
            rw [hx.2.2.2.2.2.1.2.2.2.2.2.2.2, h] at h9
            exact absurd h9 (by decide)
          have hrow : ∀ i, pre * 10 ^ (n - (0 + 1)) ≤ i → i < pre * 10 ^ (n - (0 + 1)) + 10 ^ (n - (0 + 1)) → trN (PN S) n i S = ((trN (PN S) (n - (0 + 1)) (i - pre * 10 ^ (n - (0 + 1))) T).1.map (fun j => j + (0 + 1)), (trN (PN S) (n - (0 + 1)) (i - pre * 10 ^ (n - (0 + 1))) T).2) := by
            intro i h1 h2
            have hs := hx.2.2.2.2.2.2.2.2 (i - pre * 10 ^ (n - (0 + 1))) (by omega)
            rw [show pre * 10 ^ (n - (0 + 1)) + (i - pre * 10 ^ (n - (0 + 1))) = i by omega] at hs
            exact hs
          have hln : 0 + 1 < n := (by (try clear hQ); (try subst ev14 ev12 ev8 ev6 ev5 ev4 ev3 ev1); ((try simp only [xb_eq, xb_ne, Int32.lt_iff_toInt_lt, Int32.le_iff_toInt_le] at *) <;> (try simp only [← Int32.toInt_inj, true_and, false_and, or_false, false_or, or_true, true_or, and_true, and_false] at *) <;> omega))
          have hlB : 0 < B ∧ B ≤ 0 + 2 := (by (try clear hQ); (try subst ev14 ev12 ev8 ev6 ev5 ev4 ev3 ev1); ((try simp only [xb_eq, xb_ne, Int32.lt_iff_toInt_lt, Int32.le_iff_toInt_le] at *) <;> (try simp only [← Int32.toInt_inj, true_and, false_and, or_false, false_or, or_true, true_or, and_true, and_false] at *) <;> omega))
          subst ev14 ev12 ev8 ev6 ev5 ev4 ev3 ev1
          refine hQ _ 0 ⟨fun a h1 h2 => ?_, rfl, rfl⟩ (Or.inr ⟨Or.inl rfl, ?_⟩)
          · rfl
          · rw [blk_id _ _ _ _ (fun i h1 h2 => ?_)]
            · exact hR
            · have e1 := hrow i h1 h2
              refine pP_f e1 ?_
              cases eo : (trN (PN S) (n - (0 + 1)) (i - pre * 10 ^ (n - (0 + 1))) T).1 with
              | none =>
                show ¬ (bst.toInt = -1 ∨ (0 < 0 ∧ _) ∨ (0 = 0 ∧ B = 0 ∧ _))
                omega
              | some j =>
                have hj := tr_pos h5 eo
                show ¬ (bst.toInt = -1 ∨ (0 < j + (0 + 1) ∧ (B = 0 ∨ j + (0 + 1) < B)) ∨ (j + (0 + 1) = 0 ∧ _))
                omega
        · refine V2_iconst (v := 1) d_Rows_canBeBetter_120 rfl ?_
          refine V2_goto (tgt := 125) d_Rows_canBeBetter_121 rfl ?_
          refine V2_zreturn d_Rows_canBeBetter_125 rfl (by decide) ?_
          refine V2.to (st' := [.int (1 : Int32)]) ?_ rfl rfl rfl rfl
          refine V2_zreturn d_Rows_goesOn_52 rfl (by decide) ?_
          have hB1 : B ≤ n := hR.1
          have hf : (B = 0 ∧ (G 36 6).toInt = (n : Int) + 1) ∨ (0 < B ∧ (G 36 6).toInt = (B : Int)) := by
            rcases hR.2.1 with ⟨h1, h2⟩ | ⟨h1, h2⟩
            · exact Or.inl ⟨h1, by rw [h2, nI_toInt (by omega)]; omega⟩
            · exact Or.inr ⟨h1, by rw [h2, nI_toInt (by have := hR.1; omega)]⟩
          have hov : (bst.toInt = -1 ∧ B = 0 ∧ (G 36 7).toInt = -1000) ∨ (¬ bst.toInt = -1 ∧ (G 36 7).toInt = hi.toInt) := by
            rcases hR.2.2 with ⟨h1, h2, h3⟩ | ⟨h1, h3, _⟩
            · exact Or.inl ⟨h1, h2, by rw [h3]; decide⟩
            · exact Or.inr ⟨h1, by rw [h3]⟩
          have sA : (T 2 - T 0).toInt = (T 2).toInt - (T 0).toInt := toI_sub (by omega) (by omega) (by omega) (by omega)
          have e2 : G 43 2 = T 2 := hx.2.2.2.2.2.1.2.2.1
          have e0 : G 43 0 = T 0 := hx.2.2.2.2.2.1.1
          have el : G 36 5 = nI n := hx.2.2.1
          have sA2 : (G 43 2 - G 43 0).toInt = (T 2).toInt - (T 0).toInt := by rw [e2, e0]; exact sA
          have nl : (G 36 5).toInt = (n : Int) := by rw [el]; exact nI_toInt (by omega)
          have h5 : ¬ T 5 = 1 := by
            intro h
            have h9 := c7
            subst ev14 ev12 ev8 ev6 ev5 ev4 ev3 ev1
            rw [hx.2.2.2.2.2.1.2.2.2.2.2.2.2, h] at h9
            exact absurd h9 (by decide)
          have hln : 0 + 1 < n := (by (try clear hQ); (try subst ev14 ev12 ev8 ev6 ev5 ev4 ev3 ev1); ((try simp only [xb_eq, xb_ne, Int32.lt_iff_toInt_lt, Int32.le_iff_toInt_le] at *) <;> (try simp only [← Int32.toInt_inj, true_and, false_and, or_false, false_or, or_true, true_or, and_true, and_false] at *) <;> omega))
          subst ev14 ev12 ev8 ev6 ev5 ev4 ev3 ev1
          exact hQ G 1 (frV.refl G) (Or.inl ⟨rfl, h5, hln, trivial, hR⟩)
      · refine V2_aload_n (i := 0) d_Rows_canBeBetter_52 rfl rfl ?_
        refine V2_get (v := G 36 6) d_Rows_canBeBetter_53 fl_Rows_40 (by decide) rfl (by decide) rfl rfl ?_
        refine V2_topi (fun v16 ev16 => ?_)
        refine V2_aload_n (i := 0) d_Rows_canBeBetter_56 rfl rfl ?_
        refine V2_get (v := G 36 5) d_Rows_canBeBetter_57 fl_Rows_37 (by decide) rfl (by decide) rfl rfl ?_
        refine V2_topi (fun v17 ev17 => ?_)
        refine V2_icmp_le (tgt := 76) d_Rows_canBeBetter_60 rfl (fun c18 => ?_) (fun c18 => ?_)
        · refine V2_iconst (v := 0) d_Rows_canBeBetter_76 rfl ?_
          refine V2_istore (i := 6) (l' := [some (.ref 36), some (.int (0 : Int32)), some (.ref 43), some (.int (1 : Int32)), some (.int v5), some (.int (0 : Int32)), some (.int (0 : Int32))]) d_Rows_canBeBetter_77 (xst_i (Nat.le_of_ble_eq_true rfl) rfl rfl) ?_
          refine V2_iload (i := 5) d_Rows_canBeBetter_79 rfl ?_
          refine V2_if_eq (tgt := 89) d_Rows_canBeBetter_81 rfl (fun _ => ?_) (fun c => (by first | exact absurd c (by decide) | exact absurd (by decide) c))
          refine V2_iload (i := 5) d_Rows_canBeBetter_89 rfl ?_
          refine V2_if_ne (tgt := 99) d_Rows_canBeBetter_91 rfl (fun c => (by first | exact absurd c (by decide) | exact absurd (by decide) c)) (fun _ => ?_)
          refine V2_iload (i := 6) d_Rows_canBeBetter_94 rfl ?_
          refine V2_if_eq (tgt := 110) d_Rows_canBeBetter_96 rfl (fun _ => ?_) (fun c => (by first | exact absurd c (by decide) | exact absurd (by decide) c))
          refine V2_iload_n (i := 3) d_Rows_canBeBetter_110 rfl rfl ?_
          refine V2_iconst (v := 1) d_Rows_canBeBetter_111 rfl ?_
          refine V2_iadd d_Rows_canBeBetter_112 ?_
          refine V2_lit (v := 2) (by decide) ?_
          refine V2_aload_n (i := 0) d_Rows_canBeBetter_113 rfl rfl ?_
          refine V2_get (v := G 36 6) d_Rows_canBeBetter_114 fl_Rows_40 (by decide) rfl (by decide) rfl rfl ?_
          refine V2_topi (fun v19 ev19 => ?_)
          refine V2_icmp_ge (tgt := 124) d_Rows_canBeBetter_117 rfl (fun c20 => ?_) (fun c20 => ?_)
          · refine V2_iconst (v := 0) d_Rows_canBeBetter_124 rfl ?_
            refine V2_zreturn d_Rows_canBeBetter_125 rfl (by decide) ?_
            refine V2.to (st' := [.int (0 : Int32)]) ?_ rfl rfl rfl rfl
            refine V2_zreturn d_Rows_goesOn_52 rfl (by decide) ?_
            have hB1 : B ≤ n := hR.1
            have hf : (B = 0 ∧ (G 36 6).toInt = (n : Int) + 1) ∨ (0 < B ∧ (G 36 6).toInt = (B : Int)) := by
              rcases hR.2.1 with ⟨h1, h2⟩ | ⟨h1, h2⟩
              · exact Or.inl ⟨h1, by rw [h2, nI_toInt (by omega)]; omega⟩
              · exact Or.inr ⟨h1, by rw [h2, nI_toInt (by have := hR.1; omega)]⟩
            have hov : (bst.toInt = -1 ∧ B = 0 ∧ (G 36 7).toInt = -1000) ∨ (¬ bst.toInt = -1 ∧ (G 36 7).toInt = hi.toInt) := by
              rcases hR.2.2 with ⟨h1, h2, h3⟩ | ⟨h1, h3, _⟩
              · exact Or.inl ⟨h1, h2, by rw [h3]; decide⟩
              · exact Or.inr ⟨h1, by rw [h3]⟩
            have sA : (T 2 - T 0).toInt = (T 2).toInt - (T 0).toInt := toI_sub (by omega) (by omega) (by omega) (by omega)
            have e2 : G 43 2 = T 2 := hx.2.2.2.2.2.1.2.2.1
            have e0 : G 43 0 = T 0 := hx.2.2.2.2.2.1.1
            have el : G 36 5 = nI n := hx.2.2.1
            have sA2 : (G 43 2 - G 43 0).toInt = (T 2).toInt - (T 0).toInt := by rw [e2, e0]; exact sA
            have nl : (G 36 5).toInt = (n : Int) := by rw [el]; exact nI_toInt (by omega)
            have h5 : ¬ T 5 = 1 := by
              intro h
              have h9 := c7
              subst ev19 ev17 ev16 ev12 ev8 ev6 ev5 ev4 ev3 ev1
              rw [hx.2.2.2.2.2.1.2.2.2.2.2.2.2, h] at h9
              exact absurd h9 (by decide)
            have hln : n = 0 + 1 := (by (try clear hQ); (try subst ev19 ev17 ev16 ev12 ev8 ev6 ev5 ev4 ev3 ev1); ((try simp only [xb_eq, xb_ne, Int32.lt_iff_toInt_lt, Int32.le_iff_toInt_le] at *) <;> (try simp only [← Int32.toInt_inj, true_and, false_and, or_false, false_or, or_true, true_or, and_true, and_false] at *) <;> omega))
            subst hln
            have e1 := hx.2.2.2.2.2.2.2.2 0 (Nat.pow_pos (by decide))
            rw [Nat.sub_self, Nat.pow_zero, Nat.mul_one, Nat.add_zero pre, tr_0 h5] at e1
            have hab : abR ((none : Option Nat).map (fun j => j + (0 + 1)), T) = T 2 - T 0 := rfl
            have hno : ¬ (bst.toInt = -1 ∨ (B = 0 ∧ hi.toInt < (T 2 - T 0).toInt)) := (by (try clear hQ); (try subst ev19 ev17 ev16 ev12 ev8 ev6 ev5 ev4 ev3 ev1); ((try simp only [xb_eq, xb_ne, Int32.lt_iff_toInt_lt, Int32.le_iff_toInt_le] at *) <;> (try simp only [← Int32.toInt_inj, true_and, false_and, or_false, false_or, or_true, true_or, and_true, and_false] at *) <;> omega))
            subst ev19 ev17 ev16 ev12 ev8 ev6 ev5 ev4 ev3 ev1
            refine hQ _ 0 ⟨fun a h1 h2 => ?_, rfl, rfl⟩ (Or.inr ⟨Or.inl rfl, ?_⟩)
            · rfl
            · rw [Nat.sub_self, Nat.pow_zero, Nat.mul_one, blk_1, pP_f e1 (show ¬ (_ ∨ _) from ?_)]
              · exact hR
              · show ¬ (bst.toInt = -1 ∨ (0 < 0 ∧ _) ∨ (0 = 0 ∧ B = 0 ∧ hi.toInt < (T 2 - T 0).toInt))
                omega
          · refine V2_iconst (v := 1) d_Rows_canBeBetter_120 rfl ?_
            refine V2_goto (tgt := 125) d_Rows_canBeBetter_121 rfl ?_
            refine V2_zreturn d_Rows_canBeBetter_125 rfl (by decide) ?_
            refine V2.to (st' := [.int (1 : Int32)]) ?_ rfl rfl rfl rfl
            refine V2_zreturn d_Rows_goesOn_52 rfl (by decide) ?_
            have hB1 : B ≤ n := hR.1
            have hf : (B = 0 ∧ (G 36 6).toInt = (n : Int) + 1) ∨ (0 < B ∧ (G 36 6).toInt = (B : Int)) := by
              rcases hR.2.1 with ⟨h1, h2⟩ | ⟨h1, h2⟩
              · exact Or.inl ⟨h1, by rw [h2, nI_toInt (by omega)]; omega⟩
              · exact Or.inr ⟨h1, by rw [h2, nI_toInt (by have := hR.1; omega)]⟩
            have hov : (bst.toInt = -1 ∧ B = 0 ∧ (G 36 7).toInt = -1000) ∨ (¬ bst.toInt = -1 ∧ (G 36 7).toInt = hi.toInt) := by
              rcases hR.2.2 with ⟨h1, h2, h3⟩ | ⟨h1, h3, _⟩
              · exact Or.inl ⟨h1, h2, by rw [h3]; decide⟩
              · exact Or.inr ⟨h1, by rw [h3]⟩
            have sA : (T 2 - T 0).toInt = (T 2).toInt - (T 0).toInt := toI_sub (by omega) (by omega) (by omega) (by omega)
            have e2 : G 43 2 = T 2 := hx.2.2.2.2.2.1.2.2.1
            have e0 : G 43 0 = T 0 := hx.2.2.2.2.2.1.1
            have el : G 36 5 = nI n := hx.2.2.1
            have sA2 : (G 43 2 - G 43 0).toInt = (T 2).toInt - (T 0).toInt := by rw [e2, e0]; exact sA
            have nl : (G 36 5).toInt = (n : Int) := by rw [el]; exact nI_toInt (by omega)
            have h5 : ¬ T 5 = 1 := by
              intro h
              have h9 := c7
              subst ev19 ev17 ev16 ev12 ev8 ev6 ev5 ev4 ev3 ev1
              rw [hx.2.2.2.2.2.1.2.2.2.2.2.2.2, h] at h9
              exact absurd h9 (by decide)
            exfalso
            exact (by (try clear hQ); (try subst ev19 ev17 ev16 ev12 ev8 ev6 ev5 ev4 ev3 ev1); ((try simp only [xb_eq, xb_ne, Int32.lt_iff_toInt_lt, Int32.le_iff_toInt_le] at *) <;> (try simp only [← Int32.toInt_inj, true_and, false_and, or_false, false_or, or_true, true_or, and_true, and_false] at *) <;> omega))
        · refine V2_iload (i := 4) d_Rows_canBeBetter_63 rfl ?_
          refine V2_aload_n (i := 0) d_Rows_canBeBetter_65 rfl rfl ?_
          refine V2_get (v := G 36 7) d_Rows_canBeBetter_66 fl_Rows_43 (by decide) rfl (by decide) rfl rfl ?_
          refine V2_topi (fun v21 ev21 => ?_)
          refine V2_icmp_le (tgt := 76) d_Rows_canBeBetter_69 rfl (fun c22 => ?_) (fun c22 => ?_)
          · refine V2_iconst (v := 0) d_Rows_canBeBetter_76 rfl ?_
            refine V2_istore (i := 6) (l' := [some (.ref 36), some (.int (0 : Int32)), some (.ref 43), some (.int (1 : Int32)), some (.int v5), some (.int (0 : Int32)), some (.int (0 : Int32))]) d_Rows_canBeBetter_77 (xst_i (Nat.le_of_ble_eq_true rfl) rfl rfl) ?_
            refine V2_iload (i := 5) d_Rows_canBeBetter_79 rfl ?_
            refine V2_if_eq (tgt := 89) d_Rows_canBeBetter_81 rfl (fun _ => ?_) (fun c => (by first | exact absurd c (by decide) | exact absurd (by decide) c))
            refine V2_iload (i := 5) d_Rows_canBeBetter_89 rfl ?_
            refine V2_if_ne (tgt := 99) d_Rows_canBeBetter_91 rfl (fun c => (by first | exact absurd c (by decide) | exact absurd (by decide) c)) (fun _ => ?_)
            refine V2_iload (i := 6) d_Rows_canBeBetter_94 rfl ?_
            refine V2_if_eq (tgt := 110) d_Rows_canBeBetter_96 rfl (fun _ => ?_) (fun c => (by first | exact absurd c (by decide) | exact absurd (by decide) c))
            refine V2_iload_n (i := 3) d_Rows_canBeBetter_110 rfl rfl ?_
            refine V2_iconst (v := 1) d_Rows_canBeBetter_111 rfl ?_
            refine V2_iadd d_Rows_canBeBetter_112 ?_
            refine V2_lit (v := 2) (by decide) ?_
            refine V2_aload_n (i := 0) d_Rows_canBeBetter_113 rfl rfl ?_
            refine V2_get (v := G 36 6) d_Rows_canBeBetter_114 fl_Rows_40 (by decide) rfl (by decide) rfl rfl ?_
            refine V2_topi (fun v23 ev23 => ?_)
            refine V2_icmp_ge (tgt := 124) d_Rows_canBeBetter_117 rfl (fun c24 => ?_) (fun c24 => ?_)
            · refine V2_iconst (v := 0) d_Rows_canBeBetter_124 rfl ?_
              refine V2_zreturn d_Rows_canBeBetter_125 rfl (by decide) ?_
              refine V2.to (st' := [.int (0 : Int32)]) ?_ rfl rfl rfl rfl
              refine V2_zreturn d_Rows_goesOn_52 rfl (by decide) ?_
              have hB1 : B ≤ n := hR.1
              have hf : (B = 0 ∧ (G 36 6).toInt = (n : Int) + 1) ∨ (0 < B ∧ (G 36 6).toInt = (B : Int)) := by
                rcases hR.2.1 with ⟨h1, h2⟩ | ⟨h1, h2⟩
                · exact Or.inl ⟨h1, by rw [h2, nI_toInt (by omega)]; omega⟩
                · exact Or.inr ⟨h1, by rw [h2, nI_toInt (by have := hR.1; omega)]⟩
              have hov : (bst.toInt = -1 ∧ B = 0 ∧ (G 36 7).toInt = -1000) ∨ (¬ bst.toInt = -1 ∧ (G 36 7).toInt = hi.toInt) := by
                rcases hR.2.2 with ⟨h1, h2, h3⟩ | ⟨h1, h3, _⟩
                · exact Or.inl ⟨h1, h2, by rw [h3]; decide⟩
                · exact Or.inr ⟨h1, by rw [h3]⟩
              have sA : (T 2 - T 0).toInt = (T 2).toInt - (T 0).toInt := toI_sub (by omega) (by omega) (by omega) (by omega)
              have e2 : G 43 2 = T 2 := hx.2.2.2.2.2.1.2.2.1
              have e0 : G 43 0 = T 0 := hx.2.2.2.2.2.1.1
              have el : G 36 5 = nI n := hx.2.2.1
              have sA2 : (G 43 2 - G 43 0).toInt = (T 2).toInt - (T 0).toInt := by rw [e2, e0]; exact sA
              have nl : (G 36 5).toInt = (n : Int) := by rw [el]; exact nI_toInt (by omega)
              have h5 : ¬ T 5 = 1 := by
                intro h
                have h9 := c7
                subst ev23 ev21 ev17 ev16 ev12 ev8 ev6 ev5 ev4 ev3 ev1
                rw [hx.2.2.2.2.2.1.2.2.2.2.2.2.2, h] at h9
                exact absurd h9 (by decide)
              have hln : n = 0 + 1 := (by (try clear hQ); (try subst ev23 ev21 ev17 ev16 ev12 ev8 ev6 ev5 ev4 ev3 ev1); ((try simp only [xb_eq, xb_ne, Int32.lt_iff_toInt_lt, Int32.le_iff_toInt_le] at *) <;> (try simp only [← Int32.toInt_inj, true_and, false_and, or_false, false_or, or_true, true_or, and_true, and_false] at *) <;> omega))
              subst hln
              have e1 := hx.2.2.2.2.2.2.2.2 0 (Nat.pow_pos (by decide))
              rw [Nat.sub_self, Nat.pow_zero, Nat.mul_one, Nat.add_zero pre, tr_0 h5] at e1
              have hab : abR ((none : Option Nat).map (fun j => j + (0 + 1)), T) = T 2 - T 0 := rfl
              have hno : ¬ (bst.toInt = -1 ∨ (B = 0 ∧ hi.toInt < (T 2 - T 0).toInt)) := (by (try clear hQ); (try subst ev23 ev21 ev17 ev16 ev12 ev8 ev6 ev5 ev4 ev3 ev1); ((try simp only [xb_eq, xb_ne, Int32.lt_iff_toInt_lt, Int32.le_iff_toInt_le] at *) <;> (try simp only [← Int32.toInt_inj, true_and, false_and, or_false, false_or, or_true, true_or, and_true, and_false] at *) <;> omega))
              subst ev23 ev21 ev17 ev16 ev12 ev8 ev6 ev5 ev4 ev3 ev1
              refine hQ _ 0 ⟨fun a h1 h2 => ?_, rfl, rfl⟩ (Or.inr ⟨Or.inl rfl, ?_⟩)
              · rfl
              · rw [Nat.sub_self, Nat.pow_zero, Nat.mul_one, blk_1, pP_f e1 (show ¬ (_ ∨ _) from ?_)]
                · exact hR
                · show ¬ (bst.toInt = -1 ∨ (0 < 0 ∧ _) ∨ (0 = 0 ∧ B = 0 ∧ hi.toInt < (T 2 - T 0).toInt))
                  omega
            · refine V2_iconst (v := 1) d_Rows_canBeBetter_120 rfl ?_
              refine V2_goto (tgt := 125) d_Rows_canBeBetter_121 rfl ?_
              refine V2_zreturn d_Rows_canBeBetter_125 rfl (by decide) ?_
              refine V2.to (st' := [.int (1 : Int32)]) ?_ rfl rfl rfl rfl
              refine V2_zreturn d_Rows_goesOn_52 rfl (by decide) ?_
              have hB1 : B ≤ n := hR.1
              have hf : (B = 0 ∧ (G 36 6).toInt = (n : Int) + 1) ∨ (0 < B ∧ (G 36 6).toInt = (B : Int)) := by
                rcases hR.2.1 with ⟨h1, h2⟩ | ⟨h1, h2⟩
                · exact Or.inl ⟨h1, by rw [h2, nI_toInt (by omega)]; omega⟩
                · exact Or.inr ⟨h1, by rw [h2, nI_toInt (by have := hR.1; omega)]⟩
              have hov : (bst.toInt = -1 ∧ B = 0 ∧ (G 36 7).toInt = -1000) ∨ (¬ bst.toInt = -1 ∧ (G 36 7).toInt = hi.toInt) := by
                rcases hR.2.2 with ⟨h1, h2, h3⟩ | ⟨h1, h3, _⟩
                · exact Or.inl ⟨h1, h2, by rw [h3]; decide⟩
                · exact Or.inr ⟨h1, by rw [h3]⟩
              have sA : (T 2 - T 0).toInt = (T 2).toInt - (T 0).toInt := toI_sub (by omega) (by omega) (by omega) (by omega)
              have e2 : G 43 2 = T 2 := hx.2.2.2.2.2.1.2.2.1
              have e0 : G 43 0 = T 0 := hx.2.2.2.2.2.1.1
              have el : G 36 5 = nI n := hx.2.2.1
              have sA2 : (G 43 2 - G 43 0).toInt = (T 2).toInt - (T 0).toInt := by rw [e2, e0]; exact sA
              have nl : (G 36 5).toInt = (n : Int) := by rw [el]; exact nI_toInt (by omega)
              have h5 : ¬ T 5 = 1 := by
                intro h
                have h9 := c7
                subst ev23 ev21 ev17 ev16 ev12 ev8 ev6 ev5 ev4 ev3 ev1
                rw [hx.2.2.2.2.2.1.2.2.2.2.2.2.2, h] at h9
                exact absurd h9 (by decide)
              exfalso
              exact (by (try clear hQ); (try subst ev23 ev21 ev17 ev16 ev12 ev8 ev6 ev5 ev4 ev3 ev1); ((try simp only [xb_eq, xb_ne, Int32.lt_iff_toInt_lt, Int32.le_iff_toInt_le] at *) <;> (try simp only [← Int32.toInt_inj, true_and, false_and, or_false, false_or, or_true, true_or, and_true, and_false] at *) <;> omega))
          · refine V2_iconst (v := 1) d_Rows_canBeBetter_72 rfl ?_
            refine V2_goto (tgt := 77) d_Rows_canBeBetter_73 rfl ?_
            refine V2_istore (i := 6) (l' := [some (.ref 36), some (.int (0 : Int32)), some (.ref 43), some (.int (1 : Int32)), some (.int v5), some (.int (0 : Int32)), some (.int (1 : Int32))]) d_Rows_canBeBetter_77 (xst_i (Nat.le_of_ble_eq_true rfl) rfl rfl) ?_
            refine V2_iload (i := 5) d_Rows_canBeBetter_79 rfl ?_
            refine V2_if_eq (tgt := 89) d_Rows_canBeBetter_81 rfl (fun _ => ?_) (fun c => (by first | exact absurd c (by decide) | exact absurd (by decide) c))
            refine V2_iload (i := 5) d_Rows_canBeBetter_89 rfl ?_
            refine V2_if_ne (tgt := 99) d_Rows_canBeBetter_91 rfl (fun c => (by first | exact absurd c (by decide) | exact absurd (by decide) c)) (fun _ => ?_)
            refine V2_iload (i := 6) d_Rows_canBeBetter_94 rfl ?_
            refine V2_if_eq (tgt := 110) d_Rows_canBeBetter_96 rfl (fun c => (by first | exact absurd c (by decide) | exact absurd (by decide) c)) (fun _ => ?_)
            refine V2_aload_n (i := 0) d_Rows_canBeBetter_99 rfl rfl ?_
            refine V2_iload (i := 4) d_Rows_canBeBetter_100 rfl ?_
            refine V2_put d_Rows_canBeBetter_102 fl_Rows_43 (by decide) rfl (by decide) rfl ?_
            refine V2_aload_n (i := 0) d_Rows_canBeBetter_105 rfl rfl ?_
            refine V2_iload_n (i := 1) d_Rows_canBeBetter_106 rfl rfl ?_
            refine V2_callV [.int (0 : Int32)] d_Rows_canBeBetter_107 rfl rfl lk_Rows_132 mo_Rows_keep (by decide) rfl rfl rfl (Nat.le_of_ble_eq_true rfl) (Nat.le_of_ble_eq_true rfl) ?_
            refine V2.to (l' := [some (.ref 36), some (.int (0 : Int32)), none]) ?_ rfl rfl rfl rfl
            refine V2_iconst (v := 0) d_Rows_keep_0 rfl ?_
            refine V2_istore_n (i := 2) (l' := [some (.ref 36), some (.int (0 : Int32)), some (.int (0 : Int32))]) d_Rows_keep_1 rfl (xst_i (Nat.le_of_ble_eq_true rfl) rfl rfl) ?_
            refine V2_iload_n (i := 2) d_Rows_keep_2 rfl rfl ?_
            refine V2_aload_n (i := 0) d_Rows_keep_3 rfl rfl ?_
            refine V2_getr (a := 40) d_Rows_keep_4 fl_Rows_26 (by decide) rfl (by decide) rfl ?_
            refine V2_alen (t := 0) (v := 4) d_Rows_keep_7 (by decide) rfl (by decide) rfl ?_
            refine V2_icmp_ge (tgt := 47) d_Rows_keep_8 rfl (fun c => (by first | exact absurd c (by decide) | exact absurd (by decide) c)) (fun _ => ?_)
            refine V2_iload_n (i := 2) d_Rows_keep_11 rfl rfl ?_
            refine V2_aload_n (i := 0) d_Rows_keep_12 rfl rfl ?_
            refine V2_getr (a := 41) d_Rows_keep_13 fl_Rows_30 (by decide) rfl (by decide) rfl ?_
            refine V2_alen (t := 0) (v := 4) d_Rows_keep_16 (by decide) rfl (by decide) rfl ?_
            refine V2_icmp_ge (tgt := 47) d_Rows_keep_17 rfl (fun c => (by first | exact absurd c (by decide) | exact absurd (by decide) c)) (fun _ => ?_)
            refine V2_aload_n (i := 0) d_Rows_keep_20 rfl rfl ?_
            refine V2_getr (a := 41) d_Rows_keep_21 fl_Rows_30 (by decide) rfl (by decide) rfl ?_
            refine V2_iload_n (i := 2) d_Rows_keep_24 rfl rfl ?_
            refine V2_iload_n (i := 2) d_Rows_keep_25 rfl rfl ?_
            refine V2_iload_n (i := 1) d_Rows_keep_26 rfl rfl ?_
            refine V2_icmp_gt (tgt := 39) d_Rows_keep_27 rfl (fun c => (by first | exact absurd c (by decide) | exact absurd (by decide) c)) (fun _ => ?_)
            refine V2_aload_n (i := 0) d_Rows_keep_30 rfl rfl ?_
            refine V2_getr (a := 40) d_Rows_keep_31 fl_Rows_26 (by decide) rfl (by decide) rfl ?_
            refine V2_iload_n (i := 2) d_Rows_keep_34 rfl rfl ?_
            refine V2_iaload (v := G 40 0) d_Rows_keep_35 (by decide) rfl (xixA (n := 0) rfl (by decide) (by decide)) rfl ?_
            refine V2_topi (fun v25 ev25 => ?_)
            refine V2_goto (tgt := 40) d_Rows_keep_36 rfl ?_
            refine V2_iastore (j := 0) d_Rows_keep_40 (by decide) rfl (xixA (n := 0) rfl (by decide) (by decide)) rfl ?_
            refine V2_iinc (i := 2) (v := 1) (l' := [some (.ref 36), some (.int (0 : Int32)), some (.int (1 : Int32))]) d_Rows_keep_41 rfl (by decide) (xst_i (Nat.le_of_ble_eq_true rfl) rfl rfl) ?_
            refine V2_goto (tgt := 2) d_Rows_keep_44 rfl ?_
            refine V2_iload_n (i := 2) d_Rows_keep_2 rfl rfl ?_
            refine V2_aload_n (i := 0) d_Rows_keep_3 rfl rfl ?_
            refine V2_getr (a := 40) d_Rows_keep_4 fl_Rows_26 (by decide) rfl (by decide) rfl ?_
            refine V2_alen (t := 0) (v := 4) d_Rows_keep_7 (by decide) rfl (by decide) rfl ?_
            refine V2_icmp_ge (tgt := 47) d_Rows_keep_8 rfl (fun c => (by first | exact absurd c (by decide) | exact absurd (by decide) c)) (fun _ => ?_)
            refine V2_iload_n (i := 2) d_Rows_keep_11 rfl rfl ?_
            refine V2_aload_n (i := 0) d_Rows_keep_12 rfl rfl ?_
            refine V2_getr (a := 41) d_Rows_keep_13 fl_Rows_30 (by decide) rfl (by decide) rfl ?_
            refine V2_alen (t := 0) (v := 4) d_Rows_keep_16 (by decide) rfl (by decide) rfl ?_
            refine V2_icmp_ge (tgt := 47) d_Rows_keep_17 rfl (fun c => (by first | exact absurd c (by decide) | exact absurd (by decide) c)) (fun _ => ?_)
            refine V2_aload_n (i := 0) d_Rows_keep_20 rfl rfl ?_
            refine V2_getr (a := 41) d_Rows_keep_21 fl_Rows_30 (by decide) rfl (by decide) rfl ?_
            refine V2_iload_n (i := 2) d_Rows_keep_24 rfl rfl ?_
            refine V2_iload_n (i := 2) d_Rows_keep_25 rfl rfl ?_
            refine V2_iload_n (i := 1) d_Rows_keep_26 rfl rfl ?_
            refine V2_icmp_gt (tgt := 39) d_Rows_keep_27 rfl (fun _ => ?_) (fun c => (by first | exact absurd c (by decide) | exact absurd (by decide) c))
            refine V2_iconst (v := 0) d_Rows_keep_39 rfl ?_
            refine V2_iastore (j := 1) d_Rows_keep_40 (by decide) rfl (xixA (n := 1) rfl (by decide) (by decide)) rfl ?_
            refine V2_iinc (i := 2) (v := 2) (l' := [some (.ref 36), some (.int (0 : Int32)), some (.int (2 : Int32))]) d_Rows_keep_41 rfl (by decide) (xst_i (Nat.le_of_ble_eq_true rfl) rfl rfl) ?_
            refine V2_goto (tgt := 2) d_Rows_keep_44 rfl ?_
            refine V2_iload_n (i := 2) d_Rows_keep_2 rfl rfl ?_
            refine V2_aload_n (i := 0) d_Rows_keep_3 rfl rfl ?_
            refine V2_getr (a := 40) d_Rows_keep_4 fl_Rows_26 (by decide) rfl (by decide) rfl ?_
            refine V2_alen (t := 0) (v := 4) d_Rows_keep_7 (by decide) rfl (by decide) rfl ?_
            refine V2_icmp_ge (tgt := 47) d_Rows_keep_8 rfl (fun c => (by first | exact absurd c (by decide) | exact absurd (by decide) c)) (fun _ => ?_)
            refine V2_iload_n (i := 2) d_Rows_keep_11 rfl rfl ?_
            refine V2_aload_n (i := 0) d_Rows_keep_12 rfl rfl ?_
            refine V2_getr (a := 41) d_Rows_keep_13 fl_Rows_30 (by decide) rfl (by decide) rfl ?_
            refine V2_alen (t := 0) (v := 4) d_Rows_keep_16 (by decide) rfl (by decide) rfl ?_
            refine V2_icmp_ge (tgt := 47) d_Rows_keep_17 rfl (fun c => (by first | exact absurd c (by decide) | exact absurd (by decide) c)) (fun _ => ?_)
            refine V2_aload_n (i := 0) d_Rows_keep_20 rfl rfl ?_
            refine V2_getr (a := 41) d_Rows_keep_21 fl_Rows_30 (by decide) rfl (by decide) rfl ?_
            refine V2_iload_n (i := 2) d_Rows_keep_24 rfl rfl ?_
            refine V2_iload_n (i := 2) d_Rows_keep_25 rfl rfl ?_
            refine V2_iload_n (i := 1) d_Rows_keep_26 rfl rfl ?_
            refine V2_icmp_gt (tgt := 39) d_Rows_keep_27 rfl (fun _ => ?_) (fun c => (by first | exact absurd c (by decide) | exact absurd (by decide) c))
            refine V2_iconst (v := 0) d_Rows_keep_39 rfl ?_
            refine V2_iastore (j := 2) d_Rows_keep_40 (by decide) rfl (xixA (n := 2) rfl (by decide) (by decide)) rfl ?_
            refine V2_iinc (i := 2) (v := 3) (l' := [some (.ref 36), some (.int (0 : Int32)), some (.int (3 : Int32))]) d_Rows_keep_41 rfl (by decide) (xst_i (Nat.le_of_ble_eq_true rfl) rfl rfl) ?_
            refine V2_goto (tgt := 2) d_Rows_keep_44 rfl ?_
            refine V2_iload_n (i := 2) d_Rows_keep_2 rfl rfl ?_
            refine V2_aload_n (i := 0) d_Rows_keep_3 rfl rfl ?_
            refine V2_getr (a := 40) d_Rows_keep_4 fl_Rows_26 (by decide) rfl (by decide) rfl ?_
            refine V2_alen (t := 0) (v := 4) d_Rows_keep_7 (by decide) rfl (by decide) rfl ?_
            refine V2_icmp_ge (tgt := 47) d_Rows_keep_8 rfl (fun c => (by first | exact absurd c (by decide) | exact absurd (by decide) c)) (fun _ => ?_)
            refine V2_iload_n (i := 2) d_Rows_keep_11 rfl rfl ?_
            refine V2_aload_n (i := 0) d_Rows_keep_12 rfl rfl ?_
            refine V2_getr (a := 41) d_Rows_keep_13 fl_Rows_30 (by decide) rfl (by decide) rfl ?_
            refine V2_alen (t := 0) (v := 4) d_Rows_keep_16 (by decide) rfl (by decide) rfl ?_
            refine V2_icmp_ge (tgt := 47) d_Rows_keep_17 rfl (fun c => (by first | exact absurd c (by decide) | exact absurd (by decide) c)) (fun _ => ?_)
            refine V2_aload_n (i := 0) d_Rows_keep_20 rfl rfl ?_
            refine V2_getr (a := 41) d_Rows_keep_21 fl_Rows_30 (by decide) rfl (by decide) rfl ?_
            refine V2_iload_n (i := 2) d_Rows_keep_24 rfl rfl ?_
            refine V2_iload_n (i := 2) d_Rows_keep_25 rfl rfl ?_
            refine V2_iload_n (i := 1) d_Rows_keep_26 rfl rfl ?_
            refine V2_icmp_gt (tgt := 39) d_Rows_keep_27 rfl (fun _ => ?_) (fun c => (by first | exact absurd c (by decide) | exact absurd (by decide) c))
            refine V2_iconst (v := 0) d_Rows_keep_39 rfl ?_
            refine V2_iastore (j := 3) d_Rows_keep_40 (by decide) rfl (xixA (n := 3) rfl (by decide) (by decide)) rfl ?_
            refine V2_iinc (i := 2) (v := 4) (l' := [some (.ref 36), some (.int (0 : Int32)), some (.int (4 : Int32))]) d_Rows_keep_41 rfl (by decide) (xst_i (Nat.le_of_ble_eq_true rfl) rfl rfl) ?_
            refine V2_goto (tgt := 2) d_Rows_keep_44 rfl ?_
            refine V2_iload_n (i := 2) d_Rows_keep_2 rfl rfl ?_
            refine V2_aload_n (i := 0) d_Rows_keep_3 rfl rfl ?_
            refine V2_getr (a := 40) d_Rows_keep_4 fl_Rows_26 (by decide) rfl (by decide) rfl ?_
            refine V2_alen (t := 0) (v := 4) d_Rows_keep_7 (by decide) rfl (by decide) rfl ?_
            refine V2_icmp_ge (tgt := 47) d_Rows_keep_8 rfl (fun _ => ?_) (fun c => (by first | exact absurd c (by decide) | exact absurd (by decide) c))
            refine V2_return d_Rows_keep_47 rfl ?_
            refine V2.to (st' := []) ?_ rfl rfl rfl rfl
            refine V2_iload_n (i := 3) d_Rows_canBeBetter_110 rfl rfl ?_
            refine V2_iconst (v := 1) d_Rows_canBeBetter_111 rfl ?_
            refine V2_iadd d_Rows_canBeBetter_112 ?_
            refine V2_lit (v := 2) (by decide) ?_
            refine V2_aload_n (i := 0) d_Rows_canBeBetter_113 rfl rfl ?_
            refine V2_get (v := G 36 6) d_Rows_canBeBetter_114 fl_Rows_40 (by decide) rfl (by decide) rfl rfl ?_
            refine V2_topi (fun v30 ev30 => ?_)
            refine V2_icmp_ge (tgt := 124) d_Rows_canBeBetter_117 rfl (fun c31 => ?_) (fun c31 => ?_)
            · refine V2_iconst (v := 0) d_Rows_canBeBetter_124 rfl ?_
              refine V2_zreturn d_Rows_canBeBetter_125 rfl (by decide) ?_
              refine V2.to (st' := [.int (0 : Int32)]) ?_ rfl rfl rfl rfl
              refine V2_zreturn d_Rows_goesOn_52 rfl (by decide) ?_
              have hB1 : B ≤ n := hR.1
              have hf : (B = 0 ∧ (G 36 6).toInt = (n : Int) + 1) ∨ (0 < B ∧ (G 36 6).toInt = (B : Int)) := by
                rcases hR.2.1 with ⟨h1, h2⟩ | ⟨h1, h2⟩
                · exact Or.inl ⟨h1, by rw [h2, nI_toInt (by omega)]; omega⟩
                · exact Or.inr ⟨h1, by rw [h2, nI_toInt (by have := hR.1; omega)]⟩
              have hov : (bst.toInt = -1 ∧ B = 0 ∧ (G 36 7).toInt = -1000) ∨ (¬ bst.toInt = -1 ∧ (G 36 7).toInt = hi.toInt) := by
                rcases hR.2.2 with ⟨h1, h2, h3⟩ | ⟨h1, h3, _⟩
                · exact Or.inl ⟨h1, h2, by rw [h3]; decide⟩
                · exact Or.inr ⟨h1, by rw [h3]⟩
              have sA : (T 2 - T 0).toInt = (T 2).toInt - (T 0).toInt := toI_sub (by omega) (by omega) (by omega) (by omega)
              have e2 : G 43 2 = T 2 := hx.2.2.2.2.2.1.2.2.1
              have e0 : G 43 0 = T 0 := hx.2.2.2.2.2.1.1
              have el : G 36 5 = nI n := hx.2.2.1
              have sA2 : (G 43 2 - G 43 0).toInt = (T 2).toInt - (T 0).toInt := by rw [e2, e0]; exact sA
              have nl : (G 36 5).toInt = (n : Int) := by rw [el]; exact nI_toInt (by omega)
              have h5 : ¬ T 5 = 1 := by
                intro h
                have h9 := c7
                subst ev30 ev25 ev21 ev17 ev16 ev12 ev8 ev6 ev5 ev4 ev3 ev1
                rw [hx.2.2.2.2.2.1.2.2.2.2.2.2.2, h] at h9
                exact absurd h9 (by decide)
              have hln : n = 0 + 1 := (by (try clear hQ); (try subst ev30 ev25 ev21 ev17 ev16 ev12 ev8 ev6 ev5 ev4 ev3 ev1); ((try simp only [xb_eq, xb_ne, Int32.lt_iff_toInt_lt, Int32.le_iff_toInt_le] at *) <;> (try simp only [← Int32.toInt_inj, true_and, false_and, or_false, false_or, or_true, true_or, and_true, and_false] at *) <;> omega))
              subst hln
              have e1 := hx.2.2.2.2.2.2.2.2 0 (Nat.pow_pos (by decide))
              rw [Nat.sub_self, Nat.pow_zero, Nat.mul_one, Nat.add_zero pre, tr_0 h5] at e1
              have hab : abR ((none : Option Nat).map (fun j => j + (0 + 1)), T) = T 2 - T 0 := rfl
              have hB0 : B = 0 := (by (try clear hQ); (try subst ev30 ev25 ev21 ev17 ev16 ev12 ev8 ev6 ev5 ev4 ev3 ev1); ((try simp only [xb_eq, xb_ne, Int32.lt_iff_toInt_lt, Int32.le_iff_toInt_le] at *) <;> (try simp only [← Int32.toInt_inj, true_and, false_and, or_false, false_or, or_true, true_or, and_true, and_false] at *) <;> omega))
              have hhi : bst.toInt = -1 ∨ hi.toInt < (T 2 - T 0).toInt := (by (try clear hQ); (try subst ev30 ev25 ev21 ev17 ev16 ev12 ev8 ev6 ev5 ev4 ev3 ev1); ((try simp only [xb_eq, xb_ne, Int32.lt_iff_toInt_lt, Int32.le_iff_toInt_le] at *) <;> (try simp only [← Int32.toInt_inj, true_and, false_and, or_false, false_or, or_true, true_or, and_true, and_false] at *) <;> omega))
              have hp4 := pow4 hn
              have hx4 : pre < 10 ^ (0 + 1) := hx.2.2.2.2.1
              subst ev30 ev25 ev21 ev17 ev16 ev12 ev8 ev6 ev5 ev4 ev3 ev1
              refine hQ _ 0 ⟨fun a h1 h2 => ?_, rfl, rfl⟩ (Or.inr ⟨Or.inl rfl, ?_⟩)
              · repeat (first | rw [xp_row_ne h1] | rw [xp_row_ne h2])
                try rfl
              · rw [Nat.sub_self, Nat.pow_zero, Nat.mul_one, blk_1, pP_t e1 (show _ ∨ _ from ?_)]
                · refine ⟨Nat.zero_le _, Or.inl ⟨rfl, ?_⟩, Or.inr ⟨nI_nn1 (by omega), ?_, pre, rfl, hx.2.2.2.2.1, fun i hi9 => ?_⟩⟩
                  · rcases hR.2.1 with ⟨_, h2⟩ | ⟨h1, _⟩
                    · exact h2
                    · exact absurd hB0 (Nat.ne_of_gt h1)
                  · show _ = T 2 - T 0
                    rw [← e2, ← e0]
                    rfl
                  have h9 : i = 0 := by omega
                  subst h9
                  exact hx.2.2.2.1 0 (by omega)
                · show bst.toInt = -1 ∨ (0 < 0 ∧ _) ∨ (0 = 0 ∧ B = 0 ∧ hi.toInt < (T 2 - T 0).toInt)
                  omega
            · refine V2_iconst (v := 1) d_Rows_canBeBetter_120 rfl ?_
              refine V2_goto (tgt := 125) d_Rows_canBeBetter_121 rfl ?_
              refine V2_zreturn d_Rows_canBeBetter_125 rfl (by decide) ?_
              refine V2.to (st' := [.int (1 : Int32)]) ?_ rfl rfl rfl rfl
              refine V2_zreturn d_Rows_goesOn_52 rfl (by decide) ?_
              have hB1 : B ≤ n := hR.1
              have hf : (B = 0 ∧ (G 36 6).toInt = (n : Int) + 1) ∨ (0 < B ∧ (G 36 6).toInt = (B : Int)) := by
                rcases hR.2.1 with ⟨h1, h2⟩ | ⟨h1, h2⟩
                · exact Or.inl ⟨h1, by rw [h2, nI_toInt (by omega)]; omega⟩
                · exact Or.inr ⟨h1, by rw [h2, nI_toInt (by have := hR.1; omega)]⟩
              have hov : (bst.toInt = -1 ∧ B = 0 ∧ (G 36 7).toInt = -1000) ∨ (¬ bst.toInt = -1 ∧ (G 36 7).toInt = hi.toInt) := by
                rcases hR.2.2 with ⟨h1, h2, h3⟩ | ⟨h1, h3, _⟩
                · exact Or.inl ⟨h1, h2, by rw [h3]; decide⟩
                · exact Or.inr ⟨h1, by rw [h3]⟩
              have sA : (T 2 - T 0).toInt = (T 2).toInt - (T 0).toInt := toI_sub (by omega) (by omega) (by omega) (by omega)
              have e2 : G 43 2 = T 2 := hx.2.2.2.2.2.1.2.2.1
              have e0 : G 43 0 = T 0 := hx.2.2.2.2.2.1.1
              have el : G 36 5 = nI n := hx.2.2.1
              have sA2 : (G 43 2 - G 43 0).toInt = (T 2).toInt - (T 0).toInt := by rw [e2, e0]; exact sA
              have nl : (G 36 5).toInt = (n : Int) := by rw [el]; exact nI_toInt (by omega)
              have h5 : ¬ T 5 = 1 := by
                intro h
                have h9 := c7
                subst ev30 ev25 ev21 ev17 ev16 ev12 ev8 ev6 ev5 ev4 ev3 ev1
                rw [hx.2.2.2.2.2.1.2.2.2.2.2.2.2, h] at h9
                exact absurd h9 (by decide)
              exfalso
              exact (by (try clear hQ); (try subst ev30 ev25 ev21 ev17 ev16 ev12 ev8 ev6 ev5 ev4 ev3 ev1); ((try simp only [xb_eq, xb_ne, Int32.lt_iff_toInt_lt, Int32.le_iff_toInt_le] at *) <;> (try simp only [← Int32.toInt_inj, true_and, false_and, or_false, false_or, or_true, true_or, and_true, and_false] at *) <;> omega))
  · refine V2_iload_n (i := 3) d_Rows_canBeBetter_22 rfl rfl ?_
    refine V2_aload_n (i := 0) d_Rows_canBeBetter_23 rfl rfl ?_
    refine V2_get (v := G 36 6) d_Rows_canBeBetter_24 fl_Rows_40 (by decide) rfl (by decide) rfl rfl ?_
    refine V2_topi (fun v32 ev32 => ?_)
    refine V2_icmp_ge (tgt := 34) d_Rows_canBeBetter_27 rfl (fun c33 => ?_) (fun c33 => ?_)
    · refine V2_iconst (v := 0) d_Rows_canBeBetter_34 rfl ?_
      refine V2_istore (i := 5) (l' := [some (.ref 36), some (.int (0 : Int32)), some (.ref 43), some (.int (1 : Int32)), some (.int v5), some (.int (0 : Int32)), none]) d_Rows_canBeBetter_35 (xst_i (Nat.le_of_ble_eq_true rfl) rfl rfl) ?_
      refine V2_aload_n (i := 2) d_Rows_canBeBetter_37 rfl rfl ?_
      refine V2_get (v := G 43 7) d_Rows_canBeBetter_38 fl_Rows_80 (by decide) rfl (by decide) rfl rfl ?_
      refine V2_topi (fun v34 ev34 => ?_)
      refine V2_if_ne (tgt := 76) d_Rows_canBeBetter_41 rfl (fun c35 => ?_) (fun c35 => ?_)
      · refine V2_iconst (v := 0) d_Rows_canBeBetter_76 rfl ?_
        refine V2_istore (i := 6) (l' := [some (.ref 36), some (.int (0 : Int32)), some (.ref 43), some (.int (1 : Int32)), some (.int v5), some (.int (0 : Int32)), some (.int (0 : Int32))]) d_Rows_canBeBetter_77 (xst_i (Nat.le_of_ble_eq_true rfl) rfl rfl) ?_
        refine V2_iload (i := 5) d_Rows_canBeBetter_79 rfl ?_
        refine V2_if_eq (tgt := 89) d_Rows_canBeBetter_81 rfl (fun _ => ?_) (fun c => (by first | exact absurd c (by decide) | exact absurd (by decide) c))
        refine V2_iload (i := 5) d_Rows_canBeBetter_89 rfl ?_
        refine V2_if_ne (tgt := 99) d_Rows_canBeBetter_91 rfl (fun c => (by first | exact absurd c (by decide) | exact absurd (by decide) c)) (fun _ => ?_)
        refine V2_iload (i := 6) d_Rows_canBeBetter_94 rfl ?_
        refine V2_if_eq (tgt := 110) d_Rows_canBeBetter_96 rfl (fun _ => ?_) (fun c => (by first | exact absurd c (by decide) | exact absurd (by decide) c))
        refine V2_iload_n (i := 3) d_Rows_canBeBetter_110 rfl rfl ?_
        refine V2_iconst (v := 1) d_Rows_canBeBetter_111 rfl ?_
        refine V2_iadd d_Rows_canBeBetter_112 ?_
        refine V2_lit (v := 2) (by decide) ?_
        refine V2_aload_n (i := 0) d_Rows_canBeBetter_113 rfl rfl ?_
        refine V2_get (v := G 36 6) d_Rows_canBeBetter_114 fl_Rows_40 (by decide) rfl (by decide) rfl rfl ?_
        refine V2_topi (fun v36 ev36 => ?_)
        refine V2_icmp_ge (tgt := 124) d_Rows_canBeBetter_117 rfl (fun c37 => ?_) (fun c37 => ?_)
        · refine V2_iconst (v := 0) d_Rows_canBeBetter_124 rfl ?_
          refine V2_zreturn d_Rows_canBeBetter_125 rfl (by decide) ?_
          refine V2.to (st' := [.int (0 : Int32)]) ?_ rfl rfl rfl rfl
          refine V2_zreturn d_Rows_goesOn_52 rfl (by decide) ?_
          have hB1 : B ≤ n := hR.1
          have hf : (B = 0 ∧ (G 36 6).toInt = (n : Int) + 1) ∨ (0 < B ∧ (G 36 6).toInt = (B : Int)) := by
            rcases hR.2.1 with ⟨h1, h2⟩ | ⟨h1, h2⟩
            · exact Or.inl ⟨h1, by rw [h2, nI_toInt (by omega)]; omega⟩
            · exact Or.inr ⟨h1, by rw [h2, nI_toInt (by have := hR.1; omega)]⟩
          have hov : (bst.toInt = -1 ∧ B = 0 ∧ (G 36 7).toInt = -1000) ∨ (¬ bst.toInt = -1 ∧ (G 36 7).toInt = hi.toInt) := by
            rcases hR.2.2 with ⟨h1, h2, h3⟩ | ⟨h1, h3, _⟩
            · exact Or.inl ⟨h1, h2, by rw [h3]; decide⟩
            · exact Or.inr ⟨h1, by rw [h3]⟩
          have sA : (T 2 - T 0).toInt = (T 2).toInt - (T 0).toInt := toI_sub (by omega) (by omega) (by omega) (by omega)
          have e2 : G 43 2 = T 2 := hx.2.2.2.2.2.1.2.2.1
          have e0 : G 43 0 = T 0 := hx.2.2.2.2.2.1.1
          have el : G 36 5 = nI n := hx.2.2.1
          have sA2 : (G 43 2 - G 43 0).toInt = (T 2).toInt - (T 0).toInt := by rw [e2, e0]; exact sA
          have nl : (G 36 5).toInt = (n : Int) := by rw [el]; exact nI_toInt (by omega)
          have h5 : T 5 = 1 := by
            have h9 := c7
            subst ev36 ev34 ev32 ev6 ev5 ev4 ev3 ev1
            rw [hx.2.2.2.2.2.1.2.2.2.2.2.2.2] at h9
            exact hx.2.2.2.2.2.2.2.1.2.2.2.2.2.1.resolve_left h9
          have hrow : ∀ i, pre * 10 ^ (n - (0 + 1)) ≤ i → i < pre * 10 ^ (n - (0 + 1)) + 10 ^ (n - (0 + 1)) → trN (PN S) n i S = ((trN (PN S) (n - (0 + 1)) (i - pre * 10 ^ (n - (0 + 1))) T).1.map (fun j => j + (0 + 1)), (trN (PN S) (n - (0 + 1)) (i - pre * 10 ^ (n - (0 + 1))) T).2) := by
            intro i h1 h2
            have hs := hx.2.2.2.2.2.2.2.2 (i - pre * 10 ^ (n - (0 + 1))) (by omega)
            rw [show pre * 10 ^ (n - (0 + 1)) + (i - pre * 10 ^ (n - (0 + 1))) = i by omega] at hs
            exact hs
          have hlB : 0 < B ∧ B ≤ 0 + 1 := (by (try clear hQ); (try subst ev36 ev34 ev32 ev6 ev5 ev4 ev3 ev1); ((try simp only [xb_eq, xb_ne, Int32.lt_iff_toInt_lt, Int32.le_iff_toInt_le] at *) <;> (try simp only [← Int32.toInt_inj, true_and, false_and, or_false, false_or, or_true, true_or, and_true, and_false] at *) <;> omega))
          subst ev36 ev34 ev32 ev6 ev5 ev4 ev3 ev1
          refine hQ _ 0 ⟨fun a h1 h2 => ?_, rfl, rfl⟩ (Or.inr ⟨Or.inl rfl, ?_⟩)
          · rfl
          · rw [blk_id _ _ _ _ (fun i h1 h2 => ?_)]
            · exact hR
            · have e1 := hrow i h1 h2
              rw [tr_1 h5] at e1
              refine pP_f e1 ?_
              show ¬ (bst.toInt = -1 ∨ (0 < 0 + (0 + 1) ∧ (B = 0 ∨ 0 + (0 + 1) < B)) ∨ (0 + (0 + 1) = 0 ∧ _))
              omega
        · refine V2_iconst (v := 1) d_Rows_canBeBetter_120 rfl ?_
          refine V2_goto (tgt := 125) d_Rows_canBeBetter_121 rfl ?_
          refine V2_zreturn d_Rows_canBeBetter_125 rfl (by decide) ?_
          refine V2.to (st' := [.int (1 : Int32)]) ?_ rfl rfl rfl rfl
          refine V2_zreturn d_Rows_goesOn_52 rfl (by decide) ?_
          have hB1 : B ≤ n := hR.1
          have hf : (B = 0 ∧ (G 36 6).toInt = (n : Int) + 1) ∨ (0 < B ∧ (G 36 6).toInt = (B : Int)) := by
            rcases hR.2.1 with ⟨h1, h2⟩ | ⟨h1, h2⟩
            · exact Or.inl ⟨h1, by rw [h2, nI_toInt (by omega)]; omega⟩
            · exact Or.inr ⟨h1, by rw [h2, nI_toInt (by have := hR.1; omega)]⟩
          have hov : (bst.toInt = -1 ∧ B = 0 ∧ (G 36 7).toInt = -1000) ∨ (¬ bst.toInt = -1 ∧ (G 36 7).toInt = hi.toInt) := by
            rcases hR.2.2 with ⟨h1, h2, h3⟩ | ⟨h1, h3, _⟩
            · exact Or.inl ⟨h1, h2, by rw [h3]; decide⟩
            · exact Or.inr ⟨h1, by rw [h3]⟩
          have sA : (T 2 - T 0).toInt = (T 2).toInt - (T 0).toInt := toI_sub (by omega) (by omega) (by omega) (by omega)
          have e2 : G 43 2 = T 2 := hx.2.2.2.2.2.1.2.2.1
          have e0 : G 43 0 = T 0 := hx.2.2.2.2.2.1.1
          have el : G 36 5 = nI n := hx.2.2.1
          have sA2 : (G 43 2 - G 43 0).toInt = (T 2).toInt - (T 0).toInt := by rw [e2, e0]; exact sA
          have nl : (G 36 5).toInt = (n : Int) := by rw [el]; exact nI_toInt (by omega)
          have h5 : T 5 = 1 := by
            have h9 := c7
            subst ev36 ev34 ev32 ev6 ev5 ev4 ev3 ev1
            rw [hx.2.2.2.2.2.1.2.2.2.2.2.2.2] at h9
            exact hx.2.2.2.2.2.2.2.1.2.2.2.2.2.1.resolve_left h9
          exfalso
          exact (by (try clear hQ); (try subst ev36 ev34 ev32 ev6 ev5 ev4 ev3 ev1); ((try simp only [xb_eq, xb_ne, Int32.lt_iff_toInt_lt, Int32.le_iff_toInt_le] at *) <;> (try simp only [← Int32.toInt_inj, true_and, false_and, or_false, false_or, or_true, true_or, and_true, and_false] at *) <;> omega))
      · refine V2_iload_n (i := 3) d_Rows_canBeBetter_44 rfl rfl ?_
        refine V2_aload_n (i := 0) d_Rows_canBeBetter_45 rfl rfl ?_
        refine V2_get (v := G 36 5) d_Rows_canBeBetter_46 fl_Rows_37 (by decide) rfl (by decide) rfl rfl ?_
        refine V2_topi (fun v38 ev38 => ?_)
        refine V2_icmp_ne (tgt := 76) d_Rows_canBeBetter_49 rfl (fun c39 => ?_) (fun c39 => ?_)
        · refine V2_iconst (v := 0) d_Rows_canBeBetter_76 rfl ?_
          refine V2_istore (i := 6) (l' := [some (.ref 36), some (.int (0 : Int32)), some (.ref 43), some (.int (1 : Int32)), some (.int v5), some (.int (0 : Int32)), some (.int (0 : Int32))]) d_Rows_canBeBetter_77 (xst_i (Nat.le_of_ble_eq_true rfl) rfl rfl) ?_
          refine V2_iload (i := 5) d_Rows_canBeBetter_79 rfl ?_
          refine V2_if_eq (tgt := 89) d_Rows_canBeBetter_81 rfl (fun _ => ?_) (fun c => (by first | exact absurd c (by decide) | exact absurd (by decide) c))
          refine V2_iload (i := 5) d_Rows_canBeBetter_89 rfl ?_
          refine V2_if_ne (tgt := 99) d_Rows_canBeBetter_91 rfl (fun c => (by first | exact absurd c (by decide) | exact absurd (by decide) c)) (fun _ => ?_)
          refine V2_iload (i := 6) d_Rows_canBeBetter_94 rfl ?_
          refine V2_if_eq (tgt := 110) d_Rows_canBeBetter_96 rfl (fun _ => ?_) (fun c => (by first | exact absurd c (by decide) | exact absurd (by decide) c))
          refine V2_iload_n (i := 3) d_Rows_canBeBetter_110 rfl rfl ?_
          refine V2_iconst (v := 1) d_Rows_canBeBetter_111 rfl ?_
          refine V2_iadd d_Rows_canBeBetter_112 ?_
          refine V2_lit (v := 2) (by decide) ?_
          refine V2_aload_n (i := 0) d_Rows_canBeBetter_113 rfl rfl ?_
          refine V2_get (v := G 36 6) d_Rows_canBeBetter_114 fl_Rows_40 (by decide) rfl (by decide) rfl rfl ?_
          refine V2_topi (fun v40 ev40 => ?_)
          refine V2_icmp_ge (tgt := 124) d_Rows_canBeBetter_117 rfl (fun c41 => ?_) (fun c41 => ?_)
          · refine V2_iconst (v := 0) d_Rows_canBeBetter_124 rfl ?_
            refine V2_zreturn d_Rows_canBeBetter_125 rfl (by decide) ?_
            refine V2.to (st' := [.int (0 : Int32)]) ?_ rfl rfl rfl rfl
            refine V2_zreturn d_Rows_goesOn_52 rfl (by decide) ?_
            have hB1 : B ≤ n := hR.1
            have hf : (B = 0 ∧ (G 36 6).toInt = (n : Int) + 1) ∨ (0 < B ∧ (G 36 6).toInt = (B : Int)) := by
              rcases hR.2.1 with ⟨h1, h2⟩ | ⟨h1, h2⟩
              · exact Or.inl ⟨h1, by rw [h2, nI_toInt (by omega)]; omega⟩
              · exact Or.inr ⟨h1, by rw [h2, nI_toInt (by have := hR.1; omega)]⟩
            have hov : (bst.toInt = -1 ∧ B = 0 ∧ (G 36 7).toInt = -1000) ∨ (¬ bst.toInt = -1 ∧ (G 36 7).toInt = hi.toInt) := by
              rcases hR.2.2 with ⟨h1, h2, h3⟩ | ⟨h1, h3, _⟩
              · exact Or.inl ⟨h1, h2, by rw [h3]; decide⟩
              · exact Or.inr ⟨h1, by rw [h3]⟩
            have sA : (T 2 - T 0).toInt = (T 2).toInt - (T 0).toInt := toI_sub (by omega) (by omega) (by omega) (by omega)
            have e2 : G 43 2 = T 2 := hx.2.2.2.2.2.1.2.2.1
            have e0 : G 43 0 = T 0 := hx.2.2.2.2.2.1.1
            have el : G 36 5 = nI n := hx.2.2.1
            have sA2 : (G 43 2 - G 43 0).toInt = (T 2).toInt - (T 0).toInt := by rw [e2, e0]; exact sA
            have nl : (G 36 5).toInt = (n : Int) := by rw [el]; exact nI_toInt (by omega)
            have h5 : T 5 = 1 := by
              have h9 := c7
              subst ev40 ev38 ev34 ev32 ev6 ev5 ev4 ev3 ev1
              rw [hx.2.2.2.2.2.1.2.2.2.2.2.2.2] at h9
              exact hx.2.2.2.2.2.2.2.1.2.2.2.2.2.1.resolve_left h9
            exfalso
            exact (by (try clear hQ); (try subst ev40 ev38 ev34 ev32 ev6 ev5 ev4 ev3 ev1); ((try simp only [xb_eq, xb_ne, Int32.lt_iff_toInt_lt, Int32.le_iff_toInt_le] at *) <;> (try simp only [← Int32.toInt_inj, true_and, false_and, or_false, false_or, or_true, true_or, and_true, and_false] at *) <;> omega))
          · refine V2_iconst (v := 1) d_Rows_canBeBetter_120 rfl ?_
            refine V2_goto (tgt := 125) d_Rows_canBeBetter_121 rfl ?_
            refine V2_zreturn d_Rows_canBeBetter_125 rfl (by decide) ?_
            refine V2.to (st' := [.int (1 : Int32)]) ?_ rfl rfl rfl rfl
            refine V2_zreturn d_Rows_goesOn_52 rfl (by decide) ?_
            have hB1 : B ≤ n := hR.1
            have hf : (B = 0 ∧ (G 36 6).toInt = (n : Int) + 1) ∨ (0 < B ∧ (G 36 6).toInt = (B : Int)) := by
              rcases hR.2.1 with ⟨h1, h2⟩ | ⟨h1, h2⟩
              · exact Or.inl ⟨h1, by rw [h2, nI_toInt (by omega)]; omega⟩
              · exact Or.inr ⟨h1, by rw [h2, nI_toInt (by have := hR.1; omega)]⟩
            have hov : (bst.toInt = -1 ∧ B = 0 ∧ (G 36 7).toInt = -1000) ∨ (¬ bst.toInt = -1 ∧ (G 36 7).toInt = hi.toInt) := by
              rcases hR.2.2 with ⟨h1, h2, h3⟩ | ⟨h1, h3, _⟩
              · exact Or.inl ⟨h1, h2, by rw [h3]; decide⟩
              · exact Or.inr ⟨h1, by rw [h3]⟩
            have sA : (T 2 - T 0).toInt = (T 2).toInt - (T 0).toInt := toI_sub (by omega) (by omega) (by omega) (by omega)
            have e2 : G 43 2 = T 2 := hx.2.2.2.2.2.1.2.2.1
            have e0 : G 43 0 = T 0 := hx.2.2.2.2.2.1.1
            have el : G 36 5 = nI n := hx.2.2.1
            have sA2 : (G 43 2 - G 43 0).toInt = (T 2).toInt - (T 0).toInt := by rw [e2, e0]; exact sA
            have nl : (G 36 5).toInt = (n : Int) := by rw [el]; exact nI_toInt (by omega)
            have h5 : T 5 = 1 := by
              have h9 := c7
              subst ev40 ev38 ev34 ev32 ev6 ev5 ev4 ev3 ev1
              rw [hx.2.2.2.2.2.1.2.2.2.2.2.2.2] at h9
              exact hx.2.2.2.2.2.2.2.1.2.2.2.2.2.1.resolve_left h9
            exfalso
            exact (by (try clear hQ); (try subst ev40 ev38 ev34 ev32 ev6 ev5 ev4 ev3 ev1); ((try simp only [xb_eq, xb_ne, Int32.lt_iff_toInt_lt, Int32.le_iff_toInt_le] at *) <;> (try simp only [← Int32.toInt_inj, true_and, false_and, or_false, false_or, or_true, true_or, and_true, and_false] at *) <;> omega))
        · refine V2_aload_n (i := 0) d_Rows_canBeBetter_52 rfl rfl ?_
          refine V2_get (v := G 36 6) d_Rows_canBeBetter_53 fl_Rows_40 (by decide) rfl (by decide) rfl rfl ?_
          refine V2_topi (fun v42 ev42 => ?_)
          refine V2_aload_n (i := 0) d_Rows_canBeBetter_56 rfl rfl ?_
          refine V2_get (v := G 36 5) d_Rows_canBeBetter_57 fl_Rows_37 (by decide) rfl (by decide) rfl rfl ?_
          refine V2_topi (fun v43 ev43 => ?_)
          refine V2_icmp_le (tgt := 76) d_Rows_canBeBetter_60 rfl (fun c44 => ?_) (fun c44 => ?_)
          · refine V2_iconst (v := 0) d_Rows_canBeBetter_76 rfl ?_
            refine V2_istore (i := 6) (l' := [some (.ref 36), some (.int (0 : Int32)), some (.ref 43), some (.int (1 : Int32)), some (.int v5), some (.int (0 : Int32)), some (.int (0 : Int32))]) d_Rows_canBeBetter_77 (xst_i (Nat.le_of_ble_eq_true rfl) rfl rfl) ?_
            refine V2_iload (i := 5) d_Rows_canBeBetter_79 rfl ?_
            refine V2_if_eq (tgt := 89) d_Rows_canBeBetter_81 rfl (fun _ => ?_) (fun c => (by first | exact absurd c (by decide) | exact absurd (by decide) c))
            refine V2_iload (i := 5) d_Rows_canBeBetter_89 rfl ?_
            refine V2_if_ne (tgt := 99) d_Rows_canBeBetter_91 rfl (fun c => (by first | exact absurd c (by decide) | exact absurd (by decide) c)) (fun _ => ?_)
            refine V2_iload (i := 6) d_Rows_canBeBetter_94 rfl ?_
            refine V2_if_eq (tgt := 110) d_Rows_canBeBetter_96 rfl (fun _ => ?_) (fun c => (by first | exact absurd c (by decide) | exact absurd (by decide) c))
            refine V2_iload_n (i := 3) d_Rows_canBeBetter_110 rfl rfl ?_
            refine V2_iconst (v := 1) d_Rows_canBeBetter_111 rfl ?_
            refine V2_iadd d_Rows_canBeBetter_112 ?_
            refine V2_lit (v := 2) (by decide) ?_
            refine V2_aload_n (i := 0) d_Rows_canBeBetter_113 rfl rfl ?_
            refine V2_get (v := G 36 6) d_Rows_canBeBetter_114 fl_Rows_40 (by decide) rfl (by decide) rfl rfl ?_
            refine V2_topi (fun v45 ev45 => ?_)
            refine V2_icmp_ge (tgt := 124) d_Rows_canBeBetter_117 rfl (fun c46 => ?_) (fun c46 => ?_)
            · refine V2_iconst (v := 0) d_Rows_canBeBetter_124 rfl ?_
              refine V2_zreturn d_Rows_canBeBetter_125 rfl (by decide) ?_
              refine V2.to (st' := [.int (0 : Int32)]) ?_ rfl rfl rfl rfl
              refine V2_zreturn d_Rows_goesOn_52 rfl (by decide) ?_
              have hB1 : B ≤ n := hR.1
              have hf : (B = 0 ∧ (G 36 6).toInt = (n : Int) + 1) ∨ (0 < B ∧ (G 36 6).toInt = (B : Int)) := by
                rcases hR.2.1 with ⟨h1, h2⟩ | ⟨h1, h2⟩
                · exact Or.inl ⟨h1, by rw [h2, nI_toInt (by omega)]; omega⟩
                · exact Or.inr ⟨h1, by rw [h2, nI_toInt (by have := hR.1; omega)]⟩
              have hov : (bst.toInt = -1 ∧ B = 0 ∧ (G 36 7).toInt = -1000) ∨ (¬ bst.toInt = -1 ∧ (G 36 7).toInt = hi.toInt) := by
                rcases hR.2.2 with ⟨h1, h2, h3⟩ | ⟨h1, h3, _⟩
                · exact Or.inl ⟨h1, h2, by rw [h3]; decide⟩
                · exact Or.inr ⟨h1, by rw [h3]⟩
              have sA : (T 2 - T 0).toInt = (T 2).toInt - (T 0).toInt := toI_sub (by omega) (by omega) (by omega) (by omega)
              have e2 : G 43 2 = T 2 := hx.2.2.2.2.2.1.2.2.1
              have e0 : G 43 0 = T 0 := hx.2.2.2.2.2.1.1
              have el : G 36 5 = nI n := hx.2.2.1
              have sA2 : (G 43 2 - G 43 0).toInt = (T 2).toInt - (T 0).toInt := by rw [e2, e0]; exact sA
              have nl : (G 36 5).toInt = (n : Int) := by rw [el]; exact nI_toInt (by omega)
              have h5 : T 5 = 1 := by
                have h9 := c7
                subst ev45 ev43 ev42 ev38 ev34 ev32 ev6 ev5 ev4 ev3 ev1
                rw [hx.2.2.2.2.2.1.2.2.2.2.2.2.2] at h9
                exact hx.2.2.2.2.2.2.2.1.2.2.2.2.2.1.resolve_left h9
              exfalso
              exact (by (try clear hQ); (try subst ev45 ev43 ev42 ev38 ev34 ev32 ev6 ev5 ev4 ev3 ev1); ((try simp only [xb_eq, xb_ne, Int32.lt_iff_toInt_lt, Int32.le_iff_toInt_le] at *) <;> (try simp only [← Int32.toInt_inj, true_and, false_and, or_false, false_or, or_true, true_or, and_true, and_false] at *) <;> omega))
            · refine V2_iconst (v := 1) d_Rows_canBeBetter_120 rfl ?_
              refine V2_goto (tgt := 125) d_Rows_canBeBetter_121 rfl ?_
              refine V2_zreturn d_Rows_canBeBetter_125 rfl (by decide) ?_
              refine V2.to (st' := [.int (1 : Int32)]) ?_ rfl rfl rfl rfl
              refine V2_zreturn d_Rows_goesOn_52 rfl (by decide) ?_
              have hB1 : B ≤ n := hR.1
              have hf : (B = 0 ∧ (G 36 6).toInt = (n : Int) + 1) ∨ (0 < B ∧ (G 36 6).toInt = (B : Int)) := by
                rcases hR.2.1 with ⟨h1, h2⟩ | ⟨h1, h2⟩
                · exact Or.inl ⟨h1, by rw [h2, nI_toInt (by omega)]; omega⟩
                · exact Or.inr ⟨h1, by rw [h2, nI_toInt (by have := hR.1; omega)]⟩
              have hov : (bst.toInt = -1 ∧ B = 0 ∧ (G 36 7).toInt = -1000) ∨ (¬ bst.toInt = -1 ∧ (G 36 7).toInt = hi.toInt) := by
                rcases hR.2.2 with ⟨h1, h2, h3⟩ | ⟨h1, h3, _⟩
                · exact Or.inl ⟨h1, h2, by rw [h3]; decide⟩
                · exact Or.inr ⟨h1, by rw [h3]⟩
              have sA : (T 2 - T 0).toInt = (T 2).toInt - (T 0).toInt := toI_sub (by omega) (by omega) (by omega) (by omega)
              have e2 : G 43 2 = T 2 := hx.2.2.2.2.2.1.2.2.1
              have e0 : G 43 0 = T 0 := hx.2.2.2.2.2.1.1
              have el : G 36 5 = nI n := hx.2.2.1
              have sA2 : (G 43 2 - G 43 0).toInt = (T 2).toInt - (T 0).toInt := by rw [e2, e0]; exact sA
              have nl : (G 36 5).toInt = (n : Int) := by rw [el]; exact nI_toInt (by omega)
              have h5 : T 5 = 1 := by
                have h9 := c7
                subst ev45 ev43 ev42 ev38 ev34 ev32 ev6 ev5 ev4 ev3 ev1
                rw [hx.2.2.2.2.2.1.2.2.2.2.2.2.2] at h9
                exact hx.2.2.2.2.2.2.2.1.2.2.2.2.2.1.resolve_left h9
              exfalso
              exact (by (try clear hQ); (try subst ev45 ev43 ev42 ev38 ev34 ev32 ev6 ev5 ev4 ev3 ev1); ((try simp only [xb_eq, xb_ne, Int32.lt_iff_toInt_lt, Int32.le_iff_toInt_le] at *) <;> (try simp only [← Int32.toInt_inj, true_and, false_and, or_false, false_or, or_true, true_or, and_true, and_false] at *) <;> omega))
          · refine V2_iload (i := 4) d_Rows_canBeBetter_63 rfl ?_
            refine V2_aload_n (i := 0) d_Rows_canBeBetter_65 rfl rfl ?_
            refine V2_get (v := G 36 7) d_Rows_canBeBetter_66 fl_Rows_43 (by decide) rfl (by decide) rfl rfl ?_
            refine V2_topi (fun v47 ev47 => ?_)
            refine V2_icmp_le (tgt := 76) d_Rows_canBeBetter_69 rfl (fun c48 => ?_) (fun c48 => ?_)
            · refine V2_iconst (v := 0) d_Rows_canBeBetter_76 rfl ?_
              refine V2_istore (i := 6) (l' := [some (.ref 36), some (.int (0 : Int32)), some (.ref 43), some (.int (1 : Int32)), some (.int v5), some (.int (0 : Int32)), some (.int (0 : Int32))]) d_Rows_canBeBetter_77 (xst_i (Nat.le_of_ble_eq_true rfl) rfl rfl) ?_
              refine V2_iload (i := 5) d_Rows_canBeBetter_79 rfl ?_
              refine V2_if_eq (tgt := 89) d_Rows_canBeBetter_81 rfl (fun _ => ?_) (fun c => (by first | exact absurd c (by decide) | exact absurd (by decide) c))
              refine V2_iload (i := 5) d_Rows_canBeBetter_89 rfl ?_
              refine V2_if_ne (tgt := 99) d_Rows_canBeBetter_91 rfl (fun c => (by first | exact absurd c (by decide) | exact absurd (by decide) c)) (fun _ => ?_)
              refine V2_iload (i := 6) d_Rows_canBeBetter_94 rfl ?_
              refine V2_if_eq (tgt := 110) d_Rows_canBeBetter_96 rfl (fun _ => ?_) (fun c => (by first | exact absurd c (by decide) | exact absurd (by decide) c))
              refine V2_iload_n (i := 3) d_Rows_canBeBetter_110 rfl rfl ?_
              refine V2_iconst (v := 1) d_Rows_canBeBetter_111 rfl ?_
              refine V2_iadd d_Rows_canBeBetter_112 ?_
              refine V2_lit (v := 2) (by decide) ?_
              refine V2_aload_n (i := 0) d_Rows_canBeBetter_113 rfl rfl ?_
              refine V2_get (v := G 36 6) d_Rows_canBeBetter_114 fl_Rows_40 (by decide) rfl (by decide) rfl rfl ?_
              refine V2_topi (fun v49 ev49 => ?_)
              refine V2_icmp_ge (tgt := 124) d_Rows_canBeBetter_117 rfl (fun c50 => ?_) (fun c50 => ?_)
              · refine V2_iconst (v := 0) d_Rows_canBeBetter_124 rfl ?_
                refine V2_zreturn d_Rows_canBeBetter_125 rfl (by decide) ?_
                refine V2.to (st' := [.int (0 : Int32)]) ?_ rfl rfl rfl rfl
                refine V2_zreturn d_Rows_goesOn_52 rfl (by decide) ?_
                have hB1 : B ≤ n := hR.1
                have hf : (B = 0 ∧ (G 36 6).toInt = (n : Int) + 1) ∨ (0 < B ∧ (G 36 6).toInt = (B : Int)) := by
                  rcases hR.2.1 with ⟨h1, h2⟩ | ⟨h1, h2⟩
                  · exact Or.inl ⟨h1, by rw [h2, nI_toInt (by omega)]; omega⟩
                  · exact Or.inr ⟨h1, by rw [h2, nI_toInt (by have := hR.1; omega)]⟩
                have hov : (bst.toInt = -1 ∧ B = 0 ∧ (G 36 7).toInt = -1000) ∨ (¬ bst.toInt = -1 ∧ (G 36 7).toInt = hi.toInt) := by
                  rcases hR.2.2 with ⟨h1, h2, h3⟩ | ⟨h1, h3, _⟩
                  · exact Or.inl ⟨h1, h2, by rw [h3]; decide⟩
                  · exact Or.inr ⟨h1, by rw [h3]⟩
                have sA : (T 2 - T 0).toInt = (T 2).toInt - (T 0).toInt := toI_sub (by omega) (by omega) (by omega) (by omega)
                have e2 : G 43 2 = T 2 := hx.2.2.2.2.2.1.2.2.1
                have e0 : G 43 0 = T 0 := hx.2.2.2.2.2.1.1
                have el : G 36 5 = nI n := hx.2.2.1
                have sA2 : (G 43 2 - G 43 0).toInt = (T 2).toInt - (T 0).toInt := by rw [e2, e0]; exact sA
                have nl : (G 36 5).toInt = (n : Int) := by rw [el]; exact nI_toInt (by omega)
                have h5 : T 5 = 1 := by
                  have h9 := c7
                  subst ev49 ev47 ev43 ev42 ev38 ev34 ev32 ev6 ev5 ev4 ev3 ev1
                  rw [hx.2.2.2.2.2.1.2.2.2.2.2.2.2] at h9
                  exact hx.2.2.2.2.2.2.2.1.2.2.2.2.2.1.resolve_left h9
                exfalso
                exact (by (try clear hQ); (try subst ev49 ev47 ev43 ev42 ev38 ev34 ev32 ev6 ev5 ev4 ev3 ev1); ((try simp only [xb_eq, xb_ne, Int32.lt_iff_toInt_lt, Int32.le_iff_toInt_le] at *) <;> (try simp only [← Int32.toInt_inj, true_and, false_and, or_false, false_or, or_true, true_or, and_true, and_false] at *) <;> omega))
              · refine V2_iconst (v := 1) d_Rows_canBeBetter_120 rfl ?_
                refine V2_goto (tgt := 125) d_Rows_canBeBetter_121 rfl ?_
                refine V2_zreturn d_Rows_canBeBetter_125 rfl (by decide) ?_
                refine V2.to (st' := [.int (1 : Int32)]) ?_ rfl rfl rfl rfl
                refine V2_zreturn d_Rows_goesOn_52 rfl (by decide) ?_
                have hB1 : B ≤ n := hR.1
                have hf : (B = 0 ∧ (G 36 6).toInt = (n : Int) + 1) ∨ (0 < B ∧ (G 36 6).toInt = (B : Int)) := by
                  rcases hR.2.1 with ⟨h1, h2⟩ | ⟨h1, h2⟩
                  · exact Or.inl ⟨h1, by rw [h2, nI_toInt (by omega)]; omega⟩
                  · exact Or.inr ⟨h1, by rw [h2, nI_toInt (by have := hR.1; omega)]⟩
                have hov : (bst.toInt = -1 ∧ B = 0 ∧ (G 36 7).toInt = -1000) ∨ (¬ bst.toInt = -1 ∧ (G 36 7).toInt = hi.toInt) := by
                  rcases hR.2.2 with ⟨h1, h2, h3⟩ | ⟨h1, h3, _⟩
                  · exact Or.inl ⟨h1, h2, by rw [h3]; decide⟩
                  · exact Or.inr ⟨h1, by rw [h3]⟩
                have sA : (T 2 - T 0).toInt = (T 2).toInt - (T 0).toInt := toI_sub (by omega) (by omega) (by omega) (by omega)
                have e2 : G 43 2 = T 2 := hx.2.2.2.2.2.1.2.2.1
                have e0 : G 43 0 = T 0 := hx.2.2.2.2.2.1.1
                have el : G 36 5 = nI n := hx.2.2.1
                have sA2 : (G 43 2 - G 43 0).toInt = (T 2).toInt - (T 0).toInt := by rw [e2, e0]; exact sA
                have nl : (G 36 5).toInt = (n : Int) := by rw [el]; exact nI_toInt (by omega)
                have h5 : T 5 = 1 := by
                  have h9 := c7
                  subst ev49 ev47 ev43 ev42 ev38 ev34 ev32 ev6 ev5 ev4 ev3 ev1
                  rw [hx.2.2.2.2.2.1.2.2.2.2.2.2.2] at h9
                  exact hx.2.2.2.2.2.2.2.1.2.2.2.2.2.1.resolve_left h9
                exfalso
                exact (by (try clear hQ); (try subst ev49 ev47 ev43 ev42 ev38 ev34 ev32 ev6 ev5 ev4 ev3 ev1); ((try simp only [xb_eq, xb_ne, Int32.lt_iff_toInt_lt, Int32.le_iff_toInt_le] at *) <;> (try simp only [← Int32.toInt_inj, true_and, false_and, or_false, false_or, or_true, true_or, and_true, and_false] at *) <;> omega))
            · refine V2_iconst (v := 1) d_Rows_canBeBetter_72 rfl ?_
              refine V2_goto (tgt := 77) d_Rows_canBeBetter_73 rfl ?_
              refine V2_istore (i := 6) (l' := [some (.ref 36), some (.int (0 : Int32)), some (.ref 43), some (.int (1 : Int32)), some (.int v5), some (.int (0 : Int32)), some (.int (1 : Int32))]) d_Rows_canBeBetter_77 (xst_i (Nat.le_of_ble_eq_true rfl) rfl rfl) ?_
              refine V2_iload (i := 5) d_Rows_canBeBetter_79 rfl ?_
              refine V2_if_eq (tgt := 89) d_Rows_canBeBetter_81 rfl (fun _ => ?_) (fun c => (by first | exact absurd c (by decide) | exact absurd (by decide) c))
              refine V2_iload (i := 5) d_Rows_canBeBetter_89 rfl ?_
              refine V2_if_ne (tgt := 99) d_Rows_canBeBetter_91 rfl (fun c => (by first | exact absurd c (by decide) | exact absurd (by decide) c)) (fun _ => ?_)
              refine V2_iload (i := 6) d_Rows_canBeBetter_94 rfl ?_
              refine V2_if_eq (tgt := 110) d_Rows_canBeBetter_96 rfl (fun c => (by first | exact absurd c (by decide) | exact absurd (by decide) c)) (fun _ => ?_)
              refine V2_aload_n (i := 0) d_Rows_canBeBetter_99 rfl rfl ?_
              refine V2_iload (i := 4) d_Rows_canBeBetter_100 rfl ?_
              refine V2_put d_Rows_canBeBetter_102 fl_Rows_43 (by decide) rfl (by decide) rfl ?_
              refine V2_aload_n (i := 0) d_Rows_canBeBetter_105 rfl rfl ?_
              refine V2_iload_n (i := 1) d_Rows_canBeBetter_106 rfl rfl ?_
              refine V2_callV [.int (0 : Int32)] d_Rows_canBeBetter_107 rfl rfl lk_Rows_132 mo_Rows_keep (by decide) rfl rfl rfl (Nat.le_of_ble_eq_true rfl) (Nat.le_of_ble_eq_true rfl) ?_
              refine V2.to (l' := [some (.ref 36), some (.int (0 : Int32)), none]) ?_ rfl rfl rfl rfl
              refine V2_iconst (v := 0) d_Rows_keep_0 rfl ?_
              refine V2_istore_n (i := 2) (l' := [some (.ref 36), some (.int (0 : Int32)), some (.int (0 : Int32))]) d_Rows_keep_1 rfl (xst_i (Nat.le_of_ble_eq_true rfl) rfl rfl) ?_
              refine V2_iload_n (i := 2) d_Rows_keep_2 rfl rfl ?_
              refine V2_aload_n (i := 0) d_Rows_keep_3 rfl rfl ?_
              refine V2_getr (a := 40) d_Rows_keep_4 fl_Rows_26 (by decide) rfl (by decide) rfl ?_
              refine V2_alen (t := 0) (v := 4) d_Rows_keep_7 (by decide) rfl (by decide) rfl ?_
              refine V2_icmp_ge (tgt := 47) d_Rows_keep_8 rfl (fun c => (by first | exact absurd c (by decide) | exact absurd (by decide) c)) (fun _ => ?_)
              refine V2_iload_n (i := 2) d_Rows_keep_11 rfl rfl ?_
              refine V2_aload_n (i := 0) d_Rows_keep_12 rfl rfl ?_
              refine V2_getr (a := 41) d_Rows_keep_13 fl_Rows_30 (by decide) rfl (by decide) rfl ?_
              refine V2_alen (t := 0) (v := 4) d_Rows_keep_16 (by decide) rfl (by decide) rfl ?_
              refine V2_icmp_ge (tgt := 47) d_Rows_keep_17 rfl (fun c => (by first | exact absurd c (by decide) | exact absurd (by decide) c)) (fun _ => ?_)
              refine V2_aload_n (i := 0) d_Rows_keep_20 rfl rfl ?_
              refine V2_getr (a := 41) d_Rows_keep_21 fl_Rows_30 (by decide) rfl (by decide) rfl ?_
              refine V2_iload_n (i := 2) d_Rows_keep_24 rfl rfl ?_
              refine V2_iload_n (i := 2) d_Rows_keep_25 rfl rfl ?_
              refine V2_iload_n (i := 1) d_Rows_keep_26 rfl rfl ?_
              refine V2_icmp_gt (tgt := 39) d_Rows_keep_27 rfl (fun c => (by first | exact absurd c (by decide) | exact absurd (by decide) c)) (fun _ => ?_)
              refine V2_aload_n (i := 0) d_Rows_keep_30 rfl rfl ?_
              refine V2_getr (a := 40) d_Rows_keep_31 fl_Rows_26 (by decide) rfl (by decide) rfl ?_
              refine V2_iload_n (i := 2) d_Rows_keep_34 rfl rfl ?_
              refine V2_iaload (v := G 40 0) d_Rows_keep_35 (by decide) rfl (xixA (n := 0) rfl (by decide) (by decide)) rfl ?_
              refine V2_topi (fun v51 ev51 => ?_)
              refine V2_goto (tgt := 40) d_Rows_keep_36 rfl ?_
              refine V2_iastore (j := 0) d_Rows_keep_40 (by decide) rfl (xixA (n := 0) rfl (by decide) (by decide)) rfl ?_
              refine V2_iinc (i := 2) (v := 1) (l' := [some (.ref 36), some (.int (0 : Int32)), some (.int (1 : Int32))]) d_Rows_keep_41 rfl (by decide) (xst_i (Nat.le_of_ble_eq_true rfl) rfl rfl) ?_
              refine V2_goto (tgt := 2) d_Rows_keep_44 rfl ?_
              refine V2_iload_n (i := 2) d_Rows_keep_2 rfl rfl ?_
              refine V2_aload_n (i := 0) d_Rows_keep_3 rfl rfl ?_
              refine V2_getr (a := 40) d_Rows_keep_4 fl_Rows_26 (by decide) rfl (by decide) rfl ?_
              refine V2_alen (t := 0) (v := 4) d_Rows_keep_7 (by decide) rfl (by decide) rfl ?_
              refine V2_icmp_ge (tgt := 47) d_Rows_keep_8 rfl (fun c => (by first | exact absurd c (by decide) | exact absurd (by decide) c)) (fun _ => ?_)
              refine V2_iload_n (i := 2) d_Rows_keep_11 rfl rfl ?_
              refine V2_aload_n (i := 0) d_Rows_keep_12 rfl rfl ?_
              refine V2_getr (a := 41) d_Rows_keep_13 fl_Rows_30 (by decide) rfl (by decide) rfl ?_
              refine V2_alen (t := 0) (v := 4) d_Rows_keep_16 (by decide) rfl (by decide) rfl ?_
              refine V2_icmp_ge (tgt := 47) d_Rows_keep_17 rfl (fun c => (by first | exact absurd c (by decide) | exact absurd (by decide) c)) (fun _ => ?_)
              refine V2_aload_n (i := 0) d_Rows_keep_20 rfl rfl ?_
              refine V2_getr (a := 41) d_Rows_keep_21 fl_Rows_30 (by decide) rfl (by decide) rfl ?_
              refine V2_iload_n (i := 2) d_Rows_keep_24 rfl rfl ?_
              refine V2_iload_n (i := 2) d_Rows_keep_25 rfl rfl ?_
              refine V2_iload_n (i := 1) d_Rows_keep_26 rfl rfl ?_
              refine V2_icmp_gt (tgt := 39) d_Rows_keep_27 rfl (fun _ => ?_) (fun c => (by first | exact absurd c (by decide) | exact absurd (by decide) c))
              refine V2_iconst (v := 0) d_Rows_keep_39 rfl ?_
              refine V2_iastore (j := 1) d_Rows_keep_40 (by decide) rfl (xixA (n := 1) rfl (by decide) (by decide)) rfl ?_
              refine V2_iinc (i := 2) (v := 2) (l' := [some (.ref 36), some (.int (0 : Int32)), some (.int (2 : Int32))]) d_Rows_keep_41 rfl (by decide) (xst_i (Nat.le_of_ble_eq_true rfl) rfl rfl) ?_
              refine V2_goto (tgt := 2) d_Rows_keep_44 rfl ?_
              refine V2_iload_n (i := 2) d_Rows_keep_2 rfl rfl ?_
              refine V2_aload_n (i := 0) d_Rows_keep_3 rfl rfl ?_
              refine V2_getr (a := 40) d_Rows_keep_4 fl_Rows_26 (by decide) rfl (by decide) rfl ?_
              refine V2_alen (t := 0) (v := 4) d_Rows_keep_7 (by decide) rfl (by decide) rfl ?_
              refine V2_icmp_ge (tgt := 47) d_Rows_keep_8 rfl (fun c => (by first | exact absurd c (by decide) | exact absurd (by decide) c)) (fun _ => ?_)
              refine V2_iload_n (i := 2) d_Rows_keep_11 rfl rfl ?_
              refine V2_aload_n (i := 0) d_Rows_keep_12 rfl rfl ?_
              refine V2_getr (a := 41) d_Rows_keep_13 fl_Rows_30 (by decide) rfl (by decide) rfl ?_
              refine V2_alen (t := 0) (v := 4) d_Rows_keep_16 (by decide) rfl (by decide) rfl ?_
              refine V2_icmp_ge (tgt := 47) d_Rows_keep_17 rfl (fun c => (by first | exact absurd c (by decide) | exact absurd (by decide) c)) (fun _ => ?_)
              refine V2_aload_n (i := 0) d_Rows_keep_20 rfl rfl ?_
              refine V2_getr (a := 41) d_Rows_keep_21 fl_Rows_30 (by decide) rfl (by decide) rfl ?_
              refine V2_iload_n (i := 2) d_Rows_keep_24 rfl rfl ?_
              refine V2_iload_n (i := 2) d_Rows_keep_25 rfl rfl ?_
              refine V2_iload_n (i := 1) d_Rows_keep_26 rfl rfl ?_
              refine V2_icmp_gt (tgt := 39) d_Rows_keep_27 rfl (fun _ => ?_) (fun c => (by first | exact absurd c (by decide) | exact absurd (by decide) c))
              refine V2_iconst (v := 0) d_Rows_keep_39 rfl ?_
              refine V2_iastore (j := 2) d_Rows_keep_40 (by decide) rfl (xixA (n := 2) rfl (by decide) (by decide)) rfl ?_
              refine V2_iinc (i := 2) (v := 3) (l' := [some (.ref 36), some (.int (0 : Int32)), some (.int (3 : Int32))]) d_Rows_keep_41 rfl (by decide) (xst_i (Nat.le_of_ble_eq_true rfl) rfl rfl) ?_
              refine V2_goto (tgt := 2) d_Rows_keep_44 rfl ?_
              refine V2_iload_n (i := 2) d_Rows_keep_2 rfl rfl ?_
              refine V2_aload_n (i := 0) d_Rows_keep_3 rfl rfl ?_
              refine V2_getr (a := 40) d_Rows_keep_4 fl_Rows_26 (by decide) rfl (by decide) rfl ?_
              refine V2_alen (t := 0) (v := 4) d_Rows_keep_7 (by decide) rfl (by decide) rfl ?_
              refine V2_icmp_ge (tgt := 47) d_Rows_keep_8 rfl (fun c => (by first | exact absurd c (by decide) | exact absurd (by decide) c)) (fun _ => ?_)
              refine V2_iload_n (i := 2) d_Rows_keep_11 rfl rfl ?_
              refine V2_aload_n (i := 0) d_Rows_keep_12 rfl rfl ?_
              refine V2_getr (a := 41) d_Rows_keep_13 fl_Rows_30 (by decide) rfl (by decide) rfl ?_
              refine V2_alen (t := 0) (v := 4) d_Rows_keep_16 (by decide) rfl (by decide) rfl ?_
              refine V2_icmp_ge (tgt := 47) d_Rows_keep_17 rfl (fun c => (by first | exact absurd c (by decide) | exact absurd (by decide) c)) (fun _ => ?_)
              refine V2_aload_n (i := 0) d_Rows_keep_20 rfl rfl ?_
              refine V2_getr (a := 41) d_Rows_keep_21 fl_Rows_30 (by decide) rfl (by decide) rfl ?_
              refine V2_iload_n (i := 2) d_Rows_keep_24 rfl rfl ?_
              refine V2_iload_n (i := 2) d_Rows_keep_25 rfl rfl ?_
              refine V2_iload_n (i := 1) d_Rows_keep_26 rfl rfl ?_
              refine V2_icmp_gt (tgt := 39) d_Rows_keep_27 rfl (fun _ => ?_) (fun c => (by first | exact absurd c (by decide) | exact absurd (by decide) c))
              refine V2_iconst (v := 0) d_Rows_keep_39 rfl ?_
              refine V2_iastore (j := 3) d_Rows_keep_40 (by decide) rfl (xixA (n := 3) rfl (by decide) (by decide)) rfl ?_
              refine V2_iinc (i := 2) (v := 4) (l' := [some (.ref 36), some (.int (0 : Int32)), some (.int (4 : Int32))]) d_Rows_keep_41 rfl (by decide) (xst_i (Nat.le_of_ble_eq_true rfl) rfl rfl) ?_
              refine V2_goto (tgt := 2) d_Rows_keep_44 rfl ?_
              refine V2_iload_n (i := 2) d_Rows_keep_2 rfl rfl ?_
              refine V2_aload_n (i := 0) d_Rows_keep_3 rfl rfl ?_
              refine V2_getr (a := 40) d_Rows_keep_4 fl_Rows_26 (by decide) rfl (by decide) rfl ?_
              refine V2_alen (t := 0) (v := 4) d_Rows_keep_7 (by decide) rfl (by decide) rfl ?_
              refine V2_icmp_ge (tgt := 47) d_Rows_keep_8 rfl (fun _ => ?_) (fun c => (by first | exact absurd c (by decide) | exact absurd (by decide) c))
              refine V2_return d_Rows_keep_47 rfl ?_
              refine V2.to (st' := []) ?_ rfl rfl rfl rfl
              refine V2_iload_n (i := 3) d_Rows_canBeBetter_110 rfl rfl ?_
              refine V2_iconst (v := 1) d_Rows_canBeBetter_111 rfl ?_
              refine V2_iadd d_Rows_canBeBetter_112 ?_
              refine V2_lit (v := 2) (by decide) ?_
              refine V2_aload_n (i := 0) d_Rows_canBeBetter_113 rfl rfl ?_
              refine V2_get (v := G 36 6) d_Rows_canBeBetter_114 fl_Rows_40 (by decide) rfl (by decide) rfl rfl ?_
              refine V2_topi (fun v56 ev56 => ?_)
              refine V2_icmp_ge (tgt := 124) d_Rows_canBeBetter_117 rfl (fun c57 => ?_) (fun c57 => ?_)
              · refine V2_iconst (v := 0) d_Rows_canBeBetter_124 rfl ?_
                refine V2_zreturn d_Rows_canBeBetter_125 rfl (by decide) ?_
                refine V2.to (st' := [.int (0 : Int32)]) ?_ rfl rfl rfl rfl
                refine V2_zreturn d_Rows_goesOn_52 rfl (by decide) ?_
                have hB1 : B ≤ n := hR.1
                have hf : (B = 0 ∧ (G 36 6).toInt = (n : Int) + 1) ∨ (0 < B ∧ (G 36 6).toInt = (B : Int)) := by
                  rcases hR.2.1 with ⟨h1, h2⟩ | ⟨h1, h2⟩
                  · exact Or.inl ⟨h1, by rw [h2, nI_toInt (by omega)]; omega⟩
                  · exact Or.inr ⟨h1, by rw [h2, nI_toInt (by have := hR.1; omega)]⟩
                have hov : (bst.toInt = -1 ∧ B = 0 ∧ (G 36 7).toInt = -1000) ∨ (¬ bst.toInt = -1 ∧ (G 36 7).toInt = hi.toInt) := by
                  rcases hR.2.2 with ⟨h1, h2, h3⟩ | ⟨h1, h3, _⟩
                  · exact Or.inl ⟨h1, h2, by rw [h3]; decide⟩
                  · exact Or.inr ⟨h1, by rw [h3]⟩
                have sA : (T 2 - T 0).toInt = (T 2).toInt - (T 0).toInt := toI_sub (by omega) (by omega) (by omega) (by omega)
                have e2 : G 43 2 = T 2 := hx.2.2.2.2.2.1.2.2.1
                have e0 : G 43 0 = T 0 := hx.2.2.2.2.2.1.1
                have el : G 36 5 = nI n := hx.2.2.1
                have sA2 : (G 43 2 - G 43 0).toInt = (T 2).toInt - (T 0).toInt := by rw [e2, e0]; exact sA
                have nl : (G 36 5).toInt = (n : Int) := by rw [el]; exact nI_toInt (by omega)
                have h5 : T 5 = 1 := by
                  have h9 := c7
                  subst ev56 ev51 ev47 ev43 ev42 ev38 ev34 ev32 ev6 ev5 ev4 ev3 ev1
                  rw [hx.2.2.2.2.2.1.2.2.2.2.2.2.2] at h9
                  exact hx.2.2.2.2.2.2.2.1.2.2.2.2.2.1.resolve_left h9
                exfalso
                exact (by (try clear hQ); (try subst ev56 ev51 ev47 ev43 ev42 ev38 ev34 ev32 ev6 ev5 ev4 ev3 ev1); ((try simp only [xb_eq, xb_ne, Int32.lt_iff_toInt_lt, Int32.le_iff_toInt_le] at *) <;> (try simp only [← Int32.toInt_inj, true_and, false_and, or_false, false_or, or_true, true_or, and_true, and_false] at *) <;> omega))
              · refine V2_iconst (v := 1) d_Rows_canBeBetter_120 rfl ?_
                refine V2_goto (tgt := 125) d_Rows_canBeBetter_121 rfl ?_
                refine V2_zreturn d_Rows_canBeBetter_125 rfl (by decide) ?_
                refine V2.to (st' := [.int (1 : Int32)]) ?_ rfl rfl rfl rfl
                refine V2_zreturn d_Rows_goesOn_52 rfl (by decide) ?_
                have hB1 : B ≤ n := hR.1
                have hf : (B = 0 ∧ (G 36 6).toInt = (n : Int) + 1) ∨ (0 < B ∧ (G 36 6).toInt = (B : Int)) := by
                  rcases hR.2.1 with ⟨h1, h2⟩ | ⟨h1, h2⟩
                  · exact Or.inl ⟨h1, by rw [h2, nI_toInt (by omega)]; omega⟩
                  · exact Or.inr ⟨h1, by rw [h2, nI_toInt (by have := hR.1; omega)]⟩
                have hov : (bst.toInt = -1 ∧ B = 0 ∧ (G 36 7).toInt = -1000) ∨ (¬ bst.toInt = -1 ∧ (G 36 7).toInt = hi.toInt) := by
                  rcases hR.2.2 with ⟨h1, h2, h3⟩ | ⟨h1, h3, _⟩
                  · exact Or.inl ⟨h1, h2, by rw [h3]; decide⟩
                  · exact Or.inr ⟨h1, by rw [h3]⟩
                have sA : (T 2 - T 0).toInt = (T 2).toInt - (T 0).toInt := toI_sub (by omega) (by omega) (by omega) (by omega)
                have e2 : G 43 2 = T 2 := hx.2.2.2.2.2.1.2.2.1
                have e0 : G 43 0 = T 0 := hx.2.2.2.2.2.1.1
                have el : G 36 5 = nI n := hx.2.2.1
                have sA2 : (G 43 2 - G 43 0).toInt = (T 2).toInt - (T 0).toInt := by rw [e2, e0]; exact sA
                have nl : (G 36 5).toInt = (n : Int) := by rw [el]; exact nI_toInt (by omega)
                have h5 : T 5 = 1 := by
                  have h9 := c7
                  subst ev56 ev51 ev47 ev43 ev42 ev38 ev34 ev32 ev6 ev5 ev4 ev3 ev1
                  rw [hx.2.2.2.2.2.1.2.2.2.2.2.2.2] at h9
                  exact hx.2.2.2.2.2.2.2.1.2.2.2.2.2.1.resolve_left h9
                exfalso
                exact (by (try clear hQ); (try subst ev56 ev51 ev47 ev43 ev42 ev38 ev34 ev32 ev6 ev5 ev4 ev3 ev1); ((try simp only [xb_eq, xb_ne, Int32.lt_iff_toInt_lt, Int32.le_iff_toInt_le] at *) <;> (try simp only [← Int32.toInt_inj, true_and, false_and, or_false, false_or, or_true, true_or, and_true, and_false] at *) <;> omega))
    · refine V2_iconst (v := 1) d_Rows_canBeBetter_30 rfl ?_
      refine V2_goto (tgt := 35) d_Rows_canBeBetter_31 rfl ?_
      refine V2_istore (i := 5) (l' := [some (.ref 36), some (.int (0 : Int32)), some (.ref 43), some (.int (1 : Int32)), some (.int v5), some (.int (1 : Int32)), none]) d_Rows_canBeBetter_35 (xst_i (Nat.le_of_ble_eq_true rfl) rfl rfl) ?_
      refine V2_aload_n (i := 2) d_Rows_canBeBetter_37 rfl rfl ?_
      refine V2_get (v := G 43 7) d_Rows_canBeBetter_38 fl_Rows_80 (by decide) rfl (by decide) rfl rfl ?_
      refine V2_topi (fun v58 ev58 => ?_)
      refine V2_if_ne (tgt := 76) d_Rows_canBeBetter_41 rfl (fun c59 => ?_) (fun c59 => ?_)
      · refine V2_iconst (v := 0) d_Rows_canBeBetter_76 rfl ?_
        refine V2_istore (i := 6) (l' := [some (.ref 36), some (.int (0 : Int32)), some (.ref 43), some (.int (1 : Int32)), some (.int v5), some (.int (1 : Int32)), some (.int (0 : Int32))]) d_Rows_canBeBetter_77 (xst_i (Nat.le_of_ble_eq_true rfl) rfl rfl) ?_
        refine V2_iload (i := 5) d_Rows_canBeBetter_79 rfl ?_
        refine V2_if_eq (tgt := 89) d_Rows_canBeBetter_81 rfl (fun c => (by first | exact absurd c (by decide) | exact absurd (by decide) c)) (fun _ => ?_)
        refine V2_aload_n (i := 0) d_Rows_canBeBetter_84 rfl rfl ?_
        refine V2_iload_n (i := 3) d_Rows_canBeBetter_85 rfl rfl ?_
        refine V2_put d_Rows_canBeBetter_86 fl_Rows_40 (by decide) rfl (by decide) rfl ?_
        refine V2_iload (i := 5) d_Rows_canBeBetter_89 rfl ?_
        refine V2_if_ne (tgt := 99) d_Rows_canBeBetter_91 rfl (fun _ => ?_) (fun c => (by first | exact absurd c (by decide) | exact absurd (by decide) c))
        refine V2_aload_n (i := 0) d_Rows_canBeBetter_99 rfl rfl ?_
        refine V2_iload (i := 4) d_Rows_canBeBetter_100 rfl ?_
        refine V2_put d_Rows_canBeBetter_102 fl_Rows_43 (by decide) rfl (by decide) rfl ?_
        refine V2_aload_n (i := 0) d_Rows_canBeBetter_105 rfl rfl ?_
        refine V2_iload_n (i := 1) d_Rows_canBeBetter_106 rfl rfl ?_
        refine V2_callV [.int (0 : Int32)] d_Rows_canBeBetter_107 rfl rfl lk_Rows_132 mo_Rows_keep (by decide) rfl rfl rfl (Nat.le_of_ble_eq_true rfl) (Nat.le_of_ble_eq_true rfl) ?_
        refine V2.to (l' := [some (.ref 36), some (.int (0 : Int32)), none]) ?_ rfl rfl rfl rfl
        refine V2_iconst (v := 0) d_Rows_keep_0 rfl ?_
        refine V2_istore_n (i := 2) (l' := [some (.ref 36), some (.int (0 : Int32)), some (.int (0 : Int32))]) d_Rows_keep_1 rfl (xst_i (Nat.le_of_ble_eq_true rfl) rfl rfl) ?_
        refine V2_iload_n (i := 2) d_Rows_keep_2 rfl rfl ?_
        refine V2_aload_n (i := 0) d_Rows_keep_3 rfl rfl ?_
        refine V2_getr (a := 40) d_Rows_keep_4 fl_Rows_26 (by decide) rfl (by decide) rfl ?_
        refine V2_alen (t := 0) (v := 4) d_Rows_keep_7 (by decide) rfl (by decide) rfl ?_
        refine V2_icmp_ge (tgt := 47) d_Rows_keep_8 rfl (fun c => (by first | exact absurd c (by decide) | exact absurd (by decide) c)) (fun _ => ?_)
        refine V2_iload_n (i := 2) d_Rows_keep_11 rfl rfl ?_
        refine V2_aload_n (i := 0) d_Rows_keep_12 rfl rfl ?_
        refine V2_getr (a := 41) d_Rows_keep_13 fl_Rows_30 (by decide) rfl (by decide) rfl ?_
        refine V2_alen (t := 0) (v := 4) d_Rows_keep_16 (by decide) rfl (by decide) rfl ?_
        refine V2_icmp_ge (tgt := 47) d_Rows_keep_17 rfl (fun c => (by first | exact absurd c (by decide) | exact absurd (by decide) c)) (fun _ => ?_)
        refine V2_aload_n (i := 0) d_Rows_keep_20 rfl rfl ?_
        refine V2_getr (a := 41) d_Rows_keep_21 fl_Rows_30 (by decide) rfl (by decide) rfl ?_
        refine V2_iload_n (i := 2) d_Rows_keep_24 rfl rfl ?_
        refine V2_iload_n (i := 2) d_Rows_keep_25 rfl rfl ?_
        refine V2_iload_n (i := 1) d_Rows_keep_26 rfl rfl ?_
        refine V2_icmp_gt (tgt := 39) d_Rows_keep_27 rfl (fun c => (by first | exact absurd c (by decide) | exact absurd (by decide) c)) (fun _ => ?_)
        refine V2_aload_n (i := 0) d_Rows_keep_30 rfl rfl ?_
        refine V2_getr (a := 40) d_Rows_keep_31 fl_Rows_26 (by decide) rfl (by decide) rfl ?_
        refine V2_iload_n (i := 2) d_Rows_keep_34 rfl rfl ?_
        refine V2_iaload (v := G 40 0) d_Rows_keep_35 (by decide) rfl (xixA (n := 0) rfl (by decide) (by decide)) rfl ?_
        refine V2_topi (fun v60 ev60 => ?_)
        refine V2_goto (tgt := 40) d_Rows_keep_36 rfl ?_
        refine V2_iastore (j := 0) d_Rows_keep_40 (by decide) rfl (xixA (n := 0) rfl (by decide) (by decide)) rfl ?_
        refine V2_iinc (i := 2) (v := 1) (l' := [some (.ref 36), some (.int (0 : Int32)), some (.int (1 : Int32))]) d_Rows_keep_41 rfl (by decide) (xst_i (Nat.le_of_ble_eq_true rfl) rfl rfl) ?_
        refine V2_goto (tgt := 2) d_Rows_keep_44 rfl ?_
        refine V2_iload_n (i := 2) d_Rows_keep_2 rfl rfl ?_
        refine V2_aload_n (i := 0) d_Rows_keep_3 rfl rfl ?_
        refine V2_getr (a := 40) d_Rows_keep_4 fl_Rows_26 (by decide) rfl (by decide) rfl ?_
        refine V2_alen (t := 0) (v := 4) d_Rows_keep_7 (by decide) rfl (by decide) rfl ?_
        refine V2_icmp_ge (tgt := 47) d_Rows_keep_8 rfl (fun c => (by first | exact absurd c (by decide) | exact absurd (by decide) c)) (fun _ => ?_)
        refine V2_iload_n (i := 2) d_Rows_keep_11 rfl rfl ?_
        refine V2_aload_n (i := 0) d_Rows_keep_12 rfl rfl ?_
        refine V2_getr (a := 41) d_Rows_keep_13 fl_Rows_30 (by decide) rfl (by decide) rfl ?_
        refine V2_alen (t := 0) (v := 4) d_Rows_keep_16 (by decide) rfl (by decide) rfl ?_
        refine V2_icmp_ge (tgt := 47) d_Rows_keep_17 rfl (fun c => (by first | exact absurd c (by decide) | exact absurd (by decide) c)) (fun _ => ?_)
        refine V2_aload_n (i := 0) d_Rows_keep_20 rfl rfl ?_
        refine V2_getr (a := 41) d_Rows_keep_21 fl_Rows_30 (by decide) rfl (by decide) rfl ?_
        refine V2_iload_n (i := 2) d_Rows_keep_24 rfl rfl ?_
        refine V2_iload_n (i := 2) d_Rows_keep_25 rfl rfl ?_
        refine V2_iload_n (i := 1) d_Rows_keep_26 rfl rfl ?_
        refine V2_icmp_gt (tgt := 39) d_Rows_keep_27 rfl (fun _ => ?_) (fun c => (by first | exact absurd c (by decide) | exact absurd (by decide) c))
        refine V2_iconst (v := 0) d_Rows_keep_39 rfl ?_
        refine V2_iastore (j := 1) d_Rows_keep_40 (by decide) rfl (xixA (n := 1) rfl (by decide) (by decide)) rfl ?_
        refine V2_iinc (i := 2) (v := 2) (l' := [some (.ref 36), some (.int (0 : Int32)), some (.int (2 : Int32))]) d_Rows_keep_41 rfl (by decide) (xst_i (Nat.le_of_ble_eq_true rfl) rfl rfl) ?_
        refine V2_goto (tgt := 2) d_Rows_keep_44 rfl ?_
        refine V2_iload_n (i := 2) d_Rows_keep_2 rfl rfl ?_
        refine V2_aload_n (i := 0) d_Rows_keep_3 rfl rfl ?_
        refine V2_getr (a := 40) d_Rows_keep_4 fl_Rows_26 (by decide) rfl (by decide) rfl ?_
        refine V2_alen (t := 0) (v := 4) d_Rows_keep_7 (by decide) rfl (by decide) rfl ?_
        refine V2_icmp_ge (tgt := 47) d_Rows_keep_8 rfl (fun c => (by first | exact absurd c (by decide) | exact absurd (by decide) c)) (fun _ => ?_)
        refine V2_iload_n (i := 2) d_Rows_keep_11 rfl rfl ?_
        refine V2_aload_n (i := 0) d_Rows_keep_12 rfl rfl ?_
        refine V2_getr (a := 41) d_Rows_keep_13 fl_Rows_30 (by decide) rfl (by decide) rfl ?_
        refine V2_alen (t := 0) (v := 4) d_Rows_keep_16 (by decide) rfl (by decide) rfl ?_
        refine V2_icmp_ge (tgt := 47) d_Rows_keep_17 rfl (fun c => (by first | exact absurd c (by decide) | exact absurd (by decide) c)) (fun _ => ?_)
        refine V2_aload_n (i := 0) d_Rows_keep_20 rfl rfl ?_
        refine V2_getr (a := 41) d_Rows_keep_21 fl_Rows_30 (by decide) rfl (by decide) rfl ?_
        refine V2_iload_n (i := 2) d_Rows_keep_24 rfl rfl ?_
        refine V2_iload_n (i := 2) d_Rows_keep_25 rfl rfl ?_
        refine V2_iload_n (i := 1) d_Rows_keep_26 rfl rfl ?_
        refine V2_icmp_gt (tgt := 39) d_Rows_keep_27 rfl (fun _ => ?_) (fun c => (by first | exact absurd c (by decide) | exact absurd (by decide) c))
        refine V2_iconst (v := 0) d_Rows_keep_39 rfl ?_
        refine V2_iastore (j := 2) d_Rows_keep_40 (by decide) rfl (xixA (n := 2) rfl (by decide) (by decide)) rfl ?_
        refine V2_iinc (i := 2) (v := 3) (l' := [some (.ref 36), some (.int (0 : Int32)), some (.int (3 : Int32))]) d_Rows_keep_41 rfl (by decide) (xst_i (Nat.le_of_ble_eq_true rfl) rfl rfl) ?_
        refine V2_goto (tgt := 2) d_Rows_keep_44 rfl ?_
        refine V2_iload_n (i := 2) d_Rows_keep_2 rfl rfl ?_
        refine V2_aload_n (i := 0) d_Rows_keep_3 rfl rfl ?_
        refine V2_getr (a := 40) d_Rows_keep_4 fl_Rows_26 (by decide) rfl (by decide) rfl ?_
        refine V2_alen (t := 0) (v := 4) d_Rows_keep_7 (by decide) rfl (by decide) rfl ?_
        refine V2_icmp_ge (tgt := 47) d_Rows_keep_8 rfl (fun c => (by first | exact absurd c (by decide) | exact absurd (by decide) c)) (fun _ => ?_)
        refine V2_iload_n (i := 2) d_Rows_keep_11 rfl rfl ?_
        refine V2_aload_n (i := 0) d_Rows_keep_12 rfl rfl ?_
        refine V2_getr (a := 41) d_Rows_keep_13 fl_Rows_30 (by decide) rfl (by decide) rfl ?_
        refine V2_alen (t := 0) (v := 4) d_Rows_keep_16 (by decide) rfl (by decide) rfl ?_
        refine V2_icmp_ge (tgt := 47) d_Rows_keep_17 rfl (fun c => (by first | exact absurd c (by decide) | exact absurd (by decide) c)) (fun _ => ?_)
        refine V2_aload_n (i := 0) d_Rows_keep_20 rfl rfl ?_
        refine V2_getr (a := 41) d_Rows_keep_21 fl_Rows_30 (by decide) rfl (by decide) rfl ?_
        refine V2_iload_n (i := 2) d_Rows_keep_24 rfl rfl ?_
        refine V2_iload_n (i := 2) d_Rows_keep_25 rfl rfl ?_
        refine V2_iload_n (i := 1) d_Rows_keep_26 rfl rfl ?_
        refine V2_icmp_gt (tgt := 39) d_Rows_keep_27 rfl (fun _ => ?_) (fun c => (by first | exact absurd c (by decide) | exact absurd (by decide) c))
        refine V2_iconst (v := 0) d_Rows_keep_39 rfl ?_
        refine V2_iastore (j := 3) d_Rows_keep_40 (by decide) rfl (xixA (n := 3) rfl (by decide) (by decide)) rfl ?_
        refine V2_iinc (i := 2) (v := 4) (l' := [some (.ref 36), some (.int (0 : Int32)), some (.int (4 : Int32))]) d_Rows_keep_41 rfl (by decide) (xst_i (Nat.le_of_ble_eq_true rfl) rfl rfl) ?_
        refine V2_goto (tgt := 2) d_Rows_keep_44 rfl ?_
        refine V2_iload_n (i := 2) d_Rows_keep_2 rfl rfl ?_
        refine V2_aload_n (i := 0) d_Rows_keep_3 rfl rfl ?_
        refine V2_getr (a := 40) d_Rows_keep_4 fl_Rows_26 (by decide) rfl (by decide) rfl ?_
        refine V2_alen (t := 0) (v := 4) d_Rows_keep_7 (by decide) rfl (by decide) rfl ?_
        refine V2_icmp_ge (tgt := 47) d_Rows_keep_8 rfl (fun _ => ?_) (fun c => (by first | exact absurd c (by decide) | exact absurd (by decide) c))
        refine V2_return d_Rows_keep_47 rfl ?_
        refine V2.to (st' := []) ?_ rfl rfl rfl rfl
        refine V2_iload_n (i := 3) d_Rows_canBeBetter_110 rfl rfl ?_
        refine V2_iconst (v := 1) d_Rows_canBeBetter_111 rfl ?_
        refine V2_iadd d_Rows_canBeBetter_112 ?_
        refine V2_lit (v := 2) (by decide) ?_
        refine V2_aload_n (i := 0) d_Rows_canBeBetter_113 rfl rfl ?_
        refine V2_get (v := (1 : Int32)) d_Rows_canBeBetter_114 fl_Rows_40 (by decide) rfl (by decide) rfl rfl ?_
        refine V2_icmp_ge (tgt := 124) d_Rows_canBeBetter_117 rfl (fun _ => ?_) (fun c => (by first | exact absurd c (by decide) | exact absurd (by decide) c))
        refine V2_iconst (v := 0) d_Rows_canBeBetter_124 rfl ?_
        refine V2_zreturn d_Rows_canBeBetter_125 rfl (by decide) ?_
        refine V2.to (st' := [.int (0 : Int32)]) ?_ rfl rfl rfl rfl
        refine V2_zreturn d_Rows_goesOn_52 rfl (by decide) ?_
        have hB1 : B ≤ n := hR.1
        have hf : (B = 0 ∧ (G 36 6).toInt = (n : Int) + 1) ∨ (0 < B ∧ (G 36 6).toInt = (B : Int)) := by
          rcases hR.2.1 with ⟨h1, h2⟩ | ⟨h1, h2⟩
          · exact Or.inl ⟨h1, by rw [h2, nI_toInt (by omega)]; omega⟩
          · exact Or.inr ⟨h1, by rw [h2, nI_toInt (by have := hR.1; omega)]⟩
        have hov : (bst.toInt = -1 ∧ B = 0 ∧ (G 36 7).toInt = -1000) ∨ (¬ bst.toInt = -1 ∧ (G 36 7).toInt = hi.toInt) := by
          rcases hR.2.2 with ⟨h1, h2, h3⟩ | ⟨h1, h3, _⟩
          · exact Or.inl ⟨h1, h2, by rw [h3]; decide⟩
          · exact Or.inr ⟨h1, by rw [h3]⟩
        have sA : (T 2 - T 0).toInt = (T 2).toInt - (T 0).toInt := toI_sub (by omega) (by omega) (by omega) (by omega)
        have e2 : G 43 2 = T 2 := hx.2.2.2.2.2.1.2.2.1
        have e0 : G 43 0 = T 0 := hx.2.2.2.2.2.1.1
        have el : G 36 5 = nI n := hx.2.2.1
        have sA2 : (G 43 2 - G 43 0).toInt = (T 2).toInt - (T 0).toInt := by rw [e2, e0]; exact sA
        have nl : (G 36 5).toInt = (n : Int) := by rw [el]; exact nI_toInt (by omega)
        have h5 : T 5 = 1 := by
          have h9 := c7
          subst ev60 ev58 ev32 ev6 ev5 ev4 ev3 ev1
          rw [hx.2.2.2.2.2.1.2.2.2.2.2.2.2] at h9
          exact hx.2.2.2.2.2.2.2.1.2.2.2.2.2.1.resolve_left h9
        have hrow : ∀ i, pre * 10 ^ (n - (0 + 1)) ≤ i → i < pre * 10 ^ (n - (0 + 1)) + 10 ^ (n - (0 + 1)) → trN (PN S) n i S = ((trN (PN S) (n - (0 + 1)) (i - pre * 10 ^ (n - (0 + 1))) T).1.map (fun j => j + (0 + 1)), (trN (PN S) (n - (0 + 1)) (i - pre * 10 ^ (n - (0 + 1))) T).2) := by
          intro i h1 h2
          have hs := hx.2.2.2.2.2.2.2.2 (i - pre * 10 ^ (n - (0 + 1))) (by omega)
          rw [show pre * 10 ^ (n - (0 + 1)) + (i - pre * 10 ^ (n - (0 + 1))) = i by omega] at hs
          exact hs
        have hlB : B = 0 ∨ 0 + 1 < B := (by (try clear hQ); (try subst ev60 ev58 ev32 ev6 ev5 ev4 ev3 ev1); ((try simp only [xb_eq, xb_ne, Int32.lt_iff_toInt_lt, Int32.le_iff_toInt_le] at *) <;> (try simp only [← Int32.toInt_inj, true_and, false_and, or_false, false_or, or_true, true_or, and_true, and_false] at *) <;> omega))
        have hbig := fit_lt (n := n) (l := 0) (by omega) hx.2.2.2.2.1
        have hp4 := pow4 hn
        subst ev60 ev58 ev32 ev6 ev5 ev4 ev3 ev1
        refine hQ _ 0 ⟨fun a h1 h2 => ?_, rfl, rfl⟩ (Or.inr ⟨Or.inl rfl, ?_⟩)
        · repeat (first | rw [xp_row_ne h1] | rw [xp_row_ne h2])
          try rfl
        · have ef : procP n S (pre * 10 ^ (n - (0 + 1))) (bst, B, hi) = (nI (pre * 10 ^ (n - (0 + 1))), 0 + 1, T 2 - T 0) := by
            have e1 := hrow (pre * 10 ^ (n - (0 + 1))) (Nat.le_refl _) (by have : 0 < 10 ^ (n - (0 + 1)) := Nat.pow_pos (by decide); omega)
            rw [tr_1 h5] at e1
            refine (pP_t e1 ?_).trans ?_
            · refine Or.inr (Or.inl ⟨by show 0 < 0 + (0 + 1); omega, ?_⟩)
              show B = 0 ∨ 0 + (0 + 1) < B
              omega
            · show (nI _, 0 + (0 + 1), T 2 - T 0) = _
              rw [Nat.zero_add]
          rw [blk_first (procP n S) (Nat.pow_pos (by decide)) ef (fun i h1 h2 => ?_)]
          · refine ⟨by show 0 + 1 ≤ n; omega, Or.inr ⟨Nat.succ_pos _, rfl⟩, Or.inr ⟨nI_nn1 (by omega), ?_, pre * 10 ^ (n - (0 + 1)), rfl, hbig, fun i hi9 => ?_⟩⟩
            · show _ = T 2 - T 0
              rw [← e2, ← e0]
              rfl
            rcases (show i = 0 ∨ i = 1 ∨ i = 2 ∨ i = 3 by omega) with h9 | h9 | h9 | h9
            · subst h9
              rw [(dig_pad (pre := pre) (r := (n - (0 + 1))) (l := 0) (n := n) (i := 0) (by omega)).1 (by omega)]
              exact hx.2.2.2.1 0 (by omega)
            · subst h9
              rw [(dig_pad (pre := pre) (r := (n - (0 + 1))) (l := 0) (n := n) (i := 1) (by omega)).2 (by omega) hi9]
              exact rfl
            · subst h9
              rw [(dig_pad (pre := pre) (r := (n - (0 + 1))) (l := 0) (n := n) (i := 2) (by omega)).2 (by omega) hi9]
              exact rfl
            · subst h9
              rw [(dig_pad (pre := pre) (r := (n - (0 + 1))) (l := 0) (n := n) (i := 3) (by omega)).2 (by omega) hi9]
              exact rfl
          · have e1 := hrow i (by omega) h2
            rw [tr_1 h5] at e1
            refine pP_f e1 ?_
            show ¬ ((nI _).toInt = -1 ∨ (0 < 0 + (0 + 1) ∧ (0 + 1 = 0 ∨ 0 + (0 + 1) < 0 + 1)) ∨ (0 + (0 + 1) = 0 ∧ _))
            have := nI_nn1 (k := pre * 10 ^ (n - (0 + 1))) (by omega)
            omega
      · refine V2_iload_n (i := 3) d_Rows_canBeBetter_44 rfl rfl ?_
        refine V2_aload_n (i := 0) d_Rows_canBeBetter_45 rfl rfl ?_
        refine V2_get (v := G 36 5) d_Rows_canBeBetter_46 fl_Rows_37 (by decide) rfl (by decide) rfl rfl ?_
        refine V2_topi (fun v65 ev65 => ?_)
        refine V2_icmp_ne (tgt := 76) d_Rows_canBeBetter_49 rfl (fun c66 => ?_) (fun c66 => ?_)
        · refine V2_iconst (v := 0) d_Rows_canBeBetter_76 rfl ?_
          refine V2_istore (i := 6) (l' := [some (.ref 36), some (.int (0 : Int32)), some (.ref 43), some (.int (1 : Int32)), some (.int v5), some (.int (1 : Int32)), some (.int (0 : Int32))]) d_Rows_canBeBetter_77 (xst_i (Nat.le_of_ble_eq_true rfl) rfl rfl) ?_
          refine V2_iload (i := 5) d_Rows_canBeBetter_79 rfl ?_
          refine V2_if_eq (tgt := 89) d_Rows_canBeBetter_81 rfl (fun c => (by first | exact absurd c (by decide) | exact absurd (by decide) c)) (fun _ => ?_)
          refine V2_aload_n (i := 0) d_Rows_canBeBetter_84 rfl rfl ?_
          refine V2_iload_n (i := 3) d_Rows_canBeBetter_85 rfl rfl ?_
          refine V2_put d_Rows_canBeBetter_86 fl_Rows_40 (by decide) rfl (by decide) rfl ?_
          refine V2_iload (i := 5) d_Rows_canBeBetter_89 rfl ?_
          refine V2_if_ne (tgt := 99) d_Rows_canBeBetter_91 rfl (fun _ => ?_) (fun c => (by first | exact absurd c (by decide) | exact absurd (by decide) c))
          refine V2_aload_n (i := 0) d_Rows_canBeBetter_99 rfl rfl ?_
          refine V2_iload (i := 4) d_Rows_canBeBetter_100 rfl ?_
          refine V2_put d_Rows_canBeBetter_102 fl_Rows_43 (by decide) rfl (by decide) rfl ?_
          refine V2_aload_n (i := 0) d_Rows_canBeBetter_105 rfl rfl ?_
          refine V2_iload_n (i := 1) d_Rows_canBeBetter_106 rfl rfl ?_
          refine V2_callV [.int (0 : Int32)] d_Rows_canBeBetter_107 rfl rfl lk_Rows_132 mo_Rows_keep (by decide) rfl rfl rfl (Nat.le_of_ble_eq_true rfl) (Nat.le_of_ble_eq_true rfl) ?_
          refine V2.to (l' := [some (.ref 36), some (.int (0 : Int32)), none]) ?_ rfl rfl rfl rfl
          refine V2_iconst (v := 0) d_Rows_keep_0 rfl ?_
          refine V2_istore_n (i := 2) (l' := [some (.ref 36), some (.int (0 : Int32)), some (.int (0 : Int32))]) d_Rows_keep_1 rfl (xst_i (Nat.le_of_ble_eq_true rfl) rfl rfl) ?_
          refine V2_iload_n (i := 2) d_Rows_keep_2 rfl rfl ?_
          refine V2_aload_n (i := 0) d_Rows_keep_3 rfl rfl ?_
          refine V2_getr (a := 40) d_Rows_keep_4 fl_Rows_26 (by decide) rfl (by decide) rfl ?_
          refine V2_alen (t := 0) (v := 4) d_Rows_keep_7 (by decide) rfl (by decide) rfl ?_
          refine V2_icmp_ge (tgt := 47) d_Rows_keep_8 rfl (fun c => (by first | exact absurd c (by decide) | exact absurd (by decide) c)) (fun _ => ?_)
          refine V2_iload_n (i := 2) d_Rows_keep_11 rfl rfl ?_
          refine V2_aload_n (i := 0) d_Rows_keep_12 rfl rfl ?_
          refine V2_getr (a := 41) d_Rows_keep_13 fl_Rows_30 (by decide) rfl (by decide) rfl ?_
          refine V2_alen (t := 0) (v := 4) d_Rows_keep_16 (by decide) rfl (by decide) rfl ?_
          refine V2_icmp_ge (tgt := 47) d_Rows_keep_17 rfl (fun c => (by first | exact absurd c (by decide) | exact absurd (by decide) c)) (fun _ => ?_)
          refine V2_aload_n (i := 0) d_Rows_keep_20 rfl rfl ?_
          refine V2_getr (a := 41) d_Rows_keep_21 fl_Rows_30 (by decide) rfl (by decide) rfl ?_
          refine V2_iload_n (i := 2) d_Rows_keep_24 rfl rfl ?_
          refine V2_iload_n (i := 2) d_Rows_keep_25 rfl rfl ?_
          refine V2_iload_n (i := 1) d_Rows_keep_26 rfl rfl ?_
          refine V2_icmp_gt (tgt := 39) d_Rows_keep_27 rfl (fun c => (by first | exact absurd c (by decide) | exact absurd (by decide) c)) (fun _ => ?_)
          refine V2_aload_n (i := 0) d_Rows_keep_30 rfl rfl ?_
          refine V2_getr (a := 40) d_Rows_keep_31 fl_Rows_26 (by decide) rfl (by decide) rfl ?_
          refine V2_iload_n (i := 2) d_Rows_keep_34 rfl rfl ?_
          refine V2_iaload (v := G 40 0) d_Rows_keep_35 (by decide) rfl (xixA (n := 0) rfl (by decide) (by decide)) rfl ?_
          refine V2_topi (fun v67 ev67 => ?_)
          refine V2_goto (tgt := 40) d_Rows_keep_36 rfl ?_
          refine V2_iastore (j := 0) d_Rows_keep_40 (by decide) rfl (xixA (n := 0) rfl (by decide) (by decide)) rfl ?_
          refine V2_iinc (i := 2) (v := 1) (l' := [some (.ref 36), some (.int (0 : Int32)), some (.int (1 : Int32))]) d_Rows_keep_41 rfl (by decide) (xst_i (Nat.le_of_ble_eq_true rfl) rfl rfl) ?_
          refine V2_goto (tgt := 2) d_Rows_keep_44 rfl ?_
          refine V2_iload_n (i := 2) d_Rows_keep_2 rfl rfl ?_
          refine V2_aload_n (i := 0) d_Rows_keep_3 rfl rfl ?_
          refine V2_getr (a := 40) d_Rows_keep_4 fl_Rows_26 (by decide) rfl (by decide) rfl ?_
          refine V2_alen (t := 0) (v := 4) d_Rows_keep_7 (by decide) rfl (by decide) rfl ?_
          refine V2_icmp_ge (tgt := 47) d_Rows_keep_8 rfl (fun c => (by first | exact absurd c (by decide) | exact absurd (by decide) c)) (fun _ => ?_)
          refine V2_iload_n (i := 2) d_Rows_keep_11 rfl rfl ?_
          refine V2_aload_n (i := 0) d_Rows_keep_12 rfl rfl ?_
          refine V2_getr (a := 41) d_Rows_keep_13 fl_Rows_30 (by decide) rfl (by decide) rfl ?_
          refine V2_alen (t := 0) (v := 4) d_Rows_keep_16 (by decide) rfl (by decide) rfl ?_
          refine V2_icmp_ge (tgt := 47) d_Rows_keep_17 rfl (fun c => (by first | exact absurd c (by decide) | exact absurd (by decide) c)) (fun _ => ?_)
          refine V2_aload_n (i := 0) d_Rows_keep_20 rfl rfl ?_
          refine V2_getr (a := 41) d_Rows_keep_21 fl_Rows_30 (by decide) rfl (by decide) rfl ?_
          refine V2_iload_n (i := 2) d_Rows_keep_24 rfl rfl ?_
          refine V2_iload_n (i := 2) d_Rows_keep_25 rfl rfl ?_
          refine V2_iload_n (i := 1) d_Rows_keep_26 rfl rfl ?_
          refine V2_icmp_gt (tgt := 39) d_Rows_keep_27 rfl (fun _ => ?_) (fun c => (by first | exact absurd c (by decide) | exact absurd (by decide) c))
          refine V2_iconst (v := 0) d_Rows_keep_39 rfl ?_
          refine V2_iastore (j := 1) d_Rows_keep_40 (by decide) rfl (xixA (n := 1) rfl (by decide) (by decide)) rfl ?_
          refine V2_iinc (i := 2) (v := 2) (l' := [some (.ref 36), some (.int (0 : Int32)), some (.int (2 : Int32))]) d_Rows_keep_41 rfl (by decide) (xst_i (Nat.le_of_ble_eq_true rfl) rfl rfl) ?_
          refine V2_goto (tgt := 2) d_Rows_keep_44 rfl ?_
          refine V2_iload_n (i := 2) d_Rows_keep_2 rfl rfl ?_
          refine V2_aload_n (i := 0) d_Rows_keep_3 rfl rfl ?_
          refine V2_getr (a := 40) d_Rows_keep_4 fl_Rows_26 (by decide) rfl (by decide) rfl ?_
          refine V2_alen (t := 0) (v := 4) d_Rows_keep_7 (by decide) rfl (by decide) rfl ?_
          refine V2_icmp_ge (tgt := 47) d_Rows_keep_8 rfl (fun c => (by first | exact absurd c (by decide) | exact absurd (by decide) c)) (fun _ => ?_)
          refine V2_iload_n (i := 2) d_Rows_keep_11 rfl rfl ?_
          refine V2_aload_n (i := 0) d_Rows_keep_12 rfl rfl ?_
          refine V2_getr (a := 41) d_Rows_keep_13 fl_Rows_30 (by decide) rfl (by decide) rfl ?_
          refine V2_alen (t := 0) (v := 4) d_Rows_keep_16 (by decide) rfl (by decide) rfl ?_
          refine V2_icmp_ge (tgt := 47) d_Rows_keep_17 rfl (fun c => (by first | exact absurd c (by decide) | exact absurd (by decide) c)) (fun _ => ?_)
          refine V2_aload_n (i := 0) d_Rows_keep_20 rfl rfl ?_
          refine V2_getr (a := 41) d_Rows_keep_21 fl_Rows_30 (by decide) rfl (by decide) rfl ?_
          refine V2_iload_n (i := 2) d_Rows_keep_24 rfl rfl ?_
          refine V2_iload_n (i := 2) d_Rows_keep_25 rfl rfl ?_
          refine V2_iload_n (i := 1) d_Rows_keep_26 rfl rfl ?_
          refine V2_icmp_gt (tgt := 39) d_Rows_keep_27 rfl (fun _ => ?_) (fun c => (by first | exact absurd c (by decide) | exact absurd (by decide) c))
          refine V2_iconst (v := 0) d_Rows_keep_39 rfl ?_
          refine V2_iastore (j := 2) d_Rows_keep_40 (by decide) rfl (xixA (n := 2) rfl (by decide) (by decide)) rfl ?_
          refine V2_iinc (i := 2) (v := 3) (l' := [some (.ref 36), some (.int (0 : Int32)), some (.int (3 : Int32))]) d_Rows_keep_41 rfl (by decide) (xst_i (Nat.le_of_ble_eq_true rfl) rfl rfl) ?_
          refine V2_goto (tgt := 2) d_Rows_keep_44 rfl ?_
          refine V2_iload_n (i := 2) d_Rows_keep_2 rfl rfl ?_
          refine V2_aload_n (i := 0) d_Rows_keep_3 rfl rfl ?_
          refine V2_getr (a := 40) d_Rows_keep_4 fl_Rows_26 (by decide) rfl (by decide) rfl ?_
          refine V2_alen (t := 0) (v := 4) d_Rows_keep_7 (by decide) rfl (by decide) rfl ?_
          refine V2_icmp_ge (tgt := 47) d_Rows_keep_8 rfl (fun c => (by first | exact absurd c (by decide) | exact absurd (by decide) c)) (fun _ => ?_)
          refine V2_iload_n (i := 2) d_Rows_keep_11 rfl rfl ?_
          refine V2_aload_n (i := 0) d_Rows_keep_12 rfl rfl ?_
          refine V2_getr (a := 41) d_Rows_keep_13 fl_Rows_30 (by decide) rfl (by decide) rfl ?_
          refine V2_alen (t := 0) (v := 4) d_Rows_keep_16 (by decide) rfl (by decide) rfl ?_
          refine V2_icmp_ge (tgt := 47) d_Rows_keep_17 rfl (fun c => (by first | exact absurd c (by decide) | exact absurd (by decide) c)) (fun _ => ?_)
          refine V2_aload_n (i := 0) d_Rows_keep_20 rfl rfl ?_
          refine V2_getr (a := 41) d_Rows_keep_21 fl_Rows_30 (by decide) rfl (by decide) rfl ?_
          refine V2_iload_n (i := 2) d_Rows_keep_24 rfl rfl ?_
          refine V2_iload_n (i := 2) d_Rows_keep_25 rfl rfl ?_
          refine V2_iload_n (i := 1) d_Rows_keep_26 rfl rfl ?_
          refine V2_icmp_gt (tgt := 39) d_Rows_keep_27 rfl (fun _ => ?_) (fun c => (by first | exact absurd c (by decide) | exact absurd (by decide) c))
          refine V2_iconst (v := 0) d_Rows_keep_39 rfl ?_
          refine V2_iastore (j := 3) d_Rows_keep_40 (by decide) rfl (xixA (n := 3) rfl (by decide) (by decide)) rfl ?_
          refine V2_iinc (i := 2) (v := 4) (l' := [some (.ref 36), some (.int (0 : Int32)), some (.int (4 : Int32))]) d_Rows_keep_41 rfl (by decide) (xst_i (Nat.le_of_ble_eq_true rfl) rfl rfl) ?_
          refine V2_goto (tgt := 2) d_Rows_keep_44 rfl ?_
          refine V2_iload_n (i := 2) d_Rows_keep_2 rfl rfl ?_
          refine V2_aload_n (i := 0) d_Rows_keep_3 rfl rfl ?_
          refine V2_getr (a := 40) d_Rows_keep_4 fl_Rows_26 (by decide) rfl (by decide) rfl ?_
          refine V2_alen (t := 0) (v := 4) d_Rows_keep_7 (by decide) rfl (by decide) rfl ?_
          refine V2_icmp_ge (tgt := 47) d_Rows_keep_8 rfl (fun _ => ?_) (fun c => (by first | exact absurd c (by decide) | exact absurd (by decide) c))
          refine V2_return d_Rows_keep_47 rfl ?_
          refine V2.to (st' := []) ?_ rfl rfl rfl rfl
          refine V2_iload_n (i := 3) d_Rows_canBeBetter_110 rfl rfl ?_
          refine V2_iconst (v := 1) d_Rows_canBeBetter_111 rfl ?_
          refine V2_iadd d_Rows_canBeBetter_112 ?_
          refine V2_lit (v := 2) (by decide) ?_
          refine V2_aload_n (i := 0) d_Rows_canBeBetter_113 rfl rfl ?_
          refine V2_get (v := (1 : Int32)) d_Rows_canBeBetter_114 fl_Rows_40 (by decide) rfl (by decide) rfl rfl ?_
          refine V2_icmp_ge (tgt := 124) d_Rows_canBeBetter_117 rfl (fun _ => ?_) (fun c => (by first | exact absurd c (by decide) | exact absurd (by decide) c))
          refine V2_iconst (v := 0) d_Rows_canBeBetter_124 rfl ?_
          refine V2_zreturn d_Rows_canBeBetter_125 rfl (by decide) ?_
          refine V2.to (st' := [.int (0 : Int32)]) ?_ rfl rfl rfl rfl
          refine V2_zreturn d_Rows_goesOn_52 rfl (by decide) ?_
          have hB1 : B ≤ n := hR.1
          have hf : (B = 0 ∧ (G 36 6).toInt = (n : Int) + 1) ∨ (0 < B ∧ (G 36 6).toInt = (B : Int)) := by
            rcases hR.2.1 with ⟨h1, h2⟩ | ⟨h1, h2⟩
            · exact Or.inl ⟨h1, by rw [h2, nI_toInt (by omega)]; omega⟩
            · exact Or.inr ⟨h1, by rw [h2, nI_toInt (by have := hR.1; omega)]⟩
          have hov : (bst.toInt = -1 ∧ B = 0 ∧ (G 36 7).toInt = -1000) ∨ (¬ bst.toInt = -1 ∧ (G 36 7).toInt = hi.toInt) := by
            rcases hR.2.2 with ⟨h1, h2, h3⟩ | ⟨h1, h3, _⟩
            · exact Or.inl ⟨h1, h2, by rw [h3]; decide⟩
            · exact Or.inr ⟨h1, by rw [h3]⟩
          have sA : (T 2 - T 0).toInt = (T 2).toInt - (T 0).toInt := toI_sub (by omega) (by omega) (by omega) (by omega)
          have e2 : G 43 2 = T 2 := hx.2.2.2.2.2.1.2.2.1
          have e0 : G 43 0 = T 0 := hx.2.2.2.2.2.1.1
          have el : G 36 5 = nI n := hx.2.2.1
          have sA2 : (G 43 2 - G 43 0).toInt = (T 2).toInt - (T 0).toInt := by rw [e2, e0]; exact sA
          have nl : (G 36 5).toInt = (n : Int) := by rw [el]; exact nI_toInt (by omega)
          have h5 : T 5 = 1 := by
            have h9 := c7
            subst ev67 ev65 ev58 ev32 ev6 ev5 ev4 ev3 ev1
            rw [hx.2.2.2.2.2.1.2.2.2.2.2.2.2] at h9
            exact hx.2.2.2.2.2.2.2.1.2.2.2.2.2.1.resolve_left h9
          exfalso
          exact (by (try clear hQ); (try subst ev67 ev65 ev58 ev32 ev6 ev5 ev4 ev3 ev1); ((try simp only [xb_eq, xb_ne, Int32.lt_iff_toInt_lt, Int32.le_iff_toInt_le] at *) <;> (try simp only [← Int32.toInt_inj, true_and, false_and, or_false, false_or, or_true, true_or, and_true, and_false] at *) <;> omega))
        · refine V2_aload_n (i := 0) d_Rows_canBeBetter_52 rfl rfl ?_
          refine V2_get (v := G 36 6) d_Rows_canBeBetter_53 fl_Rows_40 (by decide) rfl (by decide) rfl rfl ?_
          refine V2_topi (fun v72 ev72 => ?_)
          refine V2_aload_n (i := 0) d_Rows_canBeBetter_56 rfl rfl ?_
          refine V2_get (v := G 36 5) d_Rows_canBeBetter_57 fl_Rows_37 (by decide) rfl (by decide) rfl rfl ?_
          refine V2_topi (fun v73 ev73 => ?_)
          refine V2_icmp_le (tgt := 76) d_Rows_canBeBetter_60 rfl (fun c74 => ?_) (fun c74 => ?_)
          · refine V2_iconst (v := 0) d_Rows_canBeBetter_76 rfl ?_
            refine V2_istore (i := 6) (l' := [some (.ref 36), some (.int (0 : Int32)), some (.ref 43), some (.int (1 : Int32)), some (.int v5), some (.int (1 : Int32)), some (.int (0 : Int32))]) d_Rows_canBeBetter_77 (xst_i (Nat.le_of_ble_eq_true rfl) rfl rfl) ?_
            refine V2_iload (i := 5) d_Rows_canBeBetter_79 rfl ?_
            refine V2_if_eq (tgt := 89) d_Rows_canBeBetter_81 rfl (fun c => (by first | exact absurd c (by decide) | exact absurd (by decide) c)) (fun _ => ?_)
            refine V2_aload_n (i := 0) d_Rows_canBeBetter_84 rfl rfl ?_
            refine V2_iload_n (i := 3) d_Rows_canBeBetter_85 rfl rfl ?_
            refine V2_put d_Rows_canBeBetter_86 fl_Rows_40 (by decide) rfl (by decide) rfl ?_
            refine V2_iload (i := 5) d_Rows_canBeBetter_89 rfl ?_
            refine V2_if_ne (tgt := 99) d_Rows_canBeBetter_91 rfl (fun _ => ?_) (fun c => (by first | exact absurd c (by decide) | exact absurd (by decide) c))
            refine V2_aload_n (i := 0) d_Rows_canBeBetter_99 rfl rfl ?_
            refine V2_iload (i := 4) d_Rows_canBeBetter_100 rfl ?_
            refine V2_put d_Rows_canBeBetter_102 fl_Rows_43 (by decide) rfl (by decide) rfl ?_
            refine V2_aload_n (i := 0) d_Rows_canBeBetter_105 rfl rfl ?_
            refine V2_iload_n (i := 1) d_Rows_canBeBetter_106 rfl rfl ?_
            refine V2_callV [.int (0 : Int32)] d_Rows_canBeBetter_107 rfl rfl lk_Rows_132 mo_Rows_keep (by decide) rfl rfl rfl (Nat.le_of_ble_eq_true rfl) (Nat.le_of_ble_eq_true rfl) ?_
            refine V2.to (l' := [some (.ref 36), some (.int (0 : Int32)), none]) ?_ rfl rfl rfl rfl
            refine V2_iconst (v := 0) d_Rows_keep_0 rfl ?_
            refine V2_istore_n (i := 2) (l' := [some (.ref 36), some (.int (0 : Int32)), some (.int (0 : Int32))]) d_Rows_keep_1 rfl (xst_i (Nat.le_of_ble_eq_true rfl) rfl rfl) ?_
            refine V2_iload_n (i := 2) d_Rows_keep_2 rfl rfl ?_
            refine V2_aload_n (i := 0) d_Rows_keep_3 rfl rfl ?_
            refine V2_getr (a := 40) d_Rows_keep_4 fl_Rows_26 (by decide) rfl (by decide) rfl ?_
            refine V2_alen (t := 0) (v := 4) d_Rows_keep_7 (by decide) rfl (by decide) rfl ?_
            refine V2_icmp_ge (tgt := 47) d_Rows_keep_8 rfl (fun c => (by first | exact absurd c (by decide) | exact absurd (by decide) c)) (fun _ => ?_)
            refine V2_iload_n (i := 2) d_Rows_keep_11 rfl rfl ?_
            refine V2_aload_n (i := 0) d_Rows_keep_12 rfl rfl ?_
            refine V2_getr (a := 41) d_Rows_keep_13 fl_Rows_30 (by decide) rfl (by decide) rfl ?_
            refine V2_alen (t := 0) (v := 4) d_Rows_keep_16 (by decide) rfl (by decide) rfl ?_
            refine V2_icmp_ge (tgt := 47) d_Rows_keep_17 rfl (fun c => (by first | exact absurd c (by decide) | exact absurd (by decide) c)) (fun _ => ?_)
            refine V2_aload_n (i := 0) d_Rows_keep_20 rfl rfl ?_
            refine V2_getr (a := 41) d_Rows_keep_21 fl_Rows_30 (by decide) rfl (by decide) rfl ?_
            refine V2_iload_n (i := 2) d_Rows_keep_24 rfl rfl ?_
            refine V2_iload_n (i := 2) d_Rows_keep_25 rfl rfl ?_
            refine V2_iload_n (i := 1) d_Rows_keep_26 rfl rfl ?_
            refine V2_icmp_gt (tgt := 39) d_Rows_keep_27 rfl (fun c => (by first | exact absurd c (by decide) | exact absurd (by decide) c)) (fun _ => ?_)
            refine V2_aload_n (i := 0) d_Rows_keep_30 rfl rfl ?_
            refine V2_getr (a := 40) d_Rows_keep_31 fl_Rows_26 (by decide) rfl (by decide) rfl ?_
            refine V2_iload_n (i := 2) d_Rows_keep_34 rfl rfl ?_
            refine V2_iaload (v := G 40 0) d_Rows_keep_35 (by decide) rfl (xixA (n := 0) rfl (by decide) (by decide)) rfl ?_
            refine V2_topi (fun v75 ev75 => ?_)
            refine V2_goto (tgt := 40) d_Rows_keep_36 rfl ?_
            refine V2_iastore (j := 0) d_Rows_keep_40 (by decide) rfl (xixA (n := 0) rfl (by decide) (by decide)) rfl ?_
            refine V2_iinc (i := 2) (v := 1) (l' := [some (.ref 36), some (.int (0 : Int32)), some (.int (1 : Int32))]) d_Rows_keep_41 rfl (by decide) (xst_i (Nat.le_of_ble_eq_true rfl) rfl rfl) ?_
            refine V2_goto (tgt := 2) d_Rows_keep_44 rfl ?_
            refine V2_iload_n (i := 2) d_Rows_keep_2 rfl rfl ?_
            refine V2_aload_n (i := 0) d_Rows_keep_3 rfl rfl ?_
            refine V2_getr (a := 40) d_Rows_keep_4 fl_Rows_26 (by decide) rfl (by decide) rfl ?_
            refine V2_alen (t := 0) (v := 4) d_Rows_keep_7 (by decide) rfl (by decide) rfl ?_
            refine V2_icmp_ge (tgt := 47) d_Rows_keep_8 rfl (fun c => (by first | exact absurd c (by decide) | exact absurd (by decide) c)) (fun _ => ?_)
            refine V2_iload_n (i := 2) d_Rows_keep_11 rfl rfl ?_
            refine V2_aload_n (i := 0) d_Rows_keep_12 rfl rfl ?_
            refine V2_getr (a := 41) d_Rows_keep_13 fl_Rows_30 (by decide) rfl (by decide) rfl ?_
            refine V2_alen (t := 0) (v := 4) d_Rows_keep_16 (by decide) rfl (by decide) rfl ?_
            refine V2_icmp_ge (tgt := 47) d_Rows_keep_17 rfl (fun c => (by first | exact absurd c (by decide) | exact absurd (by decide) c)) (fun _ => ?_)
            refine V2_aload_n (i := 0) d_Rows_keep_20 rfl rfl ?_
            refine V2_getr (a := 41) d_Rows_keep_21 fl_Rows_30 (by decide) rfl (by decide) rfl ?_
            refine V2_iload_n (i := 2) d_Rows_keep_24 rfl rfl ?_
            refine V2_iload_n (i := 2) d_Rows_keep_25 rfl rfl ?_
            refine V2_iload_n (i := 1) d_Rows_keep_26 rfl rfl ?_
            refine V2_icmp_gt (tgt := 39) d_Rows_keep_27 rfl (fun _ => ?_) (fun c => (by first | exact absurd c (by decide) | exact absurd (by decide) c))
            refine V2_iconst (v := 0) d_Rows_keep_39 rfl ?_
            refine V2_iastore (j := 1) d_Rows_keep_40 (by decide) rfl (xixA (n := 1) rfl (by decide) (by decide)) rfl ?_
            refine V2_iinc (i := 2) (v := 2) (l' := [some (.ref 36), some (.int (0 : Int32)), some (.int (2 : Int32))]) d_Rows_keep_41 rfl (by decide) (xst_i (Nat.le_of_ble_eq_true rfl) rfl rfl) ?_
            refine V2_goto (tgt := 2) d_Rows_keep_44 rfl ?_
            refine V2_iload_n (i := 2) d_Rows_keep_2 rfl rfl ?_
            refine V2_aload_n (i := 0) d_Rows_keep_3 rfl rfl ?_
            refine V2_getr (a := 40) d_Rows_keep_4 fl_Rows_26 (by decide) rfl (by decide) rfl ?_
            refine V2_alen (t := 0) (v := 4) d_Rows_keep_7 (by decide) rfl (by decide) rfl ?_
            refine V2_icmp_ge (tgt := 47) d_Rows_keep_8 rfl (fun c => (by first | exact absurd c (by decide) | exact absurd (by decide) c)) (fun _ => ?_)
            refine V2_iload_n (i := 2) d_Rows_keep_11 rfl rfl ?_
            refine V2_aload_n (i := 0) d_Rows_keep_12 rfl rfl ?_
            refine V2_getr (a := 41) d_Rows_keep_13 fl_Rows_30 (by decide) rfl (by decide) rfl ?_
            refine V2_alen (t := 0) (v := 4) d_Rows_keep_16 (by decide) rfl (by decide) rfl ?_
            refine V2_icmp_ge (tgt := 47) d_Rows_keep_17 rfl (fun c => (by first | exact absurd c (by decide) | exact absurd (by decide) c)) (fun _ => ?_)
            refine V2_aload_n (i := 0) d_Rows_keep_20 rfl rfl ?_
            refine V2_getr (a := 41) d_Rows_keep_21 fl_Rows_30 (by decide) rfl (by decide) rfl ?_
            refine V2_iload_n (i := 2) d_Rows_keep_24 rfl rfl ?_
            refine V2_iload_n (i := 2) d_Rows_keep_25 rfl rfl ?_
            refine V2_iload_n (i := 1) d_Rows_keep_26 rfl rfl ?_
            refine V2_icmp_gt (tgt := 39) d_Rows_keep_27 rfl (fun _ => ?_) (fun c => (by first | exact absurd c (by decide) | exact absurd (by decide) c))
            refine V2_iconst (v := 0) d_Rows_keep_39 rfl ?_
            refine V2_iastore (j := 2) d_Rows_keep_40 (by decide) rfl (xixA (n := 2) rfl (by decide) (by decide)) rfl ?_
            refine V2_iinc (i := 2) (v := 3) (l' := [some (.ref 36), some (.int (0 : Int32)), some (.int (3 : Int32))]) d_Rows_keep_41 rfl (by decide) (xst_i (Nat.le_of_ble_eq_true rfl) rfl rfl) ?_
            refine V2_goto (tgt := 2) d_Rows_keep_44 rfl ?_
            refine V2_iload_n (i := 2) d_Rows_keep_2 rfl rfl ?_
            refine V2_aload_n (i := 0) d_Rows_keep_3 rfl rfl ?_
            refine V2_getr (a := 40) d_Rows_keep_4 fl_Rows_26 (by decide) rfl (by decide) rfl ?_
            refine V2_alen (t := 0) (v := 4) d_Rows_keep_7 (by decide) rfl (by decide) rfl ?_
            refine V2_icmp_ge (tgt := 47) d_Rows_keep_8 rfl (fun c => (by first | exact absurd c (by decide) | exact absurd (by decide) c)) (fun _ => ?_)
            refine V2_iload_n (i := 2) d_Rows_keep_11 rfl rfl ?_
            refine V2_aload_n (i := 0) d_Rows_keep_12 rfl rfl ?_
            refine V2_getr (a := 41) d_Rows_keep_13 fl_Rows_30 (by decide) rfl (by decide) rfl ?_
            refine V2_alen (t := 0) (v := 4) d_Rows_keep_16 (by decide) rfl (by decide) rfl ?_
            refine V2_icmp_ge (tgt := 47) d_Rows_keep_17 rfl (fun c => (by first | exact absurd c (by decide) | exact absurd (by decide) c)) (fun _ => ?_)
            refine V2_aload_n (i := 0) d_Rows_keep_20 rfl rfl ?_
            refine V2_getr (a := 41) d_Rows_keep_21 fl_Rows_30 (by decide) rfl (by decide) rfl ?_
            refine V2_iload_n (i := 2) d_Rows_keep_24 rfl rfl ?_
            refine V2_iload_n (i := 2) d_Rows_keep_25 rfl rfl ?_
            refine V2_iload_n (i := 1) d_Rows_keep_26 rfl rfl ?_
            refine V2_icmp_gt (tgt := 39) d_Rows_keep_27 rfl (fun _ => ?_) (fun c => (by first | exact absurd c (by decide) | exact absurd (by decide) c))
            refine V2_iconst (v := 0) d_Rows_keep_39 rfl ?_
            refine V2_iastore (j := 3) d_Rows_keep_40 (by decide) rfl (xixA (n := 3) rfl (by decide) (by decide)) rfl ?_
            refine V2_iinc (i := 2) (v := 4) (l' := [some (.ref 36), some (.int (0 : Int32)), some (.int (4 : Int32))]) d_Rows_keep_41 rfl (by decide) (xst_i (Nat.le_of_ble_eq_true rfl) rfl rfl) ?_
            refine V2_goto (tgt := 2) d_Rows_keep_44 rfl ?_
            refine V2_iload_n (i := 2) d_Rows_keep_2 rfl rfl ?_
            refine V2_aload_n (i := 0) d_Rows_keep_3 rfl rfl ?_
            refine V2_getr (a := 40) d_Rows_keep_4 fl_Rows_26 (by decide) rfl (by decide) rfl ?_
            refine V2_alen (t := 0) (v := 4) d_Rows_keep_7 (by decide) rfl (by decide) rfl ?_
            refine V2_icmp_ge (tgt := 47) d_Rows_keep_8 rfl (fun _ => ?_) (fun c => (by first | exact absurd c (by decide) | exact absurd (by decide) c))
            refine V2_return d_Rows_keep_47 rfl ?_
            refine V2.to (st' := []) ?_ rfl rfl rfl rfl
            refine V2_iload_n (i := 3) d_Rows_canBeBetter_110 rfl rfl ?_
            refine V2_iconst (v := 1) d_Rows_canBeBetter_111 rfl ?_
            refine V2_iadd d_Rows_canBeBetter_112 ?_
            refine V2_lit (v := 2) (by decide) ?_
            refine V2_aload_n (i := 0) d_Rows_canBeBetter_113 rfl rfl ?_
            refine V2_get (v := (1 : Int32)) d_Rows_canBeBetter_114 fl_Rows_40 (by decide) rfl (by decide) rfl rfl ?_
            refine V2_icmp_ge (tgt := 124) d_Rows_canBeBetter_117 rfl (fun _ => ?_) (fun c => (by first | exact absurd c (by decide) | exact absurd (by decide) c))
            refine V2_iconst (v := 0) d_Rows_canBeBetter_124 rfl ?_
            refine V2_zreturn d_Rows_canBeBetter_125 rfl (by decide) ?_
            refine V2.to (st' := [.int (0 : Int32)]) ?_ rfl rfl rfl rfl
            refine V2_zreturn d_Rows_goesOn_52 rfl (by decide) ?_
            have hB1 : B ≤ n := hR.1
            have hf : (B = 0 ∧ (G 36 6).toInt = (n : Int) + 1) ∨ (0 < B ∧ (G 36 6).toInt = (B : Int)) := by
              rcases hR.2.1 with ⟨h1, h2⟩ | ⟨h1, h2⟩
              · exact Or.inl ⟨h1, by rw [h2, nI_toInt (by omega)]; omega⟩
              · exact Or.inr ⟨h1, by rw [h2, nI_toInt (by have := hR.1; omega)]⟩
            have hov : (bst.toInt = -1 ∧ B = 0 ∧ (G 36 7).toInt = -1000) ∨ (¬ bst.toInt = -1 ∧ (G 36 7).toInt = hi.toInt) := by
              rcases hR.2.2 with ⟨h1, h2, h3⟩ | ⟨h1, h3, _⟩
              · exact Or.inl ⟨h1, h2, by rw [h3]; decide⟩
              · exact Or.inr ⟨h1, by rw [h3]⟩
            have sA : (T 2 - T 0).toInt = (T 2).toInt - (T 0).toInt := toI_sub (by omega) (by omega) (by omega) (by omega)
            have e2 : G 43 2 = T 2 := hx.2.2.2.2.2.1.2.2.1
            have e0 : G 43 0 = T 0 := hx.2.2.2.2.2.1.1
            have el : G 36 5 = nI n := hx.2.2.1
            have sA2 : (G 43 2 - G 43 0).toInt = (T 2).toInt - (T 0).toInt := by rw [e2, e0]; exact sA
            have nl : (G 36 5).toInt = (n : Int) := by rw [el]; exact nI_toInt (by omega)
            have h5 : T 5 = 1 := by
              have h9 := c7
              subst ev75 ev73 ev72 ev65 ev58 ev32 ev6 ev5 ev4 ev3 ev1
              rw [hx.2.2.2.2.2.1.2.2.2.2.2.2.2] at h9
              exact hx.2.2.2.2.2.2.2.1.2.2.2.2.2.1.resolve_left h9
            exfalso
            exact (by (try clear hQ); (try subst ev75 ev73 ev72 ev65 ev58 ev32 ev6 ev5 ev4 ev3 ev1); ((try simp only [xb_eq, xb_ne, Int32.lt_iff_toInt_lt, Int32.le_iff_toInt_le] at *) <;> (try simp only [← Int32.toInt_inj, true_and, false_and, or_false, false_or, or_true, true_or, and_true, and_false] at *) <;> omega))
          · refine V2_iload (i := 4) d_Rows_canBeBetter_63 rfl ?_
            refine V2_aload_n (i := 0) d_Rows_canBeBetter_65 rfl rfl ?_
            refine V2_get (v := G 36 7) d_Rows_canBeBetter_66 fl_Rows_43 (by decide) rfl (by decide) rfl rfl ?_
            refine V2_topi (fun v80 ev80 => ?_)
            refine V2_icmp_le (tgt := 76) d_Rows_canBeBetter_69 rfl (fun c81 => ?_) (fun c81 => ?_)
            · refine V2_iconst (v := 0) d_Rows_canBeBetter_76 rfl ?_
              refine V2_istore (i := 6) (l' := [some (.ref 36), some (.int (0 : Int32)), some (.ref 43), some (.int (1 : Int32)), some (.int v5), some (.int (1 : Int32)), some (.int (0 : Int32))]) d_Rows_canBeBetter_77 (xst_i (Nat.le_of_ble_eq_true rfl) rfl rfl) ?_
              refine V2_iload (i := 5) d_Rows_canBeBetter_79 rfl ?_
              refine V2_if_eq (tgt := 89) d_Rows_canBeBetter_81 rfl (fun c => (by first | exact absurd c (by decide) | exact absurd (by decide) c)) (fun _ => ?_)
              refine V2_aload_n (i := 0) d_Rows_canBeBetter_84 rfl rfl ?_
              refine V2_iload_n (i := 3) d_Rows_canBeBetter_85 rfl rfl ?_
              refine V2_put d_Rows_canBeBetter_86 fl_Rows_40 (by decide) rfl (by decide) rfl ?_
              refine V2_iload (i := 5) d_Rows_canBeBetter_89 rfl ?_
              refine V2_if_ne (tgt := 99) d_Rows_canBeBetter_91 rfl (fun _ => ?_) (fun c => (by first | exact absurd c (by decide) | exact absurd (by decide) c))
              refine V2_aload_n (i := 0) d_Rows_canBeBetter_99 rfl rfl ?_
              refine V2_iload (i := 4) d_Rows_canBeBetter_100 rfl ?_
              refine V2_put d_Rows_canBeBetter_102 fl_Rows_43 (by decide) rfl (by decide) rfl ?_
              refine V2_aload_n (i := 0) d_Rows_canBeBetter_105 rfl rfl ?_
              refine V2_iload_n (i := 1) d_Rows_canBeBetter_106 rfl rfl ?_
              refine V2_callV [.int (0 : Int32)] d_Rows_canBeBetter_107 rfl rfl lk_Rows_132 mo_Rows_keep (by decide) rfl rfl rfl (Nat.le_of_ble_eq_true rfl) (Nat.le_of_ble_eq_true rfl) ?_
              refine V2.to (l' := [some (.ref 36), some (.int (0 : Int32)), none]) ?_ rfl rfl rfl rfl
              refine V2_iconst (v := 0) d_Rows_keep_0 rfl ?_
              refine V2_istore_n (i := 2) (l' := [some (.ref 36), some (.int (0 : Int32)), some (.int (0 : Int32))]) d_Rows_keep_1 rfl (xst_i (Nat.le_of_ble_eq_true rfl) rfl rfl) ?_
              refine V2_iload_n (i := 2) d_Rows_keep_2 rfl rfl ?_
              refine V2_aload_n (i := 0) d_Rows_keep_3 rfl rfl ?_
              refine V2_getr (a := 40) d_Rows_keep_4 fl_Rows_26 (by decide) rfl (by decide) rfl ?_
              refine V2_alen (t := 0) (v := 4) d_Rows_keep_7 (by decide) rfl (by decide) rfl ?_
              refine V2_icmp_ge (tgt := 47) d_Rows_keep_8 rfl (fun c => (by first | exact absurd c (by decide) | exact absurd (by decide) c)) (fun _ => ?_)
              refine V2_iload_n (i := 2) d_Rows_keep_11 rfl rfl ?_
              refine V2_aload_n (i := 0) d_Rows_keep_12 rfl rfl ?_
              refine V2_getr (a := 41) d_Rows_keep_13 fl_Rows_30 (by decide) rfl (by decide) rfl ?_
              refine V2_alen (t := 0) (v := 4) d_Rows_keep_16 (by decide) rfl (by decide) rfl ?_
              refine V2_icmp_ge (tgt := 47) d_Rows_keep_17 rfl (fun c => (by first | exact absurd c (by decide) | exact absurd (by decide) c)) (fun _ => ?_)
              refine V2_aload_n (i := 0) d_Rows_keep_20 rfl rfl ?_
              refine V2_getr (a := 41) d_Rows_keep_21 fl_Rows_30 (by decide) rfl (by decide) rfl ?_
              refine V2_iload_n (i := 2) d_Rows_keep_24 rfl rfl ?_
              refine V2_iload_n (i := 2) d_Rows_keep_25 rfl rfl ?_
              refine V2_iload_n (i := 1) d_Rows_keep_26 rfl rfl ?_
              refine V2_icmp_gt (tgt := 39) d_Rows_keep_27 rfl (fun c => (by first | exact absurd c (by decide) | exact absurd (by decide) c)) (fun _ => ?_)
              refine V2_aload_n (i := 0) d_Rows_keep_30 rfl rfl ?_
              refine V2_getr (a := 40) d_Rows_keep_31 fl_Rows_26 (by decide) rfl (by decide) rfl ?_
              refine V2_iload_n (i := 2) d_Rows_keep_34 rfl rfl ?_
              refine V2_iaload (v := G 40 0) d_Rows_keep_35 (by decide) rfl (xixA (n := 0) rfl (by decide) (by decide)) rfl ?_
              refine V2_topi (fun v82 ev82 => ?_)
              refine V2_goto (tgt := 40) d_Rows_keep_36 rfl ?_
              refine V2_iastore (j := 0) d_Rows_keep_40 (by decide) rfl (xixA (n := 0) rfl (by decide) (by decide)) rfl ?_
              refine V2_iinc (i := 2) (v := 1) (l' := [some (.ref 36), some (.int (0 : Int32)), some (.int (1 : Int32))]) d_Rows_keep_41 rfl (by decide) (xst_i (Nat.le_of_ble_eq_true rfl) rfl rfl) ?_
              refine V2_goto (tgt := 2) d_Rows_keep_44 rfl ?_
              refine V2_iload_n (i := 2) d_Rows_keep_2 rfl rfl ?_
              refine V2_aload_n (i := 0) d_Rows_keep_3 rfl rfl ?_
              refine V2_getr (a := 40) d_Rows_keep_4 fl_Rows_26 (by decide) rfl (by decide) rfl ?_
              refine V2_alen (t := 0) (v := 4) d_Rows_keep_7 (by decide) rfl (by decide) rfl ?_
              refine V2_icmp_ge (tgt := 47) d_Rows_keep_8 rfl (fun c => (by first | exact absurd c (by decide) | exact absurd (by decide) c)) (fun _ => ?_)
              refine V2_iload_n (i := 2) d_Rows_keep_11 rfl rfl ?_
              refine V2_aload_n (i := 0) d_Rows_keep_12 rfl rfl ?_
              refine V2_getr (a := 41) d_Rows_keep_13 fl_Rows_30 (by decide) rfl (by decide) rfl ?_
              refine V2_alen (t := 0) (v := 4) d_Rows_keep_16 (by decide) rfl (by decide) rfl ?_
              refine V2_icmp_ge (tgt := 47) d_Rows_keep_17 rfl (fun c => (by first | exact absurd c (by decide) | exact absurd (by decide) c)) (fun _ => ?_)
              refine V2_aload_n (i := 0) d_Rows_keep_20 rfl rfl ?_
              refine V2_getr (a := 41) d_Rows_keep_21 fl_Rows_30 (by decide) rfl (by decide) rfl ?_
              refine V2_iload_n (i := 2) d_Rows_keep_24 rfl rfl ?_
              refine V2_iload_n (i := 2) d_Rows_keep_25 rfl rfl ?_
              refine V2_iload_n (i := 1) d_Rows_keep_26 rfl rfl ?_
              refine V2_icmp_gt (tgt := 39) d_Rows_keep_27 rfl (fun _ => ?_) (fun c => (by first | exact absurd c (by decide) | exact absurd (by decide) c))
              refine V2_iconst (v := 0) d_Rows_keep_39 rfl ?_
              refine V2_iastore (j := 1) d_Rows_keep_40 (by decide) rfl (xixA (n := 1) rfl (by decide) (by decide)) rfl ?_
              refine V2_iinc (i := 2) (v := 2) (l' := [some (.ref 36), some (.int (0 : Int32)), some (.int (2 : Int32))]) d_Rows_keep_41 rfl (by decide) (xst_i (Nat.le_of_ble_eq_true rfl) rfl rfl) ?_
              refine V2_goto (tgt := 2) d_Rows_keep_44 rfl ?_
              refine V2_iload_n (i := 2) d_Rows_keep_2 rfl rfl ?_
              refine V2_aload_n (i := 0) d_Rows_keep_3 rfl rfl ?_
              refine V2_getr (a := 40) d_Rows_keep_4 fl_Rows_26 (by decide) rfl (by decide) rfl ?_
              refine V2_alen (t := 0) (v := 4) d_Rows_keep_7 (by decide) rfl (by decide) rfl ?_
              refine V2_icmp_ge (tgt := 47) d_Rows_keep_8 rfl (fun c => (by first | exact absurd c (by decide) | exact absurd (by decide) c)) (fun _ => ?_)
              refine V2_iload_n (i := 2) d_Rows_keep_11 rfl rfl ?_
              refine V2_aload_n (i := 0) d_Rows_keep_12 rfl rfl ?_
              refine V2_getr (a := 41) d_Rows_keep_13 fl_Rows_30 (by decide) rfl (by decide) rfl ?_
              refine V2_alen (t := 0) (v := 4) d_Rows_keep_16 (by decide) rfl (by decide) rfl ?_
              refine V2_icmp_ge (tgt := 47) d_Rows_keep_17 rfl (fun c => (by first | exact absurd c (by decide) | exact absurd (by decide) c)) (fun _ => ?_)
              refine V2_aload_n (i := 0) d_Rows_keep_20 rfl rfl ?_
              refine V2_getr (a := 41) d_Rows_keep_21 fl_Rows_30 (by decide) rfl (by decide) rfl ?_
              refine V2_iload_n (i := 2) d_Rows_keep_24 rfl rfl ?_
              refine V2_iload_n (i := 2) d_Rows_keep_25 rfl rfl ?_
              refine V2_iload_n (i := 1) d_Rows_keep_26 rfl rfl ?_
              refine V2_icmp_gt (tgt := 39) d_Rows_keep_27 rfl (fun _ => ?_) (fun c => (by first | exact absurd c (by decide) | exact absurd (by decide) c))
              refine V2_iconst (v := 0) d_Rows_keep_39 rfl ?_
              refine V2_iastore (j := 2) d_Rows_keep_40 (by decide) rfl (xixA (n := 2) rfl (by decide) (by decide)) rfl ?_
              refine V2_iinc (i := 2) (v := 3) (l' := [some (.ref 36), some (.int (0 : Int32)), some (.int (3 : Int32))]) d_Rows_keep_41 rfl (by decide) (xst_i (Nat.le_of_ble_eq_true rfl) rfl rfl) ?_
              refine V2_goto (tgt := 2) d_Rows_keep_44 rfl ?_
              refine V2_iload_n (i := 2) d_Rows_keep_2 rfl rfl ?_
              refine V2_aload_n (i := 0) d_Rows_keep_3 rfl rfl ?_
              refine V2_getr (a := 40) d_Rows_keep_4 fl_Rows_26 (by decide) rfl (by decide) rfl ?_
              refine V2_alen (t := 0) (v := 4) d_Rows_keep_7 (by decide) rfl (by decide) rfl ?_
              refine V2_icmp_ge (tgt := 47) d_Rows_keep_8 rfl (fun c => (by first | exact absurd c (by decide) | exact absurd (by decide) c)) (fun _ => ?_)
              refine V2_iload_n (i := 2) d_Rows_keep_11 rfl rfl ?_
              refine V2_aload_n (i := 0) d_Rows_keep_12 rfl rfl ?_
              refine V2_getr (a := 41) d_Rows_keep_13 fl_Rows_30 (by decide) rfl (by decide) rfl ?_
              refine V2_alen (t := 0) (v := 4) d_Rows_keep_16 (by decide) rfl (by decide) rfl ?_
              refine V2_icmp_ge (tgt := 47) d_Rows_keep_17 rfl (fun c => (by first | exact absurd c (by decide) | exact absurd (by decide) c)) (fun _ => ?_)
              refine V2_aload_n (i := 0) d_Rows_keep_20 rfl rfl ?_
              refine V2_getr (a := 41) d_Rows_keep_21 fl_Rows_30 (by decide) rfl (by decide) rfl ?_
              refine V2_iload_n (i := 2) d_Rows_keep_24 rfl rfl ?_
              refine V2_iload_n (i := 2) d_Rows_keep_25 rfl rfl ?_
              refine V2_iload_n (i := 1) d_Rows_keep_26 rfl rfl ?_
              refine V2_icmp_gt (tgt := 39) d_Rows_keep_27 rfl (fun _ => ?_) (fun c => (by first | exact absurd c (by decide) | exact absurd (by decide) c))
              refine V2_iconst (v := 0) d_Rows_keep_39 rfl ?_
              refine V2_iastore (j := 3) d_Rows_keep_40 (by decide) rfl (xixA (n := 3) rfl (by decide) (by decide)) rfl ?_
              refine V2_iinc (i := 2) (v := 4) (l' := [some (.ref 36), some (.int (0 : Int32)), some (.int (4 : Int32))]) d_Rows_keep_41 rfl (by decide) (xst_i (Nat.le_of_ble_eq_true rfl) rfl rfl) ?_
              refine V2_goto (tgt := 2) d_Rows_keep_44 rfl ?_
              refine V2_iload_n (i := 2) d_Rows_keep_2 rfl rfl ?_
              refine V2_aload_n (i := 0) d_Rows_keep_3 rfl rfl ?_
              refine V2_getr (a := 40) d_Rows_keep_4 fl_Rows_26 (by decide) rfl (by decide) rfl ?_
              refine V2_alen (t := 0) (v := 4) d_Rows_keep_7 (by decide) rfl (by decide) rfl ?_
              refine V2_icmp_ge (tgt := 47) d_Rows_keep_8 rfl (fun _ => ?_) (fun c => (by first | exact absurd c (by decide) | exact absurd (by decide) c))
              refine V2_return d_Rows_keep_47 rfl ?_
              refine V2.to (st' := []) ?_ rfl rfl rfl rfl
              refine V2_iload_n (i := 3) d_Rows_canBeBetter_110 rfl rfl ?_
              refine V2_iconst (v := 1) d_Rows_canBeBetter_111 rfl ?_
              refine V2_iadd d_Rows_canBeBetter_112 ?_
              refine V2_lit (v := 2) (by decide) ?_
              refine V2_aload_n (i := 0) d_Rows_canBeBetter_113 rfl rfl ?_
              refine V2_get (v := (1 : Int32)) d_Rows_canBeBetter_114 fl_Rows_40 (by decide) rfl (by decide) rfl rfl ?_
              refine V2_icmp_ge (tgt := 124) d_Rows_canBeBetter_117 rfl (fun _ => ?_) (fun c => (by first | exact absurd c (by decide) | exact absurd (by decide) c))
              refine V2_iconst (v := 0) d_Rows_canBeBetter_124 rfl ?_
              refine V2_zreturn d_Rows_canBeBetter_125 rfl (by decide) ?_
              refine V2.to (st' := [.int (0 : Int32)]) ?_ rfl rfl rfl rfl
              refine V2_zreturn d_Rows_goesOn_52 rfl (by decide) ?_
              have hB1 : B ≤ n := hR.1
              have hf : (B = 0 ∧ (G 36 6).toInt = (n : Int) + 1) ∨ (0 < B ∧ (G 36 6).toInt = (B : Int)) := by
                rcases hR.2.1 with ⟨h1, h2⟩ | ⟨h1, h2⟩
                · exact Or.inl ⟨h1, by rw [h2, nI_toInt (by omega)]; omega⟩
                · exact Or.inr ⟨h1, by rw [h2, nI_toInt (by have := hR.1; omega)]⟩
              have hov : (bst.toInt = -1 ∧ B = 0 ∧ (G 36 7).toInt = -1000) ∨ (¬ bst.toInt = -1 ∧ (G 36 7).toInt = hi.toInt) := by
                rcases hR.2.2 with ⟨h1, h2, h3⟩ | ⟨h1, h3, _⟩
                · exact Or.inl ⟨h1, h2, by rw [h3]; decide⟩
                · exact Or.inr ⟨h1, by rw [h3]⟩
              have sA : (T 2 - T 0).toInt = (T 2).toInt - (T 0).toInt := toI_sub (by omega) (by omega) (by omega) (by omega)
              have e2 : G 43 2 = T 2 := hx.2.2.2.2.2.1.2.2.1
              have e0 : G 43 0 = T 0 := hx.2.2.2.2.2.1.1
              have el : G 36 5 = nI n := hx.2.2.1
              have sA2 : (G 43 2 - G 43 0).toInt = (T 2).toInt - (T 0).toInt := by rw [e2, e0]; exact sA
              have nl : (G 36 5).toInt = (n : Int) := by rw [el]; exact nI_toInt (by omega)
              have h5 : T 5 = 1 := by
                have h9 := c7
                subst ev82 ev80 ev73 ev72 ev65 ev58 ev32 ev6 ev5 ev4 ev3 ev1
                rw [hx.2.2.2.2.2.1.2.2.2.2.2.2.2] at h9
                exact hx.2.2.2.2.2.2.2.1.2.2.2.2.2.1.resolve_left h9
              exfalso
              exact (by (try clear hQ); (try subst ev82 ev80 ev73 ev72 ev65 ev58 ev32 ev6 ev5 ev4 ev3 ev1); ((try simp only [xb_eq, xb_ne, Int32.lt_iff_toInt_lt, Int32.le_iff_toInt_le] at *) <;> (try simp only [← Int32.toInt_inj, true_and, false_and, or_false, false_or, or_true, true_or, and_true, and_false] at *) <;> omega))
            · refine V2_iconst (v := 1) d_Rows_canBeBetter_72 rfl ?_
              refine V2_goto (tgt := 77) d_Rows_canBeBetter_73 rfl ?_
              refine V2_istore (i := 6) (l' := [some (.ref 36), some (.int (0 : Int32)), some (.ref 43), some (.int (1 : Int32)), some (.int v5), some (.int (1 : Int32)), some (.int (1 : Int32))]) d_Rows_canBeBetter_77 (xst_i (Nat.le_of_ble_eq_true rfl) rfl rfl) ?_
              refine V2_iload (i := 5) d_Rows_canBeBetter_79 rfl ?_
              refine V2_if_eq (tgt := 89) d_Rows_canBeBetter_81 rfl (fun c => (by first | exact absurd c (by decide) | exact absurd (by decide) c)) (fun _ => ?_)
              refine V2_aload_n (i := 0) d_Rows_canBeBetter_84 rfl rfl ?_
              refine V2_iload_n (i := 3) d_Rows_canBeBetter_85 rfl rfl ?_
              refine V2_put d_Rows_canBeBetter_86 fl_Rows_40 (by decide) rfl (by decide) rfl ?_
              refine V2_iload (i := 5) d_Rows_canBeBetter_89 rfl ?_
              refine V2_if_ne (tgt := 99) d_Rows_canBeBetter_91 rfl (fun _ => ?_) (fun c => (by first | exact absurd c (by decide) | exact absurd (by decide) c))
              refine V2_aload_n (i := 0) d_Rows_canBeBetter_99 rfl rfl ?_
              refine V2_iload (i := 4) d_Rows_canBeBetter_100 rfl ?_
              refine V2_put d_Rows_canBeBetter_102 fl_Rows_43 (by decide) rfl (by decide) rfl ?_
              refine V2_aload_n (i := 0) d_Rows_canBeBetter_105 rfl rfl ?_
              refine V2_iload_n (i := 1) d_Rows_canBeBetter_106 rfl rfl ?_
              refine V2_callV [.int (0 : Int32)] d_Rows_canBeBetter_107 rfl rfl lk_Rows_132 mo_Rows_keep (by decide) rfl rfl rfl (Nat.le_of_ble_eq_true rfl) (Nat.le_of_ble_eq_true rfl) ?_
              refine V2.to (l' := [some (.ref 36), some (.int (0 : Int32)), none]) ?_ rfl rfl rfl rfl
              refine V2_iconst (v := 0) d_Rows_keep_0 rfl ?_
              refine V2_istore_n (i := 2) (l' := [some (.ref 36), some (.int (0 : Int32)), some (.int (0 : Int32))]) d_Rows_keep_1 rfl (xst_i (Nat.le_of_ble_eq_true rfl) rfl rfl) ?_
              refine V2_iload_n (i := 2) d_Rows_keep_2 rfl rfl ?_
              refine V2_aload_n (i := 0) d_Rows_keep_3 rfl rfl ?_
              refine V2_getr (a := 40) d_Rows_keep_4 fl_Rows_26 (by decide) rfl (by decide) rfl ?_
              refine V2_alen (t := 0) (v := 4) d_Rows_keep_7 (by decide) rfl (by decide) rfl ?_
              refine V2_icmp_ge (tgt := 47) d_Rows_keep_8 rfl (fun c => (by first | exact absurd c (by decide) | exact absurd (by decide) c)) (fun _ => ?_)
              refine V2_iload_n (i := 2) d_Rows_keep_11 rfl rfl ?_
              refine V2_aload_n (i := 0) d_Rows_keep_12 rfl rfl ?_
              refine V2_getr (a := 41) d_Rows_keep_13 fl_Rows_30 (by decide) rfl (by decide) rfl ?_
              refine V2_alen (t := 0) (v := 4) d_Rows_keep_16 (by decide) rfl (by decide) rfl ?_
              refine V2_icmp_ge (tgt := 47) d_Rows_keep_17 rfl (fun c => (by first | exact absurd c (by decide) | exact absurd (by decide) c)) (fun _ => ?_)
              refine V2_aload_n (i := 0) d_Rows_keep_20 rfl rfl ?_
              refine V2_getr (a := 41) d_Rows_keep_21 fl_Rows_30 (by decide) rfl (by decide) rfl ?_
              refine V2_iload_n (i := 2) d_Rows_keep_24 rfl rfl ?_
              refine V2_iload_n (i := 2) d_Rows_keep_25 rfl rfl ?_
              refine V2_iload_n (i := 1) d_Rows_keep_26 rfl rfl ?_
              refine V2_icmp_gt (tgt := 39) d_Rows_keep_27 rfl (fun c => (by first | exact absurd c (by decide) | exact absurd (by decide) c)) (fun _ => ?_)
              refine V2_aload_n (i := 0) d_Rows_keep_30 rfl rfl ?_
              refine V2_getr (a := 40) d_Rows_keep_31 fl_Rows_26 (by decide) rfl (by decide) rfl ?_
              refine V2_iload_n (i := 2) d_Rows_keep_34 rfl rfl ?_
              refine V2_iaload (v := G 40 0) d_Rows_keep_35 (by decide) rfl (xixA (n := 0) rfl (by decide) (by decide)) rfl ?_
              refine V2_topi (fun v87 ev87 => ?_)
              refine V2_goto (tgt := 40) d_Rows_keep_36 rfl ?_
              refine V2_iastore (j := 0) d_Rows_keep_40 (by decide) rfl (xixA (n := 0) rfl (by decide) (by decide)) rfl ?_
              refine V2_iinc (i := 2) (v := 1) (l' := [some (.ref 36), some (.int (0 : Int32)), some (.int (1 : Int32))]) d_Rows_keep_41 rfl (by decide) (xst_i (Nat.le_of_ble_eq_true rfl) rfl rfl) ?_
              refine V2_goto (tgt := 2) d_Rows_keep_44 rfl ?_
              refine V2_iload_n (i := 2) d_Rows_keep_2 rfl rfl ?_
              refine V2_aload_n (i := 0) d_Rows_keep_3 rfl rfl ?_
              refine V2_getr (a := 40) d_Rows_keep_4 fl_Rows_26 (by decide) rfl (by decide) rfl ?_
              refine V2_alen (t := 0) (v := 4) d_Rows_keep_7 (by decide) rfl (by decide) rfl ?_
              refine V2_icmp_ge (tgt := 47) d_Rows_keep_8 rfl (fun c => (by first | exact absurd c (by decide) | exact absurd (by decide) c)) (fun _ => ?_)
              refine V2_iload_n (i := 2) d_Rows_keep_11 rfl rfl ?_
              refine V2_aload_n (i := 0) d_Rows_keep_12 rfl rfl ?_
              refine V2_getr (a := 41) d_Rows_keep_13 fl_Rows_30 (by decide) rfl (by decide) rfl ?_
              refine V2_alen (t := 0) (v := 4) d_Rows_keep_16 (by decide) rfl (by decide) rfl ?_
              refine V2_icmp_ge (tgt := 47) d_Rows_keep_17 rfl (fun c => (by first | exact absurd c (by decide) | exact absurd (by decide) c)) (fun _ => ?_)
              refine V2_aload_n (i := 0) d_Rows_keep_20 rfl rfl ?_
              refine V2_getr (a := 41) d_Rows_keep_21 fl_Rows_30 (by decide) rfl (by decide) rfl ?_
              refine V2_iload_n (i := 2) d_Rows_keep_24 rfl rfl ?_
              refine V2_iload_n (i := 2) d_Rows_keep_25 rfl rfl ?_
              refine V2_iload_n (i := 1) d_Rows_keep_26 rfl rfl ?_
              refine V2_icmp_gt (tgt := 39) d_Rows_keep_27 rfl (fun _ => ?_) (fun c => (by first | exact absurd c (by decide) | exact absurd (by decide) c))
              refine V2_iconst (v := 0) d_Rows_keep_39 rfl ?_
              refine V2_iastore (j := 1) d_Rows_keep_40 (by decide) rfl (xixA (n := 1) rfl (by decide) (by decide)) rfl ?_
              refine V2_iinc (i := 2) (v := 2) (l' := [some (.ref 36), some (.int (0 : Int32)), some (.int (2 : Int32))]) d_Rows_keep_41 rfl (by decide) (xst_i (Nat.le_of_ble_eq_true rfl) rfl rfl) ?_
              refine V2_goto (tgt := 2) d_Rows_keep_44 rfl ?_
              refine V2_iload_n (i := 2) d_Rows_keep_2 rfl rfl ?_
              refine V2_aload_n (i := 0) d_Rows_keep_3 rfl rfl ?_
              refine V2_getr (a := 40) d_Rows_keep_4 fl_Rows_26 (by decide) rfl (by decide) rfl ?_
              refine V2_alen (t := 0) (v := 4) d_Rows_keep_7 (by decide) rfl (by decide) rfl ?_
              refine V2_icmp_ge (tgt := 47) d_Rows_keep_8 rfl (fun c => (by first | exact absurd c (by decide) | exact absurd (by decide) c)) (fun _ => ?_)
              refine V2_iload_n (i := 2) d_Rows_keep_11 rfl rfl ?_
              refine V2_aload_n (i := 0) d_Rows_keep_12 rfl rfl ?_
              refine V2_getr (a := 41) d_Rows_keep_13 fl_Rows_30 (by decide) rfl (by decide) rfl ?_
              refine V2_alen (t := 0) (v := 4) d_Rows_keep_16 (by decide) rfl (by decide) rfl ?_
              refine V2_icmp_ge (tgt := 47) d_Rows_keep_17 rfl (fun c => (by first | exact absurd c (by decide) | exact absurd (by decide) c)) (fun _ => ?_)
              refine V2_aload_n (i := 0) d_Rows_keep_20 rfl rfl ?_
              refine V2_getr (a := 41) d_Rows_keep_21 fl_Rows_30 (by decide) rfl (by decide) rfl ?_
              refine V2_iload_n (i := 2) d_Rows_keep_24 rfl rfl ?_
              refine V2_iload_n (i := 2) d_Rows_keep_25 rfl rfl ?_
              refine V2_iload_n (i := 1) d_Rows_keep_26 rfl rfl ?_
              refine V2_icmp_gt (tgt := 39) d_Rows_keep_27 rfl (fun _ => ?_) (fun c => (by first | exact absurd c (by decide) | exact absurd (by decide) c))
              refine V2_iconst (v := 0) d_Rows_keep_39 rfl ?_
              refine V2_iastore (j := 2) d_Rows_keep_40 (by decide) rfl (xixA (n := 2) rfl (by decide) (by decide)) rfl ?_
              refine V2_iinc (i := 2) (v := 3) (l' := [some (.ref 36), some (.int (0 : Int32)), some (.int (3 : Int32))]) d_Rows_keep_41 rfl (by decide) (xst_i (Nat.le_of_ble_eq_true rfl) rfl rfl) ?_
              refine V2_goto (tgt := 2) d_Rows_keep_44 rfl ?_
              refine V2_iload_n (i := 2) d_Rows_keep_2 rfl rfl ?_
              refine V2_aload_n (i := 0) d_Rows_keep_3 rfl rfl ?_
              refine V2_getr (a := 40) d_Rows_keep_4 fl_Rows_26 (by decide) rfl (by decide) rfl ?_
              refine V2_alen (t := 0) (v := 4) d_Rows_keep_7 (by decide) rfl (by decide) rfl ?_
              refine V2_icmp_ge (tgt := 47) d_Rows_keep_8 rfl (fun c => (by first | exact absurd c (by decide) | exact absurd (by decide) c)) (fun _ => ?_)
              refine V2_iload_n (i := 2) d_Rows_keep_11 rfl rfl ?_
              refine V2_aload_n (i := 0) d_Rows_keep_12 rfl rfl ?_
              refine V2_getr (a := 41) d_Rows_keep_13 fl_Rows_30 (by decide) rfl (by decide) rfl ?_
              refine V2_alen (t := 0) (v := 4) d_Rows_keep_16 (by decide) rfl (by decide) rfl ?_
              refine V2_icmp_ge (tgt := 47) d_Rows_keep_17 rfl (fun c => (by first | exact absurd c (by decide) | exact absurd (by decide) c)) (fun _ => ?_)
              refine V2_aload_n (i := 0) d_Rows_keep_20 rfl rfl ?_
              refine V2_getr (a := 41) d_Rows_keep_21 fl_Rows_30 (by decide) rfl (by decide) rfl ?_
              refine V2_iload_n (i := 2) d_Rows_keep_24 rfl rfl ?_
              refine V2_iload_n (i := 2) d_Rows_keep_25 rfl rfl ?_
              refine V2_iload_n (i := 1) d_Rows_keep_26 rfl rfl ?_
              refine V2_icmp_gt (tgt := 39) d_Rows_keep_27 rfl (fun _ => ?_) (fun c => (by first | exact absurd c (by decide) | exact absurd (by decide) c))
              refine V2_iconst (v := 0) d_Rows_keep_39 rfl ?_
              refine V2_iastore (j := 3) d_Rows_keep_40 (by decide) rfl (xixA (n := 3) rfl (by decide) (by decide)) rfl ?_
              refine V2_iinc (i := 2) (v := 4) (l' := [some (.ref 36), some (.int (0 : Int32)), some (.int (4 : Int32))]) d_Rows_keep_41 rfl (by decide) (xst_i (Nat.le_of_ble_eq_true rfl) rfl rfl) ?_
              refine V2_goto (tgt := 2) d_Rows_keep_44 rfl ?_
              refine V2_iload_n (i := 2) d_Rows_keep_2 rfl rfl ?_
              refine V2_aload_n (i := 0) d_Rows_keep_3 rfl rfl ?_
              refine V2_getr (a := 40) d_Rows_keep_4 fl_Rows_26 (by decide) rfl (by decide) rfl ?_
              refine V2_alen (t := 0) (v := 4) d_Rows_keep_7 (by decide) rfl (by decide) rfl ?_
              refine V2_icmp_ge (tgt := 47) d_Rows_keep_8 rfl (fun _ => ?_) (fun c => (by first | exact absurd c (by decide) | exact absurd (by decide) c))
              refine V2_return d_Rows_keep_47 rfl ?_
              refine V2.to (st' := []) ?_ rfl rfl rfl rfl
              refine V2_iload_n (i := 3) d_Rows_canBeBetter_110 rfl rfl ?_
              refine V2_iconst (v := 1) d_Rows_canBeBetter_111 rfl ?_
              refine V2_iadd d_Rows_canBeBetter_112 ?_
              refine V2_lit (v := 2) (by decide) ?_
              refine V2_aload_n (i := 0) d_Rows_canBeBetter_113 rfl rfl ?_
              refine V2_get (v := (1 : Int32)) d_Rows_canBeBetter_114 fl_Rows_40 (by decide) rfl (by decide) rfl rfl ?_
              refine V2_icmp_ge (tgt := 124) d_Rows_canBeBetter_117 rfl (fun _ => ?_) (fun c => (by first | exact absurd c (by decide) | exact absurd (by decide) c))
              refine V2_iconst (v := 0) d_Rows_canBeBetter_124 rfl ?_
              refine V2_zreturn d_Rows_canBeBetter_125 rfl (by decide) ?_
              refine V2.to (st' := [.int (0 : Int32)]) ?_ rfl rfl rfl rfl
              refine V2_zreturn d_Rows_goesOn_52 rfl (by decide) ?_
              have hB1 : B ≤ n := hR.1
              have hf : (B = 0 ∧ (G 36 6).toInt = (n : Int) + 1) ∨ (0 < B ∧ (G 36 6).toInt = (B : Int)) := by
                rcases hR.2.1 with ⟨h1, h2⟩ | ⟨h1, h2⟩
                · exact Or.inl ⟨h1, by rw [h2, nI_toInt (by omega)]; omega⟩
                · exact Or.inr ⟨h1, by rw [h2, nI_toInt (by have := hR.1; omega)]⟩
              have hov : (bst.toInt = -1 ∧ B = 0 ∧ (G 36 7).toInt = -1000) ∨ (¬ bst.toInt = -1 ∧ (G 36 7).toInt = hi.toInt) := by
                rcases hR.2.2 with ⟨h1, h2, h3⟩ | ⟨h1, h3, _⟩
                · exact Or.inl ⟨h1, h2, by rw [h3]; decide⟩
                · exact Or.inr ⟨h1, by rw [h3]⟩
              have sA : (T 2 - T 0).toInt = (T 2).toInt - (T 0).toInt := toI_sub (by omega) (by omega) (by omega) (by omega)
              have e2 : G 43 2 = T 2 := hx.2.2.2.2.2.1.2.2.1
              have e0 : G 43 0 = T 0 := hx.2.2.2.2.2.1.1
              have el : G 36 5 = nI n := hx.2.2.1
              have sA2 : (G 43 2 - G 43 0).toInt = (T 2).toInt - (T 0).toInt := by rw [e2, e0]; exact sA
              have nl : (G 36 5).toInt = (n : Int) := by rw [el]; exact nI_toInt (by omega)
              have h5 : T 5 = 1 := by
                have h9 := c7
                subst ev87 ev80 ev73 ev72 ev65 ev58 ev32 ev6 ev5 ev4 ev3 ev1
                rw [hx.2.2.2.2.2.1.2.2.2.2.2.2.2] at h9
                exact hx.2.2.2.2.2.2.2.1.2.2.2.2.2.1.resolve_left h9
              exfalso
              exact (by (try clear hQ); (try subst ev87 ev80 ev73 ev72 ev65 ev58 ev32 ev6 ev5 ev4 ev3 ev1); ((try simp only [xb_eq, xb_ne, Int32.lt_iff_toInt_lt, Int32.le_iff_toInt_le] at *) <;> (try simp only [← Int32.toInt_inj, true_and, false_and, or_false, false_or, or_true, true_or, and_true, and_false] at *) <;> omega))
set_option maxHeartbeats 2000000 in
theorem c_visP_1 {L : Nat} {xs : Nat → Int32} {d : Nat} {Q : Option Value → xF → Prop} {F G : xF} {S T : Nat → Int32} {n pre B : Nat} {bst hi : Int32} (hn : n ≤ 4) (hl : 1 < n) (hx : ctxV F G S T 0 n (1 + 1) pre 44) (hR : planR n G (bst, B, hi)) (hQ : ∀ (G2 : xF) (b : Int32), frV G G2 → ((b = 1 ∧ ¬ T 5 = 1 ∧ 1 + 1 < n ∧ True ∧ planR n G2 (bst, B, hi)) ∨ ((b = 0 ∨ b = 1 ∧ (T 5 = 1 ∨ 1 + 1 = n)) ∧ planR n G2 (blk (procP n S) (pre * 10 ^ (n - (1 + 1))) (10 ^ (n - (1 + 1))) (bst, B, hi)))) → Q (some (.int b)) G2) : V2 L xs (d + 4) m_Rows_goesOn 0 (xEntry [.ref 36, .int (1 : Int32), .ref 44] 3) [] G Q := by
  have q0 : (0 : Int32).toInt = 0 := by decide
  have q1 : (1 : Int32).toInt = 1 := by decide
  have q2 : (2 : Int32).toInt = 2 := by decide
  have q3 : (3 : Int32).toInt = 3 := by decide
  have q4 : (4 : Int32).toInt = 4 := by decide
  have q5 : (5 : Int32).toInt = 5 := by decide
  have q6 : (6 : Int32).toInt = 6 := by decide
  have q7 : (7 : Int32).toInt = 7 := by decide
  have q8 : (8 : Int32).toInt = 8 := by decide
  have q9 : (9 : Int32).toInt = 9 := by decide
  have q10 : (10 : Int32).toInt = 10 := by decide
  have q12 : (12 : Int32).toInt = 12 := by decide
  have q16 : (16 : Int32).toInt = 16 := by decide
  have q20 : (20 : Int32).toInt = 20 := by decide
  have q24 : (24 : Int32).toInt = 24 := by decide
  have q30 : (30 : Int32).toInt = 30 := by decide
  have q32 : (32 : Int32).toInt = 32 := by decide
  have q40 : (40 : Int32).toInt = 40 := by decide
  have q60 : (60 : Int32).toInt = 60 := by decide
  have q69 : (69 : Int32).toInt = 69 := by decide
  have q99 : (99 : Int32).toInt = 99 := by decide
  have q9999 : (9999 : Int32).toInt = 9999 := by decide
  have q274 : (274 : Int32).toInt = 274 := by decide
  have q334 : (334 : Int32).toInt = 334 := by decide
  have hT0 := hx.2.2.2.2.2.2.2.1.1
  have hT2 := hx.2.2.2.2.2.2.2.1.2.2.1
  have s5T := hx.2.2.2.2.2.2.2.1.2.2.2.2.2.1
  have e57 : G 44 7 = T 5 := hx.2.2.2.2.2.1.2.2.2.2.2.2.2
  refine V2.to (l' := [some (.ref 36), some (.int (1 : Int32)), some (.ref 44)]) ?_ rfl rfl rfl rfl
  refine V2_aload_n (i := 0) d_Rows_goesOn_0 rfl rfl ?_
  refine V2_get (v := G 36 4) d_Rows_goesOn_1 fl_Rows_33 (by decide) rfl (by decide) rfl rfl ?_
  refine V2_topi (fun v1 ev1 => ?_)
  have c2 : v1 = 0 := (by subst ev1; exact hx.2.1)
  refine V2_lookup (tgt := 46) d_Rows_goesOn_4 (by decide) (by rw [c2]; first | done | rfl | decide +kernel) rfl ?_
  refine V2_aload_n (i := 0) d_Rows_goesOn_46 rfl rfl ?_
  refine V2_iload_n (i := 1) d_Rows_goesOn_47 rfl rfl ?_
  refine V2_aload_n (i := 2) d_Rows_goesOn_48 rfl rfl ?_
  refine V2_callV [.int (1 : Int32), .ref 44] d_Rows_goesOn_49 rfl rfl lk_Rows_123 mo_Rows_canBeBetter (by decide) rfl rfl rfl (Nat.le_of_ble_eq_true rfl) (Nat.le_of_ble_eq_true rfl) ?_
  refine V2.to (l' := [some (.ref 36), some (.int (1 : Int32)), some (.ref 44), none, none, none, none]) ?_ rfl rfl rfl rfl
  refine V2_iload_n (i := 1) d_Rows_canBeBetter_0 rfl rfl ?_
  refine V2_iconst (v := 1) d_Rows_canBeBetter_1 rfl ?_
  refine V2_iadd d_Rows_canBeBetter_2 ?_
  refine V2_lit (v := 2) (by decide) ?_
  refine V2_istore_n (i := 3) (l' := [some (.ref 36), some (.int (1 : Int32)), some (.ref 44), some (.int (2 : Int32)), none, none, none]) d_Rows_canBeBetter_3 rfl (xst_r (Nat.le_of_ble_eq_true rfl) rfl rfl) ?_
  refine V2_aload_n (i := 2) d_Rows_canBeBetter_4 rfl rfl ?_
  refine V2_get (v := G 44 2) d_Rows_canBeBetter_5 fl_Rows_126 (by decide) rfl (by decide) rfl rfl ?_
  refine V2_topi (fun v3 ev3 => ?_)
  refine V2_aload_n (i := 2) d_Rows_canBeBetter_8 rfl rfl ?_
  refine V2_get (v := G 44 0) d_Rows_canBeBetter_9 fl_Rows_129 (by decide) rfl (by decide) rfl rfl ?_
  refine V2_topi (fun v4 ev4 => ?_)
  refine V2_isub d_Rows_canBeBetter_12 ?_
  refine V2_topi (fun v5 ev5 => ?_)
  refine V2_istore (i := 4) (l' := [some (.ref 36), some (.int (1 : Int32)), some (.ref 44), some (.int (2 : Int32)), some (.int v5), none, none]) d_Rows_canBeBetter_13 (xst_i (Nat.le_of_ble_eq_true rfl) rfl rfl) ?_
  refine V2_aload_n (i := 2) d_Rows_canBeBetter_15 rfl rfl ?_
  refine V2_get (v := G 44 7) d_Rows_canBeBetter_16 fl_Rows_80 (by decide) rfl (by decide) rfl rfl ?_
  refine V2_topi (fun v6 ev6 => ?_)
  refine V2_if_eq (tgt := 34) d_Rows_canBeBetter_19 rfl (fun c7 => ?_) (fun c7 => ?_)
  · refine V2_iconst (v := 0) d_Rows_canBeBetter_34 rfl ?_
    refine V2_istore (i := 5) (l' := [some (.ref 36), some (.int (1 : Int32)), some (.ref 44), some (.int (2 : Int32)), some (.int v5), some (.int (0 : Int32)), none]) d_Rows_canBeBetter_35 (xst_i (Nat.le_of_ble_eq_true rfl) rfl rfl) ?_
    refine V2_aload_n (i := 2) d_Rows_canBeBetter_37 rfl rfl ?_
    refine V2_get (v := G 44 7) d_Rows_canBeBetter_38 fl_Rows_80 (by decide) rfl (by decide) rfl rfl ?_
    refine V2_topi (fun v8 ev8 => ?_)
    refine V2_if_ne (tgt := 76) d_Rows_canBeBetter_41 rfl (fun c9 => ?_) (fun c9 => ?_)
    · refine V2_iconst (v := 0) d_Rows_canBeBetter_76 rfl ?_
      refine V2_istore (i := 6) (l' := [some (.ref 36), some (.int (1 : Int32)), some (.ref 44), some (.int (2 : Int32)), some (.int v5), some (.int (0 : Int32)), some (.int (0 : Int32))]) d_Rows_canBeBetter_77 (xst_i (Nat.le_of_ble_eq_true rfl) rfl rfl) ?_
      refine V2_iload (i := 5) d_Rows_canBeBetter_79 rfl ?_
      refine V2_if_eq (tgt := 89) d_Rows_canBeBetter_81 rfl (fun _ => ?_) (fun c => (by first | exact absurd c (by decide) | exact absurd (by decide) c))
      refine V2_iload (i := 5) d_Rows_canBeBetter_89 rfl ?_
      refine V2_if_ne (tgt := 99) d_Rows_canBeBetter_91 rfl (fun c => (by first | exact absurd c (by decide) | exact absurd (by decide) c)) (fun _ => ?_)
      refine V2_iload (i := 6) d_Rows_canBeBetter_94 rfl ?_
      refine V2_if_eq (tgt := 110) d_Rows_canBeBetter_96 rfl (fun _ => ?_) (fun c => (by first | exact absurd c (by decide) | exact absurd (by decide) c))
      refine V2_iload_n (i := 3) d_Rows_canBeBetter_110 rfl rfl ?_
      refine V2_iconst (v := 1) d_Rows_canBeBetter_111 rfl ?_
      refine V2_iadd d_Rows_canBeBetter_112 ?_
      refine V2_lit (v := 3) (by decide) ?_
      refine V2_aload_n (i := 0) d_Rows_canBeBetter_113 rfl rfl ?_
      refine V2_get (v := G 36 6) d_Rows_canBeBetter_114 fl_Rows_40 (by decide) rfl (by decide) rfl rfl ?_
      refine V2_topi (fun v10 ev10 => ?_)
      refine V2_icmp_ge (tgt := 124) d_Rows_canBeBetter_117 rfl (fun c11 => ?_) (fun c11 => ?_)
      · refine V2_iconst (v := 0) d_Rows_canBeBetter_124 rfl ?_
        refine V2_zreturn d_Rows_canBeBetter_125 rfl (by decide) ?_
        refine V2.to (st' := [.int (0 : Int32)]) ?_ rfl rfl rfl rfl
        refine V2_zreturn d_Rows_goesOn_52 rfl (by decide) ?_
        have hB1 : B ≤ n := hR.1
        have hf : (B = 0 ∧ (G 36 6).toInt = (n : Int) + 1) ∨ (0 < B ∧ (G 36 6).toInt = (B : Int)) := by
          rcases hR.2.1 with ⟨h1, h2⟩ | ⟨h1, h2⟩
          · exact Or.inl ⟨h1, by rw [h2, nI_toInt (by omega)]; omega⟩
          · exact Or.inr ⟨h1, by rw [h2, nI_toInt (by have := hR.1; omega)]⟩
        have hov : (bst.toInt = -1 ∧ B = 0 ∧ (G 36 7).toInt = -1000) ∨ (¬ bst.toInt = -1 ∧ (G 36 7).toInt = hi.toInt) := by
          rcases hR.2.2 with ⟨h1, h2, h3⟩ | ⟨h1, h3, _⟩
          · exact Or.inl ⟨h1, h2, by rw [h3]; decide⟩
          · exact Or.inr ⟨h1, by rw [h3]⟩
        have sA : (T 2 - T 0).toInt = (T 2).toInt - (T 0).toInt := toI_sub (by omega) (by omega) (by omega) (by omega)
        have e2 : G 44 2 = T 2 := hx.2.2.2.2.2.1.2.2.1
        have e0 : G 44 0 = T 0 := hx.2.2.2.2.2.1.1
        have el : G 36 5 = nI n := hx.2.2.1
        have sA2 : (G 44 2 - G 44 0).toInt = (T 2).toInt - (T 0).toInt := by rw [e2, e0]; exact sA
        have nl : (G 36 5).toInt = (n : Int) := by rw [el]; exact nI_toInt (by omega)
        have h5 : ¬ T 5 = 1 := by
          intro h
          have h9 := c7
          subst ev10 ev8 ev6 ev5 ev4 ev3 ev1
          rw [hx.2.2.2.2.2.1.2.2.2.2.2.2.2, h] at h9
          exact absurd h9 (by decide)
        exfalso
        exact (by (try clear hQ); (try subst ev10 ev8 ev6 ev5 ev4 ev3 ev1); ((try simp only [xb_eq, xb_ne, Int32.lt_iff_toInt_lt, Int32.le_iff_toInt_le] at *) <;> (try simp only [← Int32.toInt_inj, true_and, false_and, or_false, false_or, or_true, true_or, and_true, and_false] at *) <;> omega))
      · refine V2_iconst (v := 1) d_Rows_canBeBetter_120 rfl ?_
        refine V2_goto (tgt := 125) d_Rows_canBeBetter_121 rfl ?_
        refine V2_zreturn d_Rows_canBeBetter_125 rfl (by decide) ?_
        refine V2.to (st' := [.int (1 : Int32)]) ?_ rfl rfl rfl rfl
        refine V2_zreturn d_Rows_goesOn_52 rfl (by decide) ?_
        have hB1 : B ≤ n := hR.1
        have hf : (B = 0 ∧ (G 36 6).toInt = (n : Int) + 1) ∨ (0 < B ∧ (G 36 6).toInt = (B : Int)) := by
          rcases hR.2.1 with ⟨h1, h2⟩ | ⟨h1, h2⟩
          · exact Or.inl ⟨h1, by rw [h2, nI_toInt (by omega)]; omega⟩
          · exact Or.inr ⟨h1, by rw [h2, nI_toInt (by have := hR.1; omega)]⟩
        have hov : (bst.toInt = -1 ∧ B = 0 ∧ (G 36 7).toInt = -1000) ∨ (¬ bst.toInt = -1 ∧ (G 36 7).toInt = hi.toInt) := by
          rcases hR.2.2 with ⟨h1, h2, h3⟩ | ⟨h1, h3, _⟩
          · exact Or.inl ⟨h1, h2, by rw [h3]; decide⟩
          · exact Or.inr ⟨h1, by rw [h3]⟩
        have sA : (T 2 - T 0).toInt = (T 2).toInt - (T 0).toInt := toI_sub (by omega) (by omega) (by omega) (by omega)
        have e2 : G 44 2 = T 2 := hx.2.2.2.2.2.1.2.2.1
        have e0 : G 44 0 = T 0 := hx.2.2.2.2.2.1.1
        have el : G 36 5 = nI n := hx.2.2.1
        have sA2 : (G 44 2 - G 44 0).toInt = (T 2).toInt - (T 0).toInt := by rw [e2, e0]; exact sA
        have nl : (G 36 5).toInt = (n : Int) := by rw [el]; exact nI_toInt (by omega)
        have h5 : ¬ T 5 = 1 := by
          intro h
          have h9 := c7
          subst ev10 ev8 ev6 ev5 ev4 ev3 ev1
          rw [hx.2.2.2.2.2.1.2.2.2.2.2.2.2, h] at h9
          exact absurd h9 (by decide)
        exfalso
        exact (by (try clear hQ); (try subst ev10 ev8 ev6 ev5 ev4 ev3 ev1); ((try simp only [xb_eq, xb_ne, Int32.lt_iff_toInt_lt, Int32.le_iff_toInt_le] at *) <;> (try simp only [← Int32.toInt_inj, true_and, false_and, or_false, false_or, or_true, true_or, and_true, and_false] at *) <;> omega))
    · refine V2_iload_n (i := 3) d_Rows_canBeBetter_44 rfl rfl ?_
      refine V2_aload_n (i := 0) d_Rows_canBeBetter_45 rfl rfl ?_
      refine V2_get (v := G 36 5) d_Rows_canBeBetter_46 fl_Rows_37 (by decide) rfl (by decide) rfl rfl ?_
      refine V2_topi (fun v12 ev12 => ?_)
      refine V2_icmp_ne (tgt := 76) d_Rows_canBeBetter_49 rfl (fun c13 => ?_) (fun c13 => ?_)
      · refine V2_iconst (v := 0) d_Rows_canBeBetter_76 rfl ?_
        refine V2_istore (i := 6) (l' := [some (.ref 36), some (.int (1 : Int32)), some (.ref 44), some (.int (2 : Int32)), some (.int v5), some (.int (0 : Int32)), some (.int (0 : Int32))]) d_Rows_canBeBetter_77 (xst_i (Nat.le_of_ble_eq_true rfl) rfl rfl) ?_
        refine V2_iload (i := 5) d_Rows_canBeBetter_79 rfl ?_
        refine V2_if_eq (tgt := 89) d_Rows_canBeBetter_81 rfl (fun _ => ?_) (fun c => (by first | exact absurd c (by decide) | exact absurd (by decide) c))
        refine V2_iload (i := 5) d_Rows_canBeBetter_89 rfl ?_
        refine V2_if_ne (tgt := 99) d_Rows_canBeBetter_91 rfl (fun c => (by first | exact absurd c (by decide) | exact absurd (by decide) c)) (fun _ => ?_)
        refine V2_iload (i := 6) d_Rows_canBeBetter_94 rfl ?_
        refine V2_if_eq (tgt := 110) d_Rows_canBeBetter_96 rfl (fun _ => ?_) (fun c => (by first | exact absurd c (by decide) | exact absurd (by decide) c))
        refine V2_iload_n (i := 3) d_Rows_canBeBetter_110 rfl rfl ?_
        refine V2_iconst (v := 1) d_Rows_canBeBetter_111 rfl ?_
        refine V2_iadd d_Rows_canBeBetter_112 ?_
        refine V2_lit (v := 3) (by decide) ?_
        refine V2_aload_n (i := 0) d_Rows_canBeBetter_113 rfl rfl ?_
        refine V2_get (v := G 36 6) d_Rows_canBeBetter_114 fl_Rows_40 (by decide) rfl (by decide) rfl rfl ?_
        refine V2_topi (fun v14 ev14 => ?_)
        refine V2_icmp_ge (tgt := 124) d_Rows_canBeBetter_117 rfl (fun c15 => ?_) (fun c15 => ?_)
        · refine V2_iconst (v := 0) d_Rows_canBeBetter_124 rfl ?_
          refine V2_zreturn d_Rows_canBeBetter_125 rfl (by decide) ?_
          refine V2.to (st' := [.int (0 : Int32)]) ?_ rfl rfl rfl rfl
          refine V2_zreturn d_Rows_goesOn_52 rfl (by decide) ?_
          have hB1 : B ≤ n := hR.1
          have hf : (B = 0 ∧ (G 36 6).toInt = (n : Int) + 1) ∨ (0 < B ∧ (G 36 6).toInt = (B : Int)) := by
            rcases hR.2.1 with ⟨h1, h2⟩ | ⟨h1, h2⟩
            · exact Or.inl ⟨h1, by rw [h2, nI_toInt (by omega)]; omega⟩
            · exact Or.inr ⟨h1, by rw [h2, nI_toInt (by have := hR.1; omega)]⟩
          have hov : (bst.toInt = -1 ∧ B = 0 ∧ (G 36 7).toInt = -1000) ∨ (¬ bst.toInt = -1 ∧ (G 36 7).toInt = hi.toInt) := by
            rcases hR.2.2 with ⟨h1, h2, h3⟩ | ⟨h1, h3, _⟩
            · exact Or.inl ⟨h1, h2, by rw [h3]; decide⟩
            · exact Or.inr ⟨h1, by rw [h3]⟩
          have sA : (T 2 - T 0).toInt = (T 2).toInt - (T 0).toInt := toI_sub (by omega) (by omega) (by omega) (by omega)
          have e2 : G 44 2 = T 2 := hx.2.2.2.2.2.1.2.2.1
          have e0 : G 44 0 = T 0 := hx.2.2.2.2.2.1.1
          have el : G 36 5 = nI n := hx.2.2.1
          have sA2 : (G 44 2 - G 44 0).toInt = (T 2).toInt - (T 0).toInt := by rw [e2, e0]; exact sA
          have nl : (G 36 5).toInt = (n : Int) := by rw [el]; exact nI_toInt (by omega)
          have h5 : ¬ T 5 = 1 := by
            intro h
            have h9 := c7
            subst ev14 ev12 ev8 ev6 ev5 ev4 ev3 ev1
            rw [hx.2.2.2.2.2.1.2.2.2.2.2.2.2, h] at h9
            exact absurd h9 (by decide)
          have hrow : ∀ i, pre * 10 ^ (n - (1 + 1)) ≤ i → i < pre * 10 ^ (n - (1 + 1)) + 10 ^ (n - (1 + 1)) → trN (PN S) n i S = ((trN (PN S) (n - (1 + 1)) (i - pre * 10 ^ (n - (1 + 1))) T).1.map (fun j => j + (1 + 1)), (trN (PN S) (n - (1 + 1)) (i - pre * 10 ^ (n - (1 + 1))) T).2) := by
            intro i h1 h2
            have hs := hx.2.2.2.2.2.2.2.2 (i - pre * 10 ^ (n - (1 + 1))) (by omega)
            rw [show pre * 10 ^ (n - (1 + 1)) + (i - pre * 10 ^ (n - (1 + 1))) = i by omega] at hs
            exact hs
          have hln : 1 + 1 < n := (by (try clear hQ); (try subst ev14 ev12 ev8 ev6 ev5 ev4 ev3 ev1); ((try simp only [xb_eq, xb_ne, Int32.lt_iff_toInt_lt, Int32.le_iff_toInt_le] at *) <;> (try simp only [← Int32.toInt_inj, true_and, false_and, or_false, false_or, or_true, true_or, and_true, and_false] at *) <;> omega))
          have hlB : 0 < B ∧ B ≤ 1 + 2 := (by (try clear hQ); (try subst ev14 ev12 ev8 ev6 ev5 ev4 ev3 ev1); ((try simp only [xb_eq, xb_ne, Int32.lt_iff_toInt_lt, Int32.le_iff_toInt_le] at *) <;> (try simp only [← Int32.toInt_inj, true_and, false_and, or_false, false_or, or_true, true_or, and_true, and_false] at *) <;> omega))
          subst ev14 ev12 ev8 ev6 ev5 ev4 ev3 ev1
          refine hQ _ 0 ⟨fun a h1 h2 => ?_, rfl, rfl⟩ (Or.inr ⟨Or.inl rfl, ?_⟩)
          · rfl
          · rw [blk_id _ _ _ _ (fun i h1 h2 => ?_)]
            · exact hR
            · have e1 := hrow i h1 h2
              refine pP_f e1 ?_
              cases eo : (trN (PN S) (n - (1 + 1)) (i - pre * 10 ^ (n - (1 + 1))) T).1 with
              | none =>
                show ¬ (bst.toInt = -1 ∨ (0 < 0 ∧ _) ∨ (0 = 0 ∧ B = 0 ∧ _))
                omega
              | some j =>
                have hj := tr_pos h5 eo
                show ¬ (bst.toInt = -1 ∨ (0 < j + (1 + 1) ∧ (B = 0 ∨ j + (1 + 1) < B)) ∨ (j + (1 + 1) = 0 ∧ _))
                omega
        · refine V2_iconst (v := 1) d_Rows_canBeBetter_120 rfl ?_
          refine V2_goto (tgt := 125) d_Rows_canBeBetter_121 rfl ?_
          refine V2_zreturn d_Rows_canBeBetter_125 rfl (by decide) ?_
          refine V2.to (st' := [.int (1 : Int32)]) ?_ rfl rfl rfl rfl
          refine V2_zreturn d_Rows_goesOn_52 rfl (by decide) ?_
          have hB1 : B ≤ n := hR.1
          have hf : (B = 0 ∧ (G 36 6).toInt = (n : Int) + 1) ∨ (0 < B ∧ (G 36 6).toInt = (B : Int)) := by
            rcases hR.2.1 with ⟨h1, h2⟩ | ⟨h1, h2⟩
            · exact Or.inl ⟨h1, by rw [h2, nI_toInt (by omega)]; omega⟩
            · exact Or.inr ⟨h1, by rw [h2, nI_toInt (by have := hR.1; omega)]⟩
          have hov : (bst.toInt = -1 ∧ B = 0 ∧ (G 36 7).toInt = -1000) ∨ (¬ bst.toInt = -1 ∧ (G 36 7).toInt = hi.toInt) := by
            rcases hR.2.2 with ⟨h1, h2, h3⟩ | ⟨h1, h3, _⟩
            · exact Or.inl ⟨h1, h2, by rw [h3]; decide⟩
            · exact Or.inr ⟨h1, by rw [h3]⟩
          have sA : (T 2 - T 0).toInt = (T 2).toInt - (T 0).toInt := toI_sub (by omega) (by omega) (by omega) (by omega)
          have e2 : G 44 2 = T 2 := hx.2.2.2.2.2.1.2.2.1
          have e0 : G 44 0 = T 0 := hx.2.2.2.2.2.1.1
          have el : G 36 5 = nI n := hx.2.2.1
          have sA2 : (G 44 2 - G 44 0).toInt = (T 2).toInt - (T 0).toInt := by rw [e2, e0]; exact sA
          have nl : (G 36 5).toInt = (n : Int) := by rw [el]; exact nI_toInt (by omega)
          have h5 : ¬ T 5 = 1 := by
            intro h
            have h9 := c7
            subst ev14 ev12 ev8 ev6 ev5 ev4 ev3 ev1
            rw [hx.2.2.2.2.2.1.2.2.2.2.2.2.2, h] at h9
            exact absurd h9 (by decide)
          have hln : 1 + 1 < n := (by (try clear hQ); (try subst ev14 ev12 ev8 ev6 ev5 ev4 ev3 ev1); ((try simp only [xb_eq, xb_ne, Int32.lt_iff_toInt_lt, Int32.le_iff_toInt_le] at *) <;> (try simp only [← Int32.toInt_inj, true_and, false_and, or_false, false_or, or_true, true_or, and_true, and_false] at *) <;> omega))
          subst ev14 ev12 ev8 ev6 ev5 ev4 ev3 ev1
          exact hQ G 1 (frV.refl G) (Or.inl ⟨rfl, h5, hln, trivial, hR⟩)
      · refine V2_aload_n (i := 0) d_Rows_canBeBetter_52 rfl rfl ?_
        refine V2_get (v := G 36 6) d_Rows_canBeBetter_53 fl_Rows_40 (by decide) rfl (by decide) rfl rfl ?_
        refine V2_topi (fun v16 ev16 => ?_)
        refine V2_aload_n (i := 0) d_Rows_canBeBetter_56 rfl rfl ?_
        refine V2_get (v := G 36 5) d_Rows_canBeBetter_57 fl_Rows_37 (by decide) rfl (by decide) rfl rfl ?_
        refine V2_topi (fun v17 ev17 => ?_)
        refine V2_icmp_le (tgt := 76) d_Rows_canBeBetter_60 rfl (fun c18 => ?_) (fun c18 => ?_)
        · refine V2_iconst (v := 0) d_Rows_canBeBetter_76 rfl ?_
          refine V2_istore (i := 6) (l' := [some (.ref 36), some (.int (1 : Int32)), some (.ref 44), some (.int (2 : Int32)), some (.int v5), some (.int (0 : Int32)), some (.int (0 : Int32))]) d_Rows_canBeBetter_77 (xst_i (Nat.le_of_ble_eq_true rfl) rfl rfl) ?_
          refine V2_iload (i := 5) d_Rows_canBeBetter_79 rfl ?_
          refine V2_if_eq (tgt := 89) d_Rows_canBeBetter_81 rfl (fun _ => ?_) (fun c => (by first | exact absurd c (by decide) | exact absurd (by decide) c))
          refine V2_iload (i := 5) d_Rows_canBeBetter_89 rfl ?_
          refine V2_if_ne (tgt := 99) d_Rows_canBeBetter_91 rfl (fun c => (by first | exact absurd c (by decide) | exact absurd (by decide) c)) (fun _ => ?_)
          refine V2_iload (i := 6) d_Rows_canBeBetter_94 rfl ?_
          refine V2_if_eq (tgt := 110) d_Rows_canBeBetter_96 rfl (fun _ => ?_) (fun c => (by first | exact absurd c (by decide) | exact absurd (by decide) c))
          refine V2_iload_n (i := 3) d_Rows_canBeBetter_110 rfl rfl ?_
          refine V2_iconst (v := 1) d_Rows_canBeBetter_111 rfl ?_
          refine V2_iadd d_Rows_canBeBetter_112 ?_
          refine V2_lit (v := 3) (by decide) ?_
          refine V2_aload_n (i := 0) d_Rows_canBeBetter_113 rfl rfl ?_
          refine V2_get (v := G 36 6) d_Rows_canBeBetter_114 fl_Rows_40 (by decide) rfl (by decide) rfl rfl ?_
          refine V2_topi (fun v19 ev19 => ?_)
          refine V2_icmp_ge (tgt := 124) d_Rows_canBeBetter_117 rfl (fun c20 => ?_) (fun c20 => ?_)
          · refine V2_iconst (v := 0) d_Rows_canBeBetter_124 rfl ?_
            refine V2_zreturn d_Rows_canBeBetter_125 rfl (by decide) ?_
            refine V2.to (st' := [.int (0 : Int32)]) ?_ rfl rfl rfl rfl
            refine V2_zreturn d_Rows_goesOn_52 rfl (by decide) ?_
            have hB1 : B ≤ n := hR.1
            have hf : (B = 0 ∧ (G 36 6).toInt = (n : Int) + 1) ∨ (0 < B ∧ (G 36 6).toInt = (B : Int)) := by
              rcases hR.2.1 with ⟨h1, h2⟩ | ⟨h1, h2⟩
              · exact Or.inl ⟨h1, by rw [h2, nI_toInt (by omega)]; omega⟩
              · exact Or.inr ⟨h1, by rw [h2, nI_toInt (by have := hR.1; omega)]⟩
            have hov : (bst.toInt = -1 ∧ B = 0 ∧ (G 36 7).toInt = -1000) ∨ (¬ bst.toInt = -1 ∧ (G 36 7).toInt = hi.toInt) := by
              rcases hR.2.2 with ⟨h1, h2, h3⟩ | ⟨h1, h3, _⟩
              · exact Or.inl ⟨h1, h2, by rw [h3]; decide⟩
              · exact Or.inr ⟨h1, by rw [h3]⟩
            have sA : (T 2 - T 0).toInt = (T 2).toInt - (T 0).toInt := toI_sub (by omega) (by omega) (by omega) (by omega)
            have e2 : G 44 2 = T 2 := hx.2.2.2.2.2.1.2.2.1
            have e0 : G 44 0 = T 0 := hx.2.2.2.2.2.1.1
            have el : G 36 5 = nI n := hx.2.2.1
            have sA2 : (G 44 2 - G 44 0).toInt = (T 2).toInt - (T 0).toInt := by rw [e2, e0]; exact sA
            have nl : (G 36 5).toInt = (n : Int) := by rw [el]; exact nI_toInt (by omega)
            have h5 : ¬ T 5 = 1 := by
              intro h
              have h9 := c7
              subst ev19 ev17 ev16 ev12 ev8 ev6 ev5 ev4 ev3 ev1
              rw [hx.2.2.2.2.2.1.2.2.2.2.2.2.2, h] at h9
              exact absurd h9 (by decide)
            have hln : n = 1 + 1 := (by (try clear hQ); (try subst ev19 ev17 ev16 ev12 ev8 ev6 ev5 ev4 ev3 ev1); ((try simp only [xb_eq, xb_ne, Int32.lt_iff_toInt_lt, Int32.le_iff_toInt_le] at *) <;> (try simp only [← Int32.toInt_inj, true_and, false_and, or_false, false_or, or_true, true_or, and_true, and_false] at *) <;> omega))
            subst hln
            have e1 := hx.2.2.2.2.2.2.2.2 0 (Nat.pow_pos (by decide))
            rw [Nat.sub_self, Nat.pow_zero, Nat.mul_one, Nat.add_zero pre, tr_0 h5] at e1
            have hab : abR ((none : Option Nat).map (fun j => j + (1 + 1)), T) = T 2 - T 0 := rfl
            have hno : ¬ (bst.toInt = -1 ∨ (B = 0 ∧ hi.toInt < (T 2 - T 0).toInt)) := (by (try clear hQ); (try subst ev19 ev17 ev16 ev12 ev8 ev6 ev5 ev4 ev3 ev1); ((try simp only [xb_eq, xb_ne, Int32.lt_iff_toInt_lt, Int32.le_iff_toInt_le] at *) <;> (try simp only [← Int32.toInt_inj, true_and, false_and, or_false, false_or, or_true, true_or, and_true, and_false] at *) <;> omega))
            subst ev19 ev17 ev16 ev12 ev8 ev6 ev5 ev4 ev3 ev1
            refine hQ _ 0 ⟨fun a h1 h2 => ?_, rfl, rfl⟩ (Or.inr ⟨Or.inl rfl, ?_⟩)
            · rfl
            · rw [Nat.sub_self, Nat.pow_zero, Nat.mul_one, blk_1, pP_f e1 (show ¬ (_ ∨ _) from ?_)]
              · exact hR
              · show ¬ (bst.toInt = -1 ∨ (0 < 0 ∧ _) ∨ (0 = 0 ∧ B = 0 ∧ hi.toInt < (T 2 - T 0).toInt))
                omega
          · refine V2_iconst (v := 1) d_Rows_canBeBetter_120 rfl ?_
            refine V2_goto (tgt := 125) d_Rows_canBeBetter_121 rfl ?_
            refine V2_zreturn d_Rows_canBeBetter_125 rfl (by decide) ?_
            refine V2.to (st' := [.int (1 : Int32)]) ?_ rfl rfl rfl rfl
            refine V2_zreturn d_Rows_goesOn_52 rfl (by decide) ?_
            have hB1 : B ≤ n := hR.1
            have hf : (B = 0 ∧ (G 36 6).toInt = (n : Int) + 1) ∨ (0 < B ∧ (G 36 6).toInt = (B : Int)) := by
              rcases hR.2.1 with ⟨h1, h2⟩ | ⟨h1, h2⟩
              · exact Or.inl ⟨h1, by rw [h2, nI_toInt (by omega)]; omega⟩
              · exact Or.inr ⟨h1, by rw [h2, nI_toInt (by have := hR.1; omega)]⟩
            have hov : (bst.toInt = -1 ∧ B = 0 ∧ (G 36 7).toInt = -1000) ∨ (¬ bst.toInt = -1 ∧ (G 36 7).toInt = hi.toInt) := by
              rcases hR.2.2 with ⟨h1, h2, h3⟩ | ⟨h1, h3, _⟩
              · exact Or.inl ⟨h1, h2, by rw [h3]; decide⟩
              · exact Or.inr ⟨h1, by rw [h3]⟩
            have sA : (T 2 - T 0).toInt = (T 2).toInt - (T 0).toInt := toI_sub (by omega) (by omega) (by omega) (by omega)
            have e2 : G 44 2 = T 2 := hx.2.2.2.2.2.1.2.2.1
            have e0 : G 44 0 = T 0 := hx.2.2.2.2.2.1.1
            have el : G 36 5 = nI n := hx.2.2.1
            have sA2 : (G 44 2 - G 44 0).toInt = (T 2).toInt - (T 0).toInt := by rw [e2, e0]; exact sA
            have nl : (G 36 5).toInt = (n : Int) := by rw [el]; exact nI_toInt (by omega)
            have h5 : ¬ T 5 = 1 := by
              intro h
              have h9 := c7
              subst ev19 ev17 ev16 ev12 ev8 ev6 ev5 ev4 ev3 ev1
              rw [hx.2.2.2.2.2.1.2.2.2.2.2.2.2, h] at h9
              exact absurd h9 (by decide)
            exfalso
            exact (by (try clear hQ); (try subst ev19 ev17 ev16 ev12 ev8 ev6 ev5 ev4 ev3 ev1); ((try simp only [xb_eq, xb_ne, Int32.lt_iff_toInt_lt, Int32.le_iff_toInt_le] at *) <;> (try simp only [← Int32.toInt_inj, true_and, false_and, or_false, false_or, or_true, true_or, and_true, and_false] at *) <;> omega))
        · refine V2_iload (i := 4) d_Rows_canBeBetter_63 rfl ?_
          refine V2_aload_n (i := 0) d_Rows_canBeBetter_65 rfl rfl ?_
          refine V2_get (v := G 36 7) d_Rows_canBeBetter_66 fl_Rows_43 (by decide) rfl (by decide) rfl rfl ?_
          refine V2_topi (fun v21 ev21 => ?_)
          refine V2_icmp_le (tgt := 76) d_Rows_canBeBetter_69 rfl (fun c22 => ?_) (fun c22 => ?_)
          · refine V2_iconst (v := 0) d_Rows_canBeBetter_76 rfl ?_
            refine V2_istore (i := 6) (l' := [some (.ref 36), some (.int (1 : Int32)), some (.ref 44), some (.int (2 : Int32)), some (.int v5), some (.int (0 : Int32)), some (.int (0 : Int32))]) d_Rows_canBeBetter_77 (xst_i (Nat.le_of_ble_eq_true rfl) rfl rfl) ?_
            refine V2_iload (i := 5) d_Rows_canBeBetter_79 rfl ?_
            refine V2_if_eq (tgt := 89) d_Rows_canBeBetter_81 rfl (fun _ => ?_) (fun c => (by first | exact absurd c (by decide) | exact absurd (by decide) c))
            refine V2_iload (i := 5) d_Rows_canBeBetter_89 rfl ?_
            refine V2_if_ne (tgt := 99) d_Rows_canBeBetter_91 rfl (fun c => (by first | exact absurd c (by decide) | exact absurd (by decide) c)) (fun _ => ?_)
            refine V2_iload (i := 6) d_Rows_canBeBetter_94 rfl ?_
            refine V2_if_eq (tgt := 110) d_Rows_canBeBetter_96 rfl (fun _ => ?_) (fun c => (by first | exact absurd c (by decide) | exact absurd (by decide) c))
            refine V2_iload_n (i := 3) d_Rows_canBeBetter_110 rfl rfl ?_
            refine V2_iconst (v := 1) d_Rows_canBeBetter_111 rfl ?_
            refine V2_iadd d_Rows_canBeBetter_112 ?_
            refine V2_lit (v := 3) (by decide) ?_
            refine V2_aload_n (i := 0) d_Rows_canBeBetter_113 rfl rfl ?_
            refine V2_get (v := G 36 6) d_Rows_canBeBetter_114 fl_Rows_40 (by decide) rfl (by decide) rfl rfl ?_
            refine V2_topi (fun v23 ev23 => ?_)
            refine V2_icmp_ge (tgt := 124) d_Rows_canBeBetter_117 rfl (fun c24 => ?_) (fun c24 => ?_)
            · refine V2_iconst (v := 0) d_Rows_canBeBetter_124 rfl ?_
              refine V2_zreturn d_Rows_canBeBetter_125 rfl (by decide) ?_
              refine V2.to (st' := [.int (0 : Int32)]) ?_ rfl rfl rfl rfl
              refine V2_zreturn d_Rows_goesOn_52 rfl (by decide) ?_
              have hB1 : B ≤ n := hR.1
              have hf : (B = 0 ∧ (G 36 6).toInt = (n : Int) + 1) ∨ (0 < B ∧ (G 36 6).toInt = (B : Int)) := by
                rcases hR.2.1 with ⟨h1, h2⟩ | ⟨h1, h2⟩
                · exact Or.inl ⟨h1, by rw [h2, nI_toInt (by omega)]; omega⟩
                · exact Or.inr ⟨h1, by rw [h2, nI_toInt (by have := hR.1; omega)]⟩
              have hov : (bst.toInt = -1 ∧ B = 0 ∧ (G 36 7).toInt = -1000) ∨ (¬ bst.toInt = -1 ∧ (G 36 7).toInt = hi.toInt) := by
                rcases hR.2.2 with ⟨h1, h2, h3⟩ | ⟨h1, h3, _⟩
                · exact Or.inl ⟨h1, h2, by rw [h3]; decide⟩
                · exact Or.inr ⟨h1, by rw [h3]⟩
              have sA : (T 2 - T 0).toInt = (T 2).toInt - (T 0).toInt := toI_sub (by omega) (by omega) (by omega) (by omega)
              have e2 : G 44 2 = T 2 := hx.2.2.2.2.2.1.2.2.1
              have e0 : G 44 0 = T 0 := hx.2.2.2.2.2.1.1
              have el : G 36 5 = nI n := hx.2.2.1
              have sA2 : (G 44 2 - G 44 0).toInt = (T 2).toInt - (T 0).toInt := by rw [e2, e0]; exact sA
              have nl : (G 36 5).toInt = (n : Int) := by rw [el]; exact nI_toInt (by omega)
              have h5 : ¬ T 5 = 1 := by
                intro h
                have h9 := c7
                subst ev23 ev21 ev17 ev16 ev12 ev8 ev6 ev5 ev4 ev3 ev1
                rw [hx.2.2.2.2.2.1.2.2.2.2.2.2.2, h] at h9
                exact absurd h9 (by decide)
              have hln : n = 1 + 1 := (by (try clear hQ); (try subst ev23 ev21 ev17 ev16 ev12 ev8 ev6 ev5 ev4 ev3 ev1); ((try simp only [xb_eq, xb_ne, Int32.lt_iff_toInt_lt, Int32.le_iff_toInt_le] at *) <;> (try simp only [← Int32.toInt_inj, true_and, false_and, or_false, false_or, or_true, true_or, and_true, and_false] at *) <;> omega))
              subst hln
              have e1 := hx.2.2.2.2.2.2.2.2 0 (Nat.pow_pos (by decide))
              rw [Nat.sub_self, Nat.pow_zero, Nat.mul_one, Nat.add_zero pre, tr_0 h5] at e1
              have hab : abR ((none : Option Nat).map (fun j => j + (1 + 1)), T) = T 2 - T 0 := rfl
              have hno : ¬ (bst.toInt = -1 ∨ (B = 0 ∧ hi.toInt < (T 2 - T 0).toInt)) := (by (try clear hQ); (try subst ev23 ev21 ev17 ev16 ev12 ev8 ev6 ev5 ev4 ev3 ev1); ((try simp only [xb_eq, xb_ne, Int32.lt_iff_toInt_lt, Int32.le_iff_toInt_le] at *) <;> (try simp only [← Int32.toInt_inj, true_and, false_and, or_false, false_or, or_true, true_or, and_true, and_false] at *) <;> omega))
              subst ev23 ev21 ev17 ev16 ev12 ev8 ev6 ev5 ev4 ev3 ev1
              refine hQ _ 0 ⟨fun a h1 h2 => ?_, rfl, rfl⟩ (Or.inr ⟨Or.inl rfl, ?_⟩)
              · rfl
              · rw [Nat.sub_self, Nat.pow_zero, Nat.mul_one, blk_1, pP_f e1 (show ¬ (_ ∨ _) from ?_)]
                · exact hR
                · show ¬ (bst.toInt = -1 ∨ (0 < 0 ∧ _) ∨ (0 = 0 ∧ B = 0 ∧ hi.toInt < (T 2 - T 0).toInt))
                  omega
            · refine V2_iconst (v := 1) d_Rows_canBeBetter_120 rfl ?_
              refine V2_goto (tgt := 125) d_Rows_canBeBetter_121 rfl ?_
              refine V2_zreturn d_Rows_canBeBetter_125 rfl (by decide) ?_
              refine V2.to (st' := [.int (1 : Int32)]) ?_ rfl rfl rfl rfl
              refine V2_zreturn d_Rows_goesOn_52 rfl (by decide) ?_
              have hB1 : B ≤ n := hR.1
              have hf : (B = 0 ∧ (G 36 6).toInt = (n : Int) + 1) ∨ (0 < B ∧ (G 36 6).toInt = (B : Int)) := by
                rcases hR.2.1 with ⟨h1, h2⟩ | ⟨h1, h2⟩
                · exact Or.inl ⟨h1, by rw [h2, nI_toInt (by omega)]; omega⟩
                · exact Or.inr ⟨h1, by rw [h2, nI_toInt (by have := hR.1; omega)]⟩
              have hov : (bst.toInt = -1 ∧ B = 0 ∧ (G 36 7).toInt = -1000) ∨ (¬ bst.toInt = -1 ∧ (G 36 7).toInt = hi.toInt) := by
                rcases hR.2.2 with ⟨h1, h2, h3⟩ | ⟨h1, h3, _⟩
                · exact Or.inl ⟨h1, h2, by rw [h3]; decide⟩
                · exact Or.inr ⟨h1, by rw [h3]⟩
              have sA : (T 2 - T 0).toInt = (T 2).toInt - (T 0).toInt := toI_sub (by omega) (by omega) (by omega) (by omega)
              have e2 : G 44 2 = T 2 := hx.2.2.2.2.2.1.2.2.1
              have e0 : G 44 0 = T 0 := hx.2.2.2.2.2.1.1
              have el : G 36 5 = nI n := hx.2.2.1
              have sA2 : (G 44 2 - G 44 0).toInt = (T 2).toInt - (T 0).toInt := by rw [e2, e0]; exact sA
              have nl : (G 36 5).toInt = (n : Int) := by rw [el]; exact nI_toInt (by omega)
              have h5 : ¬ T 5 = 1 := by
                intro h
                have h9 := c7
                subst ev23 ev21 ev17 ev16 ev12 ev8 ev6 ev5 ev4 ev3 ev1
                rw [hx.2.2.2.2.2.1.2.2.2.2.2.2.2, h] at h9
                exact absurd h9 (by decide)
              exfalso
              exact (by (try clear hQ); (try subst ev23 ev21 ev17 ev16 ev12 ev8 ev6 ev5 ev4 ev3 ev1); ((try simp only [xb_eq, xb_ne, Int32.lt_iff_toInt_lt, Int32.le_iff_toInt_le] at *) <;> (try simp only [← Int32.toInt_inj, true_and, false_and, or_false, false_or, or_true, true_or, and_true, and_false] at *) <;> omega))
          · refine V2_iconst (v := 1) d_Rows_canBeBetter_72 rfl ?_
            refine V2_goto (tgt := 77) d_Rows_canBeBetter_73 rfl ?_
            refine V2_istore (i := 6) (l' := [some (.ref 36), some (.int (1 : Int32)), some (.ref 44), some (.int (2 : Int32)), some (.int v5), some (.int (0 : Int32)), some (.int (1 : Int32))]) d_Rows_canBeBetter_77 (xst_i (Nat.le_of_ble_eq_true rfl) rfl rfl) ?_
            refine V2_iload (i := 5) d_Rows_canBeBetter_79 rfl ?_
            refine V2_if_eq (tgt := 89) d_Rows_canBeBetter_81 rfl (fun _ => ?_) (fun c => (by first | exact absurd c (by decide) | exact absurd (by decide) c))
            refine V2_iload (i := 5) d_Rows_canBeBetter_89 rfl ?_
            refine V2_if_ne (tgt := 99) d_Rows_canBeBetter_91 rfl (fun c => (by first | exact absurd c (by decide) | exact absurd (by decide) c)) (fun _ => ?_)
            refine V2_iload (i := 6) d_Rows_canBeBetter_94 rfl ?_
            refine V2_if_eq (tgt := 110) d_Rows_canBeBetter_96 rfl (fun c => (by first | exact absurd c (by decide) | exact absurd (by decide) c)) (fun _ => ?_)
            refine V2_aload_n (i := 0) d_Rows_canBeBetter_99 rfl rfl ?_
            refine V2_iload (i := 4) d_Rows_canBeBetter_100 rfl ?_
            refine V2_put d_Rows_canBeBetter_102 fl_Rows_43 (by decide) rfl (by decide) rfl ?_
            refine V2_aload_n (i := 0) d_Rows_canBeBetter_105 rfl rfl ?_
            refine V2_iload_n (i := 1) d_Rows_canBeBetter_106 rfl rfl ?_
            refine V2_callV [.int (1 : Int32)] d_Rows_canBeBetter_107 rfl rfl lk_Rows_132 mo_Rows_keep (by decide) rfl rfl rfl (Nat.le_of_ble_eq_true rfl) (Nat.le_of_ble_eq_true rfl) ?_
            refine V2.to (l' := [some (.ref 36), some (.int (1 : Int32)), none]) ?_ rfl rfl rfl rfl
            refine V2_iconst (v := 0) d_Rows_keep_0 rfl ?_
            refine V2_istore_n (i := 2) (l' := [some (.ref 36), some (.int (1 : Int32)), some (.int (0 : Int32))]) d_Rows_keep_1 rfl (xst_i (Nat.le_of_ble_eq_true rfl) rfl rfl) ?_
            refine V2_iload_n (i := 2) d_Rows_keep_2 rfl rfl ?_
            refine V2_aload_n (i := 0) d_Rows_keep_3 rfl rfl ?_
            refine V2_getr (a := 40) d_Rows_keep_4 fl_Rows_26 (by decide) rfl (by decide) rfl ?_
            refine V2_alen (t := 0) (v := 4) d_Rows_keep_7 (by decide) rfl (by decide) rfl ?_
            refine V2_icmp_ge (tgt := 47) d_Rows_keep_8 rfl (fun c => (by first | exact absurd c (by decide) | exact absurd (by decide) c)) (fun _ => ?_)
            refine V2_iload_n (i := 2) d_Rows_keep_11 rfl rfl ?_
            refine V2_aload_n (i := 0) d_Rows_keep_12 rfl rfl ?_
            refine V2_getr (a := 41) d_Rows_keep_13 fl_Rows_30 (by decide) rfl (by decide) rfl ?_
            refine V2_alen (t := 0) (v := 4) d_Rows_keep_16 (by decide) rfl (by decide) rfl ?_
            refine V2_icmp_ge (tgt := 47) d_Rows_keep_17 rfl (fun c => (by first | exact absurd c (by decide) | exact absurd (by decide) c)) (fun _ => ?_)
            refine V2_aload_n (i := 0) d_Rows_keep_20 rfl rfl ?_
            refine V2_getr (a := 41) d_Rows_keep_21 fl_Rows_30 (by decide) rfl (by decide) rfl ?_
            refine V2_iload_n (i := 2) d_Rows_keep_24 rfl rfl ?_
            refine V2_iload_n (i := 2) d_Rows_keep_25 rfl rfl ?_
            refine V2_iload_n (i := 1) d_Rows_keep_26 rfl rfl ?_
            refine V2_icmp_gt (tgt := 39) d_Rows_keep_27 rfl (fun c => (by first | exact absurd c (by decide) | exact absurd (by decide) c)) (fun _ => ?_)
            refine V2_aload_n (i := 0) d_Rows_keep_30 rfl rfl ?_
            refine V2_getr (a := 40) d_Rows_keep_31 fl_Rows_26 (by decide) rfl (by decide) rfl ?_
            refine V2_iload_n (i := 2) d_Rows_keep_34 rfl rfl ?_
            refine V2_iaload (v := G 40 0) d_Rows_keep_35 (by decide) rfl (xixA (n := 0) rfl (by decide) (by decide)) rfl ?_
            refine V2_topi (fun v25 ev25 => ?_)
            refine V2_goto (tgt := 40) d_Rows_keep_36 rfl ?_
            refine V2_iastore (j := 0) d_Rows_keep_40 (by decide) rfl (xixA (n := 0) rfl (by decide) (by decide)) rfl ?_
            refine V2_iinc (i := 2) (v := 1) (l' := [some (.ref 36), some (.int (1 : Int32)), some (.int (1 : Int32))]) d_Rows_keep_41 rfl (by decide) (xst_i (Nat.le_of_ble_eq_true rfl) rfl rfl) ?_
            refine V2_goto (tgt := 2) d_Rows_keep_44 rfl ?_
            refine V2_iload_n (i := 2) d_Rows_keep_2 rfl rfl ?_
            refine V2_aload_n (i := 0) d_Rows_keep_3 rfl rfl ?_
            refine V2_getr (a := 40) d_Rows_keep_4 fl_Rows_26 (by decide) rfl (by decide) rfl ?_
            refine V2_alen (t := 0) (v := 4) d_Rows_keep_7 (by decide) rfl (by decide) rfl ?_
            refine V2_icmp_ge (tgt := 47) d_Rows_keep_8 rfl (fun c => (by first | exact absurd c (by decide) | exact absurd (by decide) c)) (fun _ => ?_)
            refine V2_iload_n (i := 2) d_Rows_keep_11 rfl rfl ?_
            refine V2_aload_n (i := 0) d_Rows_keep_12 rfl rfl ?_
            refine V2_getr (a := 41) d_Rows_keep_13 fl_Rows_30 (by decide) rfl (by decide) rfl ?_
            refine V2_alen (t := 0) (v := 4) d_Rows_keep_16 (by decide) rfl (by decide) rfl ?_
            refine V2_icmp_ge (tgt := 47) d_Rows_keep_17 rfl (fun c => (by first | exact absurd c (by decide) | exact absurd (by decide) c)) (fun _ => ?_)
            refine V2_aload_n (i := 0) d_Rows_keep_20 rfl rfl ?_
            refine V2_getr (a := 41) d_Rows_keep_21 fl_Rows_30 (by decide) rfl (by decide) rfl ?_
            refine V2_iload_n (i := 2) d_Rows_keep_24 rfl rfl ?_
            refine V2_iload_n (i := 2) d_Rows_keep_25 rfl rfl ?_
            refine V2_iload_n (i := 1) d_Rows_keep_26 rfl rfl ?_
            refine V2_icmp_gt (tgt := 39) d_Rows_keep_27 rfl (fun c => (by first | exact absurd c (by decide) | exact absurd (by decide) c)) (fun _ => ?_)
            refine V2_aload_n (i := 0) d_Rows_keep_30 rfl rfl ?_
            refine V2_getr (a := 40) d_Rows_keep_31 fl_Rows_26 (by decide) rfl (by decide) rfl ?_
            refine V2_iload_n (i := 2) d_Rows_keep_34 rfl rfl ?_
            refine V2_iaload (v := G 40 1) d_Rows_keep_35 (by decide) rfl (xixA (n := 1) rfl (by decide) (by decide)) rfl ?_
            refine V2_topi (fun v27 ev27 => ?_)
            refine V2_goto (tgt := 40) d_Rows_keep_36 rfl ?_
            refine V2_iastore (j := 1) d_Rows_keep_40 (by decide) rfl (xixA (n := 1) rfl (by decide) (by decide)) rfl ?_
            refine V2_iinc (i := 2) (v := 2) (l' := [some (.ref 36), some (.int (1 : Int32)), some (.int (2 : Int32))]) d_Rows_keep_41 rfl (by decide) (xst_i (Nat.le_of_ble_eq_true rfl) rfl rfl) ?_
            refine V2_goto (tgt := 2) d_Rows_keep_44 rfl ?_
            refine V2_iload_n (i := 2) d_Rows_keep_2 rfl rfl ?_
            refine V2_aload_n (i := 0) d_Rows_keep_3 rfl rfl ?_
            refine V2_getr (a := 40) d_Rows_keep_4 fl_Rows_26 (by decide) rfl (by decide) rfl ?_
            refine V2_alen (t := 0) (v := 4) d_Rows_keep_7 (by decide) rfl (by decide) rfl ?_
            refine V2_icmp_ge (tgt := 47) d_Rows_keep_8 rfl (fun c => (by first | exact absurd c (by decide) | exact absurd (by decide) c)) (fun _ => ?_)
            refine V2_iload_n (i := 2) d_Rows_keep_11 rfl rfl ?_
            refine V2_aload_n (i := 0) d_Rows_keep_12 rfl rfl ?_
            refine V2_getr (a := 41) d_Rows_keep_13 fl_Rows_30 (by decide) rfl (by decide) rfl ?_
            refine V2_alen (t := 0) (v := 4) d_Rows_keep_16 (by decide) rfl (by decide) rfl ?_
            refine V2_icmp_ge (tgt := 47) d_Rows_keep_17 rfl (fun c => (by first | exact absurd c (by decide) | exact absurd (by decide) c)) (fun _ => ?_)
            refine V2_aload_n (i := 0) d_Rows_keep_20 rfl rfl ?_
            refine V2_getr (a := 41) d_Rows_keep_21 fl_Rows_30 (by decide) rfl (by decide) rfl ?_
            refine V2_iload_n (i := 2) d_Rows_keep_24 rfl rfl ?_
            refine V2_iload_n (i := 2) d_Rows_keep_25 rfl rfl ?_
            refine V2_iload_n (i := 1) d_Rows_keep_26 rfl rfl ?_
            refine V2_icmp_gt (tgt := 39) d_Rows_keep_27 rfl (fun _ => ?_) (fun c => (by first | exact absurd c (by decide) | exact absurd (by decide) c))
            refine V2_iconst (v := 0) d_Rows_keep_39 rfl ?_
            refine V2_iastore (j := 2) d_Rows_keep_40 (by decide) rfl (xixA (n := 2) rfl (by decide) (by decide)) rfl ?_
            refine V2_iinc (i := 2) (v := 3) (l' := [some (.ref 36), some (.int (1 : Int32)), some (.int (3 : Int32))]) d_Rows_keep_41 rfl (by decide) (xst_i (Nat.le_of_ble_eq_true rfl) rfl rfl) ?_
            refine V2_goto (tgt := 2) d_Rows_keep_44 rfl ?_
            refine V2_iload_n (i := 2) d_Rows_keep_2 rfl rfl ?_
            refine V2_aload_n (i := 0) d_Rows_keep_3 rfl rfl ?_
            refine V2_getr (a := 40) d_Rows_keep_4 fl_Rows_26 (by decide) rfl (by decide) rfl ?_
            refine V2_alen (t := 0) (v := 4) d_Rows_keep_7 (by decide) rfl (by decide) rfl ?_
            refine V2_icmp_ge (tgt := 47) d_Rows_keep_8 rfl (fun c => (by first | exact absurd c (by decide) | exact absurd (by decide) c)) (fun _ => ?_)
            refine V2_iload_n (i := 2) d_Rows_keep_11 rfl rfl ?_
            refine V2_aload_n (i := 0) d_Rows_keep_12 rfl rfl ?_
            refine V2_getr (a := 41) d_Rows_keep_13 fl_Rows_30 (by decide) rfl (by decide) rfl ?_
            refine V2_alen (t := 0) (v := 4) d_Rows_keep_16 (by decide) rfl (by decide) rfl ?_
            refine V2_icmp_ge (tgt := 47) d_Rows_keep_17 rfl (fun c => (by first | exact absurd c (by decide) | exact absurd (by decide) c)) (fun _ => ?_)
            refine V2_aload_n (i := 0) d_Rows_keep_20 rfl rfl ?_
            refine V2_getr (a := 41) d_Rows_keep_21 fl_Rows_30 (by decide) rfl (by decide) rfl ?_
            refine V2_iload_n (i := 2) d_Rows_keep_24 rfl rfl ?_
            refine V2_iload_n (i := 2) d_Rows_keep_25 rfl rfl ?_
            refine V2_iload_n (i := 1) d_Rows_keep_26 rfl rfl ?_
            refine V2_icmp_gt (tgt := 39) d_Rows_keep_27 rfl (fun _ => ?_) (fun c => (by first | exact absurd c (by decide) | exact absurd (by decide) c))
            refine V2_iconst (v := 0) d_Rows_keep_39 rfl ?_
            refine V2_iastore (j := 3) d_Rows_keep_40 (by decide) rfl (xixA (n := 3) rfl (by decide) (by decide)) rfl ?_
            refine V2_iinc (i := 2) (v := 4) (l' := [some (.ref 36), some (.int (1 : Int32)), some (.int (4 : Int32))]) d_Rows_keep_41 rfl (by decide) (xst_i (Nat.le_of_ble_eq_true rfl) rfl rfl) ?_
            refine V2_goto (tgt := 2) d_Rows_keep_44 rfl ?_
            refine V2_iload_n (i := 2) d_Rows_keep_2 rfl rfl ?_
            refine V2_aload_n (i := 0) d_Rows_keep_3 rfl rfl ?_
            refine V2_getr (a := 40) d_Rows_keep_4 fl_Rows_26 (by decide) rfl (by decide) rfl ?_
            refine V2_alen (t := 0) (v := 4) d_Rows_keep_7 (by decide) rfl (by decide) rfl ?_
            refine V2_icmp_ge (tgt := 47) d_Rows_keep_8 rfl (fun _ => ?_) (fun c => (by first | exact absurd c (by decide) | exact absurd (by decide) c))
            refine V2_return d_Rows_keep_47 rfl ?_
            refine V2.to (st' := []) ?_ rfl rfl rfl rfl
            refine V2_iload_n (i := 3) d_Rows_canBeBetter_110 rfl rfl ?_
            refine V2_iconst (v := 1) d_Rows_canBeBetter_111 rfl ?_
            refine V2_iadd d_Rows_canBeBetter_112 ?_
            refine V2_lit (v := 3) (by decide) ?_
            refine V2_aload_n (i := 0) d_Rows_canBeBetter_113 rfl rfl ?_
            refine V2_get (v := G 36 6) d_Rows_canBeBetter_114 fl_Rows_40 (by decide) rfl (by decide) rfl rfl ?_
            refine V2_topi (fun v31 ev31 => ?_)
            refine V2_icmp_ge (tgt := 124) d_Rows_canBeBetter_117 rfl (fun c32 => ?_) (fun c32 => ?_)
            · refine V2_iconst (v := 0) d_Rows_canBeBetter_124 rfl ?_
              refine V2_zreturn d_Rows_canBeBetter_125 rfl (by decide) ?_
              refine V2.to (st' := [.int (0 : Int32)]) ?_ rfl rfl rfl rfl
              refine V2_zreturn d_Rows_goesOn_52 rfl (by decide) ?_
              have hB1 : B ≤ n := hR.1
              have hf : (B = 0 ∧ (G 36 6).toInt = (n : Int) + 1) ∨ (0 < B ∧ (G 36 6).toInt = (B : Int)) := by
                rcases hR.2.1 with ⟨h1, h2⟩ | ⟨h1, h2⟩
                · exact Or.inl ⟨h1, by rw [h2, nI_toInt (by omega)]; omega⟩
                · exact Or.inr ⟨h1, by rw [h2, nI_toInt (by have := hR.1; omega)]⟩
              have hov : (bst.toInt = -1 ∧ B = 0 ∧ (G 36 7).toInt = -1000) ∨ (¬ bst.toInt = -1 ∧ (G 36 7).toInt = hi.toInt) := by
                rcases hR.2.2 with ⟨h1, h2, h3⟩ | ⟨h1, h3, _⟩
                · exact Or.inl ⟨h1, h2, by rw [h3]; decide⟩
                · exact Or.inr ⟨h1, by rw [h3]⟩
              have sA : (T 2 - T 0).toInt = (T 2).toInt - (T 0).toInt := toI_sub (by omega) (by omega) (by omega) (by omega)
              have e2 : G 44 2 = T 2 := hx.2.2.2.2.2.1.2.2.1
              have e0 : G 44 0 = T 0 := hx.2.2.2.2.2.1.1
              have el : G 36 5 = nI n := hx.2.2.1
              have sA2 : (G 44 2 - G 44 0).toInt = (T 2).toInt - (T 0).toInt := by rw [e2, e0]; exact sA
              have nl : (G 36 5).toInt = (n : Int) := by rw [el]; exact nI_toInt (by omega)
              have h5 : ¬ T 5 = 1 := by
                intro h
                have h9 := c7
                subst ev31 ev27 ev25 ev21 ev17 ev16 ev12 ev8 ev6 ev5 ev4 ev3 ev1
                rw [hx.2.2.2.2.2.1.2.2.2.2.2.2.2, h] at h9
                exact absurd h9 (by decide)
              have hln : n = 1 + 1 := (by (try clear hQ); (try subst ev31 ev27 ev25 ev21 ev17 ev16 ev12 ev8 ev6 ev5 ev4 ev3 ev1); ((try simp only [xb_eq, xb_ne, Int32.lt_iff_toInt_lt, Int32.le_iff_toInt_le] at *) <;> (try simp only [← Int32.toInt_inj, true_and, false_and, or_false, false_or, or_true, true_or, and_true, and_false] at *) <;> omega))
              subst hln
              have e1 := hx.2.2.2.2.2.2.2.2 0 (Nat.pow_pos (by decide))
              rw [Nat.sub_self, Nat.pow_zero, Nat.mul_one, Nat.add_zero pre, tr_0 h5] at e1
              have hab : abR ((none : Option Nat).map (fun j => j + (1 + 1)), T) = T 2 - T 0 := rfl
              have hB0 : B = 0 := (by (try clear hQ); (try subst ev31 ev27 ev25 ev21 ev17 ev16 ev12 ev8 ev6 ev5 ev4 ev3 ev1); ((try simp only [xb_eq, xb_ne, Int32.lt_iff_toInt_lt, Int32.le_iff_toInt_le] at *) <;> (try simp only [← Int32.toInt_inj, true_and, false_and, or_false, false_or, or_true, true_or, and_true, and_false] at *) <;> omega))
              have hhi : bst.toInt = -1 ∨ hi.toInt < (T 2 - T 0).toInt := (by (try clear hQ); (try subst ev31 ev27 ev25 ev21 ev17 ev16 ev12 ev8 ev6 ev5 ev4 ev3 ev1); ((try simp only [xb_eq, xb_ne, Int32.lt_iff_toInt_lt, Int32.le_iff_toInt_le] at *) <;> (try simp only [← Int32.toInt_inj, true_and, false_and, or_false, false_or, or_true, true_or, and_true, and_false] at *) <;> omega))
              have hp4 := pow4 hn
              have hx4 : pre < 10 ^ (1 + 1) := hx.2.2.2.2.1
              subst ev31 ev27 ev25 ev21 ev17 ev16 ev12 ev8 ev6 ev5 ev4 ev3 ev1
              refine hQ _ 0 ⟨fun a h1 h2 => ?_, rfl, rfl⟩ (Or.inr ⟨Or.inl rfl, ?_⟩)
              · repeat (first | rw [xp_row_ne h1] | rw [xp_row_ne h2])
                try rfl
              · rw [Nat.sub_self, Nat.pow_zero, Nat.mul_one, blk_1, pP_t e1 (show _ ∨ _ from ?_)]
                · refine ⟨Nat.zero_le _, Or.inl ⟨rfl, ?_⟩, Or.inr ⟨nI_nn1 (by omega), ?_, pre, rfl, hx.2.2.2.2.1, fun i hi9 => ?_⟩⟩
                  · rcases hR.2.1 with ⟨_, h2⟩ | ⟨h1, _⟩
                    · exact h2
                    · exact absurd hB0 (Nat.ne_of_gt h1)
                  · show _ = T 2 - T 0
                    rw [← e2, ← e0]
                    rfl
                  rcases (show i = 0 ∨ i = 1 by omega) with h9 | h9
                  · subst h9
                    exact hx.2.2.2.1 0 (by omega)
                  · subst h9
                    exact hx.2.2.2.1 1 (by omega)
                · show bst.toInt = -1 ∨ (0 < 0 ∧ _) ∨ (0 = 0 ∧ B = 0 ∧ hi.toInt < (T 2 - T 0).toInt)
                  omega
            · refine V2_iconst (v := 1) d_Rows_canBeBetter_120 rfl ?_
              refine V2_goto (tgt := 125) d_Rows_canBeBetter_121 rfl ?_
              refine V2_zreturn d_Rows_canBeBetter_125 rfl (by decide) ?_
              refine V2.to (st' := [.int (1 : Int32)]) ?_ rfl rfl rfl rfl
              refine V2_zreturn d_Rows_goesOn_52 rfl (by decide) ?_
              have hB1 : B ≤ n := hR.1
              have hf : (B = 0 ∧ (G 36 6).toInt = (n : Int) + 1) ∨ (0 < B ∧ (G 36 6).toInt = (B : Int)) := by
                rcases hR.2.1 with ⟨h1, h2⟩ | ⟨h1, h2⟩
                · exact Or.inl ⟨h1, by rw [h2, nI_toInt (by omega)]; omega⟩
                · exact Or.inr ⟨h1, by rw [h2, nI_toInt (by have := hR.1; omega)]⟩
              have hov : (bst.toInt = -1 ∧ B = 0 ∧ (G 36 7).toInt = -1000) ∨ (¬ bst.toInt = -1 ∧ (G 36 7).toInt = hi.toInt) := by
                rcases hR.2.2 with ⟨h1, h2, h3⟩ | ⟨h1, h3, _⟩
                · exact Or.inl ⟨h1, h2, by rw [h3]; decide⟩
                · exact Or.inr ⟨h1, by rw [h3]⟩
              have sA : (T 2 - T 0).toInt = (T 2).toInt - (T 0).toInt := toI_sub (by omega) (by omega) (by omega) (by omega)
              have e2 : G 44 2 = T 2 := hx.2.2.2.2.2.1.2.2.1
              have e0 : G 44 0 = T 0 := hx.2.2.2.2.2.1.1
              have el : G 36 5 = nI n := hx.2.2.1
              have sA2 : (G 44 2 - G 44 0).toInt = (T 2).toInt - (T 0).toInt := by rw [e2, e0]; exact sA
              have nl : (G 36 5).toInt = (n : Int) := by rw [el]; exact nI_toInt (by omega)
              have h5 : ¬ T 5 = 1 := by
                intro h
                have h9 := c7
                subst ev31 ev27 ev25 ev21 ev17 ev16 ev12 ev8 ev6 ev5 ev4 ev3 ev1
                rw [hx.2.2.2.2.2.1.2.2.2.2.2.2.2, h] at h9
                exact absurd h9 (by decide)
              exfalso
              exact (by (try clear hQ); (try subst ev31 ev27 ev25 ev21 ev17 ev16 ev12 ev8 ev6 ev5 ev4 ev3 ev1); ((try simp only [xb_eq, xb_ne, Int32.lt_iff_toInt_lt, Int32.le_iff_toInt_le] at *) <;> (try simp only [← Int32.toInt_inj, true_and, false_and, or_false, false_or, or_true, true_or, and_true, and_false] at *) <;> omega))
  · refine V2_iload_n (i := 3) d_Rows_canBeBetter_22 rfl rfl ?_
    refine V2_aload_n (i := 0) d_Rows_canBeBetter_23 rfl rfl ?_
    refine V2_get (v := G 36 6) d_Rows_canBeBetter_24 fl_Rows_40 (by decide) rfl (by decide) rfl rfl ?_
    refine V2_topi (fun v33 ev33 => ?_)
    refine V2_icmp_ge (tgt := 34) d_Rows_canBeBetter_27 rfl (fun c34 => ?_) (fun c34 => ?_)
    · refine V2_iconst (v := 0) d_Rows_canBeBetter_34 rfl ?_
      refine V2_istore (i := 5) (l' := [some (.ref 36), some (.int (1 : Int32)), some (.ref 44), some (.int (2 : Int32)), some (.int v5), some (.int (0 : Int32)), none]) d_Rows_canBeBetter_35 (xst_i (Nat.le_of_ble_eq_true rfl) rfl rfl) ?_
      refine V2_aload_n (i := 2) d_Rows_canBeBetter_37 rfl rfl ?_
      refine V2_get (v := G 44 7) d_Rows_canBeBetter_38 fl_Rows_80 (by decide) rfl (by decide) rfl rfl ?_
      refine V2_topi (fun v35 ev35 => ?_)
      refine V2_if_ne (tgt := 76) d_Rows_canBeBetter_41 rfl (fun c36 => ?_) (fun c36 => ?_)
      · refine V2_iconst (v := 0) d_Rows_canBeBetter_76 rfl ?_
        refine V2_istore (i := 6) (l' := [some (.ref 36), some (.int (1 : Int32)), some (.ref 44), some (.int (2 : Int32)), some (.int v5), some (.int (0 : Int32)), some (.int (0 : Int32))]) d_Rows_canBeBetter_77 (xst_i (Nat.le_of_ble_eq_true rfl) rfl rfl) ?_
        refine V2_iload (i := 5) d_Rows_canBeBetter_79 rfl ?_
        refine V2_if_eq (tgt := 89) d_Rows_canBeBetter_81 rfl (fun _ => ?_) (fun c => (by first | exact absurd c (by decide) | exact absurd (by decide) c))
        refine V2_iload (i := 5) d_Rows_canBeBetter_89 rfl ?_
        refine V2_if_ne (tgt := 99) d_Rows_canBeBetter_91 rfl (fun c => (by first | exact absurd c (by decide) | exact absurd (by decide) c)) (fun _ => ?_)
        refine V2_iload (i := 6) d_Rows_canBeBetter_94 rfl ?_
        refine V2_if_eq (tgt := 110) d_Rows_canBeBetter_96 rfl (fun _ => ?_) (fun c => (by first | exact absurd c (by decide) | exact absurd (by decide) c))
        refine V2_iload_n (i := 3) d_Rows_canBeBetter_110 rfl rfl ?_
        refine V2_iconst (v := 1) d_Rows_canBeBetter_111 rfl ?_
        refine V2_iadd d_Rows_canBeBetter_112 ?_
        refine V2_lit (v := 3) (by decide) ?_
        refine V2_aload_n (i := 0) d_Rows_canBeBetter_113 rfl rfl ?_
        refine V2_get (v := G 36 6) d_Rows_canBeBetter_114 fl_Rows_40 (by decide) rfl (by decide) rfl rfl ?_
        refine V2_topi (fun v37 ev37 => ?_)
        refine V2_icmp_ge (tgt := 124) d_Rows_canBeBetter_117 rfl (fun c38 => ?_) (fun c38 => ?_)
        · refine V2_iconst (v := 0) d_Rows_canBeBetter_124 rfl ?_
          refine V2_zreturn d_Rows_canBeBetter_125 rfl (by decide) ?_
          refine V2.to (st' := [.int (0 : Int32)]) ?_ rfl rfl rfl rfl
          refine V2_zreturn d_Rows_goesOn_52 rfl (by decide) ?_
          have hB1 : B ≤ n := hR.1
          have hf : (B = 0 ∧ (G 36 6).toInt = (n : Int) + 1) ∨ (0 < B ∧ (G 36 6).toInt = (B : Int)) := by
            rcases hR.2.1 with ⟨h1, h2⟩ | ⟨h1, h2⟩
            · exact Or.inl ⟨h1, by rw [h2, nI_toInt (by omega)]; omega⟩
            · exact Or.inr ⟨h1, by rw [h2, nI_toInt (by have := hR.1; omega)]⟩
          have hov : (bst.toInt = -1 ∧ B = 0 ∧ (G 36 7).toInt = -1000) ∨ (¬ bst.toInt = -1 ∧ (G 36 7).toInt = hi.toInt) := by
            rcases hR.2.2 with ⟨h1, h2, h3⟩ | ⟨h1, h3, _⟩
            · exact Or.inl ⟨h1, h2, by rw [h3]; decide⟩
            · exact Or.inr ⟨h1, by rw [h3]⟩
          have sA : (T 2 - T 0).toInt = (T 2).toInt - (T 0).toInt := toI_sub (by omega) (by omega) (by omega) (by omega)
          have e2 : G 44 2 = T 2 := hx.2.2.2.2.2.1.2.2.1
          have e0 : G 44 0 = T 0 := hx.2.2.2.2.2.1.1
          have el : G 36 5 = nI n := hx.2.2.1
          have sA2 : (G 44 2 - G 44 0).toInt = (T 2).toInt - (T 0).toInt := by rw [e2, e0]; exact sA
          have nl : (G 36 5).toInt = (n : Int) := by rw [el]; exact nI_toInt (by omega)
          have h5 : T 5 = 1 := by
            have h9 := c7
            subst ev37 ev35 ev33 ev6 ev5 ev4 ev3 ev1
            rw [hx.2.2.2.2.2.1.2.2.2.2.2.2.2] at h9
            exact hx.2.2.2.2.2.2.2.1.2.2.2.2.2.1.resolve_left h9
          have hrow : ∀ i, pre * 10 ^ (n - (1 + 1)) ≤ i → i < pre * 10 ^ (n - (1 + 1)) + 10 ^ (n - (1 + 1)) → trN (PN S) n i S = ((trN (PN S) (n - (1 + 1)) (i - pre * 10 ^ (n - (1 + 1))) T).1.map (fun j => j + (1 + 1)), (trN (PN S) (n - (1 + 1)) (i - pre * 10 ^ (n - (1 + 1))) T).2) := by
            intro i h1 h2
            have hs := hx.2.2.2.2.2.2.2.2 (i - pre * 10 ^ (n - (1 + 1))) (by omega)
            rw [show pre * 10 ^ (n - (1 + 1)) + (i - pre * 10 ^ (n - (1 + 1))) = i by omega] at hs
            exact hs
          have hlB : 0 < B ∧ B ≤ 1 + 1 := (by (try clear hQ); (try subst ev37 ev35 ev33 ev6 ev5 ev4 ev3 ev1); ((try simp only [xb_eq, xb_ne, Int32.lt_iff_toInt_lt, Int32.le_iff_toInt_le] at *) <;> (try simp only [← Int32.toInt_inj, true_and, false_and, or_false, false_or, or_true, true_or, and_true, and_false] at *) <;> omega))
          subst ev37 ev35 ev33 ev6 ev5 ev4 ev3 ev1
          refine hQ _ 0 ⟨fun a h1 h2 => ?_, rfl, rfl⟩ (Or.inr ⟨Or.inl rfl, ?_⟩)
          · rfl
          · rw [blk_id _ _ _ _ (fun i h1 h2 => ?_)]
            · exact hR
            · have e1 := hrow i h1 h2
              rw [tr_1 h5] at e1
              refine pP_f e1 ?_
              show ¬ (bst.toInt = -1 ∨ (0 < 0 + (1 + 1) ∧ (B = 0 ∨ 0 + (1 + 1) < B)) ∨ (0 + (1 + 1) = 0 ∧ _))
              omega
        · refine V2_iconst (v := 1) d_Rows_canBeBetter_120 rfl ?_
          refine V2_goto (tgt := 125) d_Rows_canBeBetter_121 rfl ?_
          refine V2_zreturn d_Rows_canBeBetter_125 rfl (by decide) ?_
          refine V2.to (st' := [.int (1 : Int32)]) ?_ rfl rfl rfl rfl
          refine V2_zreturn d_Rows_goesOn_52 rfl (by decide) ?_
          have hB1 : B ≤ n := hR.1
          have hf : (B = 0 ∧ (G 36 6).toInt = (n : Int) + 1) ∨ (0 < B ∧ (G 36 6).toInt = (B : Int)) := by
            rcases hR.2.1 with ⟨h1, h2⟩ | ⟨h1, h2⟩
            · exact Or.inl ⟨h1, by rw [h2, nI_toInt (by omega)]; omega⟩
            · exact Or.inr ⟨h1, by rw [h2, nI_toInt (by have := hR.1; omega)]⟩
          have hov : (bst.toInt = -1 ∧ B = 0 ∧ (G 36 7).toInt = -1000) ∨ (¬ bst.toInt = -1 ∧ (G 36 7).toInt = hi.toInt) := by
            rcases hR.2.2 with ⟨h1, h2, h3⟩ | ⟨h1, h3, _⟩
            · exact Or.inl ⟨h1, h2, by rw [h3]; decide⟩
            · exact Or.inr ⟨h1, by rw [h3]⟩
          have sA : (T 2 - T 0).toInt = (T 2).toInt - (T 0).toInt := toI_sub (by omega) (by omega) (by omega) (by omega)
          have e2 : G 44 2 = T 2 := hx.2.2.2.2.2.1.2.2.1
          have e0 : G 44 0 = T 0 := hx.2.2.2.2.2.1.1
          have el : G 36 5 = nI n := hx.2.2.1
          have sA2 : (G 44 2 - G 44 0).toInt = (T 2).toInt - (T 0).toInt := by rw [e2, e0]; exact sA
          have nl : (G 36 5).toInt = (n : Int) := by rw [el]; exact nI_toInt (by omega)
          have h5 : T 5 = 1 := by
            have h9 := c7
            subst ev37 ev35 ev33 ev6 ev5 ev4 ev3 ev1
            rw [hx.2.2.2.2.2.1.2.2.2.2.2.2.2] at h9
            exact hx.2.2.2.2.2.2.2.1.2.2.2.2.2.1.resolve_left h9
          exfalso
          exact (by (try clear hQ); (try subst ev37 ev35 ev33 ev6 ev5 ev4 ev3 ev1); ((try simp only [xb_eq, xb_ne, Int32.lt_iff_toInt_lt, Int32.le_iff_toInt_le] at *) <;> (try simp only [← Int32.toInt_inj, true_and, false_and, or_false, false_or, or_true, true_or, and_true, and_false] at *) <;> omega))
      · refine V2_iload_n (i := 3) d_Rows_canBeBetter_44 rfl rfl ?_
        refine V2_aload_n (i := 0) d_Rows_canBeBetter_45 rfl rfl ?_
        refine V2_get (v := G 36 5) d_Rows_canBeBetter_46 fl_Rows_37 (by decide) rfl (by decide) rfl rfl ?_
        refine V2_topi (fun v39 ev39 => ?_)
        refine V2_icmp_ne (tgt := 76) d_Rows_canBeBetter_49 rfl (fun c40 => ?_) (fun c40 => ?_)
        · refine V2_iconst (v := 0) d_Rows_canBeBetter_76 rfl ?_
          refine V2_istore (i := 6) (l' := [some (.ref 36), some (.int (1 : Int32)), some (.ref 44), some (.int (2 : Int32)), some (.int v5), some (.int (0 : Int32)), some (.int (0 : Int32))]) d_Rows_canBeBetter_77 (xst_i (Nat.le_of_ble_eq_true rfl) rfl rfl) ?_
          refine V2_iload (i := 5) d_Rows_canBeBetter_79 rfl ?_
          refine V2_if_eq (tgt := 89) d_Rows_canBeBetter_81 rfl (fun _ => ?_) (fun c => (by first | exact absurd c (by decide) | exact absurd (by decide) c))
          refine V2_iload (i := 5) d_Rows_canBeBetter_89 rfl ?_
          refine V2_if_ne (tgt := 99) d_Rows_canBeBetter_91 rfl (fun c => (by first | exact absurd c (by decide) | exact absurd (by decide) c)) (fun _ => ?_)
          refine V2_iload (i := 6) d_Rows_canBeBetter_94 rfl ?_
          refine V2_if_eq (tgt := 110) d_Rows_canBeBetter_96 rfl (fun _ => ?_) (fun c => (by first | exact absurd c (by decide) | exact absurd (by decide) c))
          refine V2_iload_n (i := 3) d_Rows_canBeBetter_110 rfl rfl ?_
          refine V2_iconst (v := 1) d_Rows_canBeBetter_111 rfl ?_
          refine V2_iadd d_Rows_canBeBetter_112 ?_
          refine V2_lit (v := 3) (by decide) ?_
          refine V2_aload_n (i := 0) d_Rows_canBeBetter_113 rfl rfl ?_
          refine V2_get (v := G 36 6) d_Rows_canBeBetter_114 fl_Rows_40 (by decide) rfl (by decide) rfl rfl ?_
          refine V2_topi (fun v41 ev41 => ?_)
          refine V2_icmp_ge (tgt := 124) d_Rows_canBeBetter_117 rfl (fun c42 => ?_) (fun c42 => ?_)
          · refine V2_iconst (v := 0) d_Rows_canBeBetter_124 rfl ?_
            refine V2_zreturn d_Rows_canBeBetter_125 rfl (by decide) ?_
            refine V2.to (st' := [.int (0 : Int32)]) ?_ rfl rfl rfl rfl
            refine V2_zreturn d_Rows_goesOn_52 rfl (by decide) ?_
            have hB1 : B ≤ n := hR.1
            have hf : (B = 0 ∧ (G 36 6).toInt = (n : Int) + 1) ∨ (0 < B ∧ (G 36 6).toInt = (B : Int)) := by
              rcases hR.2.1 with ⟨h1, h2⟩ | ⟨h1, h2⟩
              · exact Or.inl ⟨h1, by rw [h2, nI_toInt (by omega)]; omega⟩
              · exact Or.inr ⟨h1, by rw [h2, nI_toInt (by have := hR.1; omega)]⟩
            have hov : (bst.toInt = -1 ∧ B = 0 ∧ (G 36 7).toInt = -1000) ∨ (¬ bst.toInt = -1 ∧ (G 36 7).toInt = hi.toInt) := by
              rcases hR.2.2 with ⟨h1, h2, h3⟩ | ⟨h1, h3, _⟩
              · exact Or.inl ⟨h1, h2, by rw [h3]; decide⟩
              · exact Or.inr ⟨h1, by rw [h3]⟩
            have sA : (T 2 - T 0).toInt = (T 2).toInt - (T 0).toInt := toI_sub (by omega) (by omega) (by omega) (by omega)
            have e2 : G 44 2 = T 2 := hx.2.2.2.2.2.1.2.2.1
            have e0 : G 44 0 = T 0 := hx.2.2.2.2.2.1.1
            have el : G 36 5 = nI n := hx.2.2.1
            have sA2 : (G 44 2 - G 44 0).toInt = (T 2).toInt - (T 0).toInt := by rw [e2, e0]; exact sA
            have nl : (G 36 5).toInt = (n : Int) := by rw [el]; exact nI_toInt (by omega)
            have h5 : T 5 = 1 := by
              have h9 := c7
              subst ev41 ev39 ev35 ev33 ev6 ev5 ev4 ev3 ev1
              rw [hx.2.2.2.2.2.1.2.2.2.2.2.2.2] at h9
              exact hx.2.2.2.2.2.2.2.1.2.2.2.2.2.1.resolve_left h9
            exfalso
            exact (by (try clear hQ); (try subst ev41 ev39 ev35 ev33 ev6 ev5 ev4 ev3 ev1); ((try simp only [xb_eq, xb_ne, Int32.lt_iff_toInt_lt, Int32.le_iff_toInt_le] at *) <;> (try simp only [← Int32.toInt_inj, true_and, false_and, or_false, false_or, or_true, true_or, and_true, and_false] at *) <;> omega))
          · refine V2_iconst (v := 1) d_Rows_canBeBetter_120 rfl ?_
            refine V2_goto (tgt := 125) d_Rows_canBeBetter_121 rfl ?_
            refine V2_zreturn d_Rows_canBeBetter_125 rfl (by decide) ?_
            refine V2.to (st' := [.int (1 : Int32)]) ?_ rfl rfl rfl rfl
            refine V2_zreturn d_Rows_goesOn_52 rfl (by decide) ?_
            have hB1 : B ≤ n := hR.1
            have hf : (B = 0 ∧ (G 36 6).toInt = (n : Int) + 1) ∨ (0 < B ∧ (G 36 6).toInt = (B : Int)) := by
              rcases hR.2.1 with ⟨h1, h2⟩ | ⟨h1, h2⟩
              · exact Or.inl ⟨h1, by rw [h2, nI_toInt (by omega)]; omega⟩
              · exact Or.inr ⟨h1, by rw [h2, nI_toInt (by have := hR.1; omega)]⟩
            have hov : (bst.toInt = -1 ∧ B = 0 ∧ (G 36 7).toInt = -1000) ∨ (¬ bst.toInt = -1 ∧ (G 36 7).toInt = hi.toInt) := by
              rcases hR.2.2 with ⟨h1, h2, h3⟩ | ⟨h1, h3, _⟩
              · exact Or.inl ⟨h1, h2, by rw [h3]; decide⟩
              · exact Or.inr ⟨h1, by rw [h3]⟩
            have sA : (T 2 - T 0).toInt = (T 2).toInt - (T 0).toInt := toI_sub (by omega) (by omega) (by omega) (by omega)
            have e2 : G 44 2 = T 2 := hx.2.2.2.2.2.1.2.2.1
            have e0 : G 44 0 = T 0 := hx.2.2.2.2.2.1.1
            have el : G 36 5 = nI n := hx.2.2.1
            have sA2 : (G 44 2 - G 44 0).toInt = (T 2).toInt - (T 0).toInt := by rw [e2, e0]; exact sA
            have nl : (G 36 5).toInt = (n : Int) := by rw [el]; exact nI_toInt (by omega)
            have h5 : T 5 = 1 := by
              have h9 := c7
              subst ev41 ev39 ev35 ev33 ev6 ev5 ev4 ev3 ev1
              rw [hx.2.2.2.2.2.1.2.2.2.2.2.2.2] at h9
              exact hx.2.2.2.2.2.2.2.1.2.2.2.2.2.1.resolve_left h9
            exfalso
            exact (by (try clear hQ); (try subst ev41 ev39 ev35 ev33 ev6 ev5 ev4 ev3 ev1); ((try simp only [xb_eq, xb_ne, Int32.lt_iff_toInt_lt, Int32.le_iff_toInt_le] at *) <;> (try simp only [← Int32.toInt_inj, true_and, false_and, or_false, false_or, or_true, true_or, and_true, and_false] at *) <;> omega))
        · refine V2_aload_n (i := 0) d_Rows_canBeBetter_52 rfl rfl ?_
          refine V2_get (v := G 36 6) d_Rows_canBeBetter_53 fl_Rows_40 (by decide) rfl (by decide) rfl rfl ?_
          refine V2_topi (fun v43 ev43 => ?_)
          refine V2_aload_n (i := 0) d_Rows_canBeBetter_56 rfl rfl ?_
          refine V2_get (v := G 36 5) d_Rows_canBeBetter_57 fl_Rows_37 (by decide) rfl (by decide) rfl rfl ?_
          refine V2_topi (fun v44 ev44 => ?_)
          refine V2_icmp_le (tgt := 76) d_Rows_canBeBetter_60 rfl (fun c45 => ?_) (fun c45 => ?_)
          · refine V2_iconst (v := 0) d_Rows_canBeBetter_76 rfl ?_
            refine V2_istore (i := 6) (l' := [some (.ref 36), some (.int (1 : Int32)), some (.ref 44), some (.int (2 : Int32)), some (.int v5), some (.int (0 : Int32)), some (.int (0 : Int32))]) d_Rows_canBeBetter_77 (xst_i (Nat.le_of_ble_eq_true rfl) rfl rfl) ?_
            refine V2_iload (i := 5) d_Rows_canBeBetter_79 rfl ?_
            refine V2_if_eq (tgt := 89) d_Rows_canBeBetter_81 rfl (fun _ => ?_) (fun c => (by first | exact absurd c (by decide) | exact absurd (by decide) c))
            refine V2_iload (i := 5) d_Rows_canBeBetter_89 rfl ?_
            refine V2_if_ne (tgt := 99) d_Rows_canBeBetter_91 rfl (fun c => (by first | exact absurd c (by decide) | exact absurd (by decide) c)) (fun _ => ?_)
            refine V2_iload (i := 6) d_Rows_canBeBetter_94 rfl ?_
            refine V2_if_eq (tgt := 110) d_Rows_canBeBetter_96 rfl (fun _ => ?_) (fun c => (by first | exact absurd c (by decide) | exact absurd (by decide) c))
            refine V2_iload_n (i := 3) d_Rows_canBeBetter_110 rfl rfl ?_
            refine V2_iconst (v := 1) d_Rows_canBeBetter_111 rfl ?_
            refine V2_iadd d_Rows_canBeBetter_112 ?_
            refine V2_lit (v := 3) (by decide) ?_
            refine V2_aload_n (i := 0) d_Rows_canBeBetter_113 rfl rfl ?_
            refine V2_get (v := G 36 6) d_Rows_canBeBetter_114 fl_Rows_40 (by decide) rfl (by decide) rfl rfl ?_
            refine V2_topi (fun v46 ev46 => ?_)
            refine V2_icmp_ge (tgt := 124) d_Rows_canBeBetter_117 rfl (fun c47 => ?_) (fun c47 => ?_)
            · refine V2_iconst (v := 0) d_Rows_canBeBetter_124 rfl ?_
              refine V2_zreturn d_Rows_canBeBetter_125 rfl (by decide) ?_
              refine V2.to (st' := [.int (0 : Int32)]) ?_ rfl rfl rfl rfl
              refine V2_zreturn d_Rows_goesOn_52 rfl (by decide) ?_
              have hB1 : B ≤ n := hR.1
              have hf : (B = 0 ∧ (G 36 6).toInt = (n : Int) + 1) ∨ (0 < B ∧ (G 36 6).toInt = (B : Int)) := by
                rcases hR.2.1 with ⟨h1, h2⟩ | ⟨h1, h2⟩
                · exact Or.inl ⟨h1, by rw [h2, nI_toInt (by omega)]; omega⟩
                · exact Or.inr ⟨h1, by rw [h2, nI_toInt (by have := hR.1; omega)]⟩
              have hov : (bst.toInt = -1 ∧ B = 0 ∧ (G 36 7).toInt = -1000) ∨ (¬ bst.toInt = -1 ∧ (G 36 7).toInt = hi.toInt) := by
                rcases hR.2.2 with ⟨h1, h2, h3⟩ | ⟨h1, h3, _⟩
                · exact Or.inl ⟨h1, h2, by rw [h3]; decide⟩
                · exact Or.inr ⟨h1, by rw [h3]⟩
              have sA : (T 2 - T 0).toInt = (T 2).toInt - (T 0).toInt := toI_sub (by omega) (by omega) (by omega) (by omega)
              have e2 : G 44 2 = T 2 := hx.2.2.2.2.2.1.2.2.1
              have e0 : G 44 0 = T 0 := hx.2.2.2.2.2.1.1
              have el : G 36 5 = nI n := hx.2.2.1
              have sA2 : (G 44 2 - G 44 0).toInt = (T 2).toInt - (T 0).toInt := by rw [e2, e0]; exact sA
              have nl : (G 36 5).toInt = (n : Int) := by rw [el]; exact nI_toInt (by omega)
              have h5 : T 5 = 1 := by
                have h9 := c7
                subst ev46 ev44 ev43 ev39 ev35 ev33 ev6 ev5 ev4 ev3 ev1
                rw [hx.2.2.2.2.2.1.2.2.2.2.2.2.2] at h9
                exact hx.2.2.2.2.2.2.2.1.2.2.2.2.2.1.resolve_left h9
              exfalso
              exact (by (try clear hQ); (try subst ev46 ev44 ev43 ev39 ev35 ev33 ev6 ev5 ev4 ev3 ev1); ((try simp only [xb_eq, xb_ne, Int32.lt_iff_toInt_lt, Int32.le_iff_toInt_le] at *) <;> (try simp only [← Int32.toInt_inj, true_and, false_and, or_false, false_or, or_true, true_or, and_true, and_false] at *) <;> omega))
            · refine V2_iconst (v := 1) d_Rows_canBeBetter_120 rfl ?_
              refine V2_goto (tgt := 125) d_Rows_canBeBetter_121 rfl ?_
              refine V2_zreturn d_Rows_canBeBetter_125 rfl (by decide) ?_
              refine V2.to (st' := [.int (1 : Int32)]) ?_ rfl rfl rfl rfl
              refine V2_zreturn d_Rows_goesOn_52 rfl (by decide) ?_
              have hB1 : B ≤ n := hR.1
              have hf : (B = 0 ∧ (G 36 6).toInt = (n : Int) + 1) ∨ (0 < B ∧ (G 36 6).toInt = (B : Int)) := by
                rcases hR.2.1 with ⟨h1, h2⟩ | ⟨h1, h2⟩
                · exact Or.inl ⟨h1, by rw [h2, nI_toInt (by omega)]; omega⟩
                · exact Or.inr ⟨h1, by rw [h2, nI_toInt (by have := hR.1; omega)]⟩
              have hov : (bst.toInt = -1 ∧ B = 0 ∧ (G 36 7).toInt = -1000) ∨ (¬ bst.toInt = -1 ∧ (G 36 7).toInt = hi.toInt) := by
                rcases hR.2.2 with ⟨h1, h2, h3⟩ | ⟨h1, h3, _⟩
                · exact Or.inl ⟨h1, h2, by rw [h3]; decide⟩
                · exact Or.inr ⟨h1, by rw [h3]⟩
              have sA : (T 2 - T 0).toInt = (T 2).toInt - (T 0).toInt := toI_sub (by omega) (by omega) (by omega) (by omega)
              have e2 : G 44 2 = T 2 := hx.2.2.2.2.2.1.2.2.1
              have e0 : G 44 0 = T 0 := hx.2.2.2.2.2.1.1
              have el : G 36 5 = nI n := hx.2.2.1
              have sA2 : (G 44 2 - G 44 0).toInt = (T 2).toInt - (T 0).toInt := by rw [e2, e0]; exact sA
              have nl : (G 36 5).toInt = (n : Int) := by rw [el]; exact nI_toInt (by omega)
              have h5 : T 5 = 1 := by
                have h9 := c7
                subst ev46 ev44 ev43 ev39 ev35 ev33 ev6 ev5 ev4 ev3 ev1
                rw [hx.2.2.2.2.2.1.2.2.2.2.2.2.2] at h9
                exact hx.2.2.2.2.2.2.2.1.2.2.2.2.2.1.resolve_left h9
              exfalso
              exact (by (try clear hQ); (try subst ev46 ev44 ev43 ev39 ev35 ev33 ev6 ev5 ev4 ev3 ev1); ((try simp only [xb_eq, xb_ne, Int32.lt_iff_toInt_lt, Int32.le_iff_toInt_le] at *) <;> (try simp only [← Int32.toInt_inj, true_and, false_and, or_false, false_or, or_true, true_or, and_true, and_false] at *) <;> omega))
          · refine V2_iload (i := 4) d_Rows_canBeBetter_63 rfl ?_
            refine V2_aload_n (i := 0) d_Rows_canBeBetter_65 rfl rfl ?_
            refine V2_get (v := G 36 7) d_Rows_canBeBetter_66 fl_Rows_43 (by decide) rfl (by decide) rfl rfl ?_
            refine V2_topi (fun v48 ev48 => ?_)
            refine V2_icmp_le (tgt := 76) d_Rows_canBeBetter_69 rfl (fun c49 => ?_) (fun c49 => ?_)
            · refine V2_iconst (v := 0) d_Rows_canBeBetter_76 rfl ?_
              refine V2_istore (i := 6) (l' := [some (.ref 36), some (.int (1 : Int32)), some (.ref 44), some (.int (2 : Int32)), some (.int v5), some (.int (0 : Int32)), some (.int (0 : Int32))]) d_Rows_canBeBetter_77 (xst_i (Nat.le_of_ble_eq_true rfl) rfl rfl) ?_
              refine V2_iload (i := 5) d_Rows_canBeBetter_79 rfl ?_
              refine V2_if_eq (tgt := 89) d_Rows_canBeBetter_81 rfl (fun _ => ?_) (fun c => (by first | exact absurd c (by decide) | exact absurd (by decide) c))
              refine V2_iload (i := 5) d_Rows_canBeBetter_89 rfl ?_
              refine V2_if_ne (tgt := 99) d_Rows_canBeBetter_91 rfl (fun c => (by first | exact absurd c (by decide) | exact absurd (by decide) c)) (fun _ => ?_)
              refine V2_iload (i := 6) d_Rows_canBeBetter_94 rfl ?_
              refine V2_if_eq (tgt := 110) d_Rows_canBeBetter_96 rfl (fun _ => ?_) (fun c => (by first | exact absurd c (by decide) | exact absurd (by decide) c))
              refine V2_iload_n (i := 3) d_Rows_canBeBetter_110 rfl rfl ?_
              refine V2_iconst (v := 1) d_Rows_canBeBetter_111 rfl ?_
              refine V2_iadd d_Rows_canBeBetter_112 ?_
              refine V2_lit (v := 3) (by decide) ?_
              refine V2_aload_n (i := 0) d_Rows_canBeBetter_113 rfl rfl ?_
              refine V2_get (v := G 36 6) d_Rows_canBeBetter_114 fl_Rows_40 (by decide) rfl (by decide) rfl rfl ?_
              refine V2_topi (fun v50 ev50 => ?_)
              refine V2_icmp_ge (tgt := 124) d_Rows_canBeBetter_117 rfl (fun c51 => ?_) (fun c51 => ?_)
              · refine V2_iconst (v := 0) d_Rows_canBeBetter_124 rfl ?_
                refine V2_zreturn d_Rows_canBeBetter_125 rfl (by decide) ?_
                refine V2.to (st' := [.int (0 : Int32)]) ?_ rfl rfl rfl rfl
                refine V2_zreturn d_Rows_goesOn_52 rfl (by decide) ?_
                have hB1 : B ≤ n := hR.1
                have hf : (B = 0 ∧ (G 36 6).toInt = (n : Int) + 1) ∨ (0 < B ∧ (G 36 6).toInt = (B : Int)) := by
                  rcases hR.2.1 with ⟨h1, h2⟩ | ⟨h1, h2⟩
                  · exact Or.inl ⟨h1, by rw [h2, nI_toInt (by omega)]; omega⟩
                  · exact Or.inr ⟨h1, by rw [h2, nI_toInt (by have := hR.1; omega)]⟩
                have hov : (bst.toInt = -1 ∧ B = 0 ∧ (G 36 7).toInt = -1000) ∨ (¬ bst.toInt = -1 ∧ (G 36 7).toInt = hi.toInt) := by
                  rcases hR.2.2 with ⟨h1, h2, h3⟩ | ⟨h1, h3, _⟩
                  · exact Or.inl ⟨h1, h2, by rw [h3]; decide⟩
                  · exact Or.inr ⟨h1, by rw [h3]⟩
                have sA : (T 2 - T 0).toInt = (T 2).toInt - (T 0).toInt := toI_sub (by omega) (by omega) (by omega) (by omega)
                have e2 : G 44 2 = T 2 := hx.2.2.2.2.2.1.2.2.1
                have e0 : G 44 0 = T 0 := hx.2.2.2.2.2.1.1
                have el : G 36 5 = nI n := hx.2.2.1
                have sA2 : (G 44 2 - G 44 0).toInt = (T 2).toInt - (T 0).toInt := by rw [e2, e0]; exact sA
                have nl : (G 36 5).toInt = (n : Int) := by rw [el]; exact nI_toInt (by omega)
                have h5 : T 5 = 1 := by
                  have h9 := c7
                  subst ev50 ev48 ev44 ev43 ev39 ev35 ev33 ev6 ev5 ev4 ev3 ev1
                  rw [hx.2.2.2.2.2.1.2.2.2.2.2.2.2] at h9
                  exact hx.2.2.2.2.2.2.2.1.2.2.2.2.2.1.resolve_left h9
                exfalso
                exact (by (try clear hQ); (try subst ev50 ev48 ev44 ev43 ev39 ev35 ev33 ev6 ev5 ev4 ev3 ev1); ((try simp only [xb_eq, xb_ne, Int32.lt_iff_toInt_lt, Int32.le_iff_toInt_le] at *) <;> (try simp only [← Int32.toInt_inj, true_and, false_and, or_false, false_or, or_true, true_or, and_true, and_false] at *) <;> omega))
              · refine V2_iconst (v := 1) d_Rows_canBeBetter_120 rfl ?_
                refine V2_goto (tgt := 125) d_Rows_canBeBetter_121 rfl ?_
                refine V2_zreturn d_Rows_canBeBetter_125 rfl (by decide) ?_
                refine V2.to (st' := [.int (1 : Int32)]) ?_ rfl rfl rfl rfl
                refine V2_zreturn d_Rows_goesOn_52 rfl (by decide) ?_
                have hB1 : B ≤ n := hR.1
                have hf : (B = 0 ∧ (G 36 6).toInt = (n : Int) + 1) ∨ (0 < B ∧ (G 36 6).toInt = (B : Int)) := by
                  rcases hR.2.1 with ⟨h1, h2⟩ | ⟨h1, h2⟩
                  · exact Or.inl ⟨h1, by rw [h2, nI_toInt (by omega)]; omega⟩
                  · exact Or.inr ⟨h1, by rw [h2, nI_toInt (by have := hR.1; omega)]⟩
                have hov : (bst.toInt = -1 ∧ B = 0 ∧ (G 36 7).toInt = -1000) ∨ (¬ bst.toInt = -1 ∧ (G 36 7).toInt = hi.toInt) := by
                  rcases hR.2.2 with ⟨h1, h2, h3⟩ | ⟨h1, h3, _⟩
                  · exact Or.inl ⟨h1, h2, by rw [h3]; decide⟩
                  · exact Or.inr ⟨h1, by rw [h3]⟩
                have sA : (T 2 - T 0).toInt = (T 2).toInt - (T 0).toInt := toI_sub (by omega) (by omega) (by omega) (by omega)
                have e2 : G 44 2 = T 2 := hx.2.2.2.2.2.1.2.2.1
                have e0 : G 44 0 = T 0 := hx.2.2.2.2.2.1.1
                have el : G 36 5 = nI n := hx.2.2.1
                have sA2 : (G 44 2 - G 44 0).toInt = (T 2).toInt - (T 0).toInt := by rw [e2, e0]; exact sA
                have nl : (G 36 5).toInt = (n : Int) := by rw [el]; exact nI_toInt (by omega)
                have h5 : T 5 = 1 := by
                  have h9 := c7
                  subst ev50 ev48 ev44 ev43 ev39 ev35 ev33 ev6 ev5 ev4 ev3 ev1
                  rw [hx.2.2.2.2.2.1.2.2.2.2.2.2.2] at h9
                  exact hx.2.2.2.2.2.2.2.1.2.2.2.2.2.1.resolve_left h9
                exfalso
                exact (by (try clear hQ); (try subst ev50 ev48 ev44 ev43 ev39 ev35 ev33 ev6 ev5 ev4 ev3 ev1); ((try simp only [xb_eq, xb_ne, Int32.lt_iff_toInt_lt, Int32.le_iff_toInt_le] at *) <;> (try simp only [← Int32.toInt_inj, true_and, false_and, or_false, false_or, or_true, true_or, and_true, and_false] at *) <;> omega))
            · refine V2_iconst (v := 1) d_Rows_canBeBetter_72 rfl ?_
              refine V2_goto (tgt := 77) d_Rows_canBeBetter_73 rfl ?_
              refine V2_istore (i := 6) (l' := [some (.ref 36), some (.int (1 : Int32)), some (.ref 44), some (.int (2 : Int32)), some (.int v5), some (.int (0 : Int32)), some (.int (1 : Int32))]) d_Rows_canBeBetter_77 (xst_i (Nat.le_of_ble_eq_true rfl) rfl rfl) ?_
              refine V2_iload (i := 5) d_Rows_canBeBetter_79 rfl ?_
              refine V2_if_eq (tgt := 89) d_Rows_canBeBetter_81 rfl (fun _ => ?_) (fun c => (by first | exact absurd c (by decide) | exact absurd (by decide) c))
              refine V2_iload (i := 5) d_Rows_canBeBetter_89 rfl ?_
              refine V2_if_ne (tgt := 99) d_Rows_canBeBetter_91 rfl (fun c => (by first | exact absurd c (by decide) | exact absurd (by decide) c)) (fun _ => ?_)
              refine V2_iload (i := 6) d_Rows_canBeBetter_94 rfl ?_
              refine V2_if_eq (tgt := 110) d_Rows_canBeBetter_96 rfl (fun c => (by first | exact absurd c (by decide) | exact absurd (by decide) c)) (fun _ => ?_)
              refine V2_aload_n (i := 0) d_Rows_canBeBetter_99 rfl rfl ?_
              refine V2_iload (i := 4) d_Rows_canBeBetter_100 rfl ?_
              refine V2_put d_Rows_canBeBetter_102 fl_Rows_43 (by decide) rfl (by decide) rfl ?_
              refine V2_aload_n (i := 0) d_Rows_canBeBetter_105 rfl rfl ?_
              refine V2_iload_n (i := 1) d_Rows_canBeBetter_106 rfl rfl ?_
              refine V2_callV [.int (1 : Int32)] d_Rows_canBeBetter_107 rfl rfl lk_Rows_132 mo_Rows_keep (by decide) rfl rfl rfl (Nat.le_of_ble_eq_true rfl) (Nat.le_of_ble_eq_true rfl) ?_
              refine V2.to (l' := [some (.ref 36), some (.int (1 : Int32)), none]) ?_ rfl rfl rfl rfl
              refine V2_iconst (v := 0) d_Rows_keep_0 rfl ?_
              refine V2_istore_n (i := 2) (l' := [some (.ref 36), some (.int (1 : Int32)), some (.int (0 : Int32))]) d_Rows_keep_1 rfl (xst_i (Nat.le_of_ble_eq_true rfl) rfl rfl) ?_
              refine V2_iload_n (i := 2) d_Rows_keep_2 rfl rfl ?_
              refine V2_aload_n (i := 0) d_Rows_keep_3 rfl rfl ?_
              refine V2_getr (a := 40) d_Rows_keep_4 fl_Rows_26 (by decide) rfl (by decide) rfl ?_
              refine V2_alen (t := 0) (v := 4) d_Rows_keep_7 (by decide) rfl (by decide) rfl ?_
              refine V2_icmp_ge (tgt := 47) d_Rows_keep_8 rfl (fun c => (by first | exact absurd c (by decide) | exact absurd (by decide) c)) (fun _ => ?_)
              refine V2_iload_n (i := 2) d_Rows_keep_11 rfl rfl ?_
              refine V2_aload_n (i := 0) d_Rows_keep_12 rfl rfl ?_
              refine V2_getr (a := 41) d_Rows_keep_13 fl_Rows_30 (by decide) rfl (by decide) rfl ?_
              refine V2_alen (t := 0) (v := 4) d_Rows_keep_16 (by decide) rfl (by decide) rfl ?_
              refine V2_icmp_ge (tgt := 47) d_Rows_keep_17 rfl (fun c => (by first | exact absurd c (by decide) | exact absurd (by decide) c)) (fun _ => ?_)
              refine V2_aload_n (i := 0) d_Rows_keep_20 rfl rfl ?_
              refine V2_getr (a := 41) d_Rows_keep_21 fl_Rows_30 (by decide) rfl (by decide) rfl ?_
              refine V2_iload_n (i := 2) d_Rows_keep_24 rfl rfl ?_
              refine V2_iload_n (i := 2) d_Rows_keep_25 rfl rfl ?_
              refine V2_iload_n (i := 1) d_Rows_keep_26 rfl rfl ?_
              refine V2_icmp_gt (tgt := 39) d_Rows_keep_27 rfl (fun c => (by first | exact absurd c (by decide) | exact absurd (by decide) c)) (fun _ => ?_)
              refine V2_aload_n (i := 0) d_Rows_keep_30 rfl rfl ?_
              refine V2_getr (a := 40) d_Rows_keep_31 fl_Rows_26 (by decide) rfl (by decide) rfl ?_
              refine V2_iload_n (i := 2) d_Rows_keep_34 rfl rfl ?_
              refine V2_iaload (v := G 40 0) d_Rows_keep_35 (by decide) rfl (xixA (n := 0) rfl (by decide) (by decide)) rfl ?_
              refine V2_topi (fun v52 ev52 => ?_)
              refine V2_goto (tgt := 40) d_Rows_keep_36 rfl ?_
              refine V2_iastore (j := 0) d_Rows_keep_40 (by decide) rfl (xixA (n := 0) rfl (by decide) (by decide)) rfl ?_
              refine V2_iinc (i := 2) (v := 1) (l' := [some (.ref 36), some (.int (1 : Int32)), some (.int (1 : Int32))]) d_Rows_keep_41 rfl (by decide) (xst_i (Nat.le_of_ble_eq_true rfl) rfl rfl) ?_
              refine V2_goto (tgt := 2) d_Rows_keep_44 rfl ?_
              refine V2_iload_n (i := 2) d_Rows_keep_2 rfl rfl ?_
              refine V2_aload_n (i := 0) d_Rows_keep_3 rfl rfl ?_
              refine V2_getr (a := 40) d_Rows_keep_4 fl_Rows_26 (by decide) rfl (by decide) rfl ?_
              refine V2_alen (t := 0) (v := 4) d_Rows_keep_7 (by decide) rfl (by decide) rfl ?_
              refine V2_icmp_ge (tgt := 47) d_Rows_keep_8 rfl (fun c => (by first | exact absurd c (by decide) | exact absurd (by decide) c)) (fun _ => ?_)
              refine V2_iload_n (i := 2) d_Rows_keep_11 rfl rfl ?_
              refine V2_aload_n (i := 0) d_Rows_keep_12 rfl rfl ?_
              refine V2_getr (a := 41) d_Rows_keep_13 fl_Rows_30 (by decide) rfl (by decide) rfl ?_
              refine V2_alen (t := 0) (v := 4) d_Rows_keep_16 (by decide) rfl (by decide) rfl ?_
              refine V2_icmp_ge (tgt := 47) d_Rows_keep_17 rfl (fun c => (by first | exact absurd c (by decide) | exact absurd (by decide) c)) (fun _ => ?_)
              refine V2_aload_n (i := 0) d_Rows_keep_20 rfl rfl ?_
              refine V2_getr (a := 41) d_Rows_keep_21 fl_Rows_30 (by decide) rfl (by decide) rfl ?_
              refine V2_iload_n (i := 2) d_Rows_keep_24 rfl rfl ?_
              refine V2_iload_n (i := 2) d_Rows_keep_25 rfl rfl ?_
              refine V2_iload_n (i := 1) d_Rows_keep_26 rfl rfl ?_
              refine V2_icmp_gt (tgt := 39) d_Rows_keep_27 rfl (fun c => (by first | exact absurd c (by decide) | exact absurd (by decide) c)) (fun _ => ?_)
              refine V2_aload_n (i := 0) d_Rows_keep_30 rfl rfl ?_
              refine V2_getr (a := 40) d_Rows_keep_31 fl_Rows_26 (by decide) rfl (by decide) rfl ?_
              refine V2_iload_n (i := 2) d_Rows_keep_34 rfl rfl ?_
              refine V2_iaload (v := G 40 1) d_Rows_keep_35 (by decide) rfl (xixA (n := 1) rfl (by decide) (by decide)) rfl ?_
              refine V2_topi (fun v54 ev54 => ?_)
              refine V2_goto (tgt := 40) d_Rows_keep_36 rfl ?_
              refine V2_iastore (j := 1) d_Rows_keep_40 (by decide) rfl (xixA (n := 1) rfl (by decide) (by decide)) rfl ?_
              refine V2_iinc (i := 2) (v := 2) (l' := [some (.ref 36), some (.int (1 : Int32)), some (.int (2 : Int32))]) d_Rows_keep_41 rfl (by decide) (xst_i (Nat.le_of_ble_eq_true rfl) rfl rfl) ?_
              refine V2_goto (tgt := 2) d_Rows_keep_44 rfl ?_
              refine V2_iload_n (i := 2) d_Rows_keep_2 rfl rfl ?_
              refine V2_aload_n (i := 0) d_Rows_keep_3 rfl rfl ?_
              refine V2_getr (a := 40) d_Rows_keep_4 fl_Rows_26 (by decide) rfl (by decide) rfl ?_
              refine V2_alen (t := 0) (v := 4) d_Rows_keep_7 (by decide) rfl (by decide) rfl ?_
              refine V2_icmp_ge (tgt := 47) d_Rows_keep_8 rfl (fun c => (by first | exact absurd c (by decide) | exact absurd (by decide) c)) (fun _ => ?_)
              refine V2_iload_n (i := 2) d_Rows_keep_11 rfl rfl ?_
              refine V2_aload_n (i := 0) d_Rows_keep_12 rfl rfl ?_
              refine V2_getr (a := 41) d_Rows_keep_13 fl_Rows_30 (by decide) rfl (by decide) rfl ?_
              refine V2_alen (t := 0) (v := 4) d_Rows_keep_16 (by decide) rfl (by decide) rfl ?_
              refine V2_icmp_ge (tgt := 47) d_Rows_keep_17 rfl (fun c => (by first | exact absurd c (by decide) | exact absurd (by decide) c)) (fun _ => ?_)
              refine V2_aload_n (i := 0) d_Rows_keep_20 rfl rfl ?_
              refine V2_getr (a := 41) d_Rows_keep_21 fl_Rows_30 (by decide) rfl (by decide) rfl ?_
              refine V2_iload_n (i := 2) d_Rows_keep_24 rfl rfl ?_
              refine V2_iload_n (i := 2) d_Rows_keep_25 rfl rfl ?_
              refine V2_iload_n (i := 1) d_Rows_keep_26 rfl rfl ?_
              refine V2_icmp_gt (tgt := 39) d_Rows_keep_27 rfl (fun _ => ?_) (fun c => (by first | exact absurd c (by decide) | exact absurd (by decide) c))
              refine V2_iconst (v := 0) d_Rows_keep_39 rfl ?_
              refine V2_iastore (j := 2) d_Rows_keep_40 (by decide) rfl (xixA (n := 2) rfl (by decide) (by decide)) rfl ?_
              refine V2_iinc (i := 2) (v := 3) (l' := [some (.ref 36), some (.int (1 : Int32)), some (.int (3 : Int32))]) d_Rows_keep_41 rfl (by decide) (xst_i (Nat.le_of_ble_eq_true rfl) rfl rfl) ?_
              refine V2_goto (tgt := 2) d_Rows_keep_44 rfl ?_
              refine V2_iload_n (i := 2) d_Rows_keep_2 rfl rfl ?_
              refine V2_aload_n (i := 0) d_Rows_keep_3 rfl rfl ?_
              refine V2_getr (a := 40) d_Rows_keep_4 fl_Rows_26 (by decide) rfl (by decide) rfl ?_
              refine V2_alen (t := 0) (v := 4) d_Rows_keep_7 (by decide) rfl (by decide) rfl ?_
              refine V2_icmp_ge (tgt := 47) d_Rows_keep_8 rfl (fun c => (by first | exact absurd c (by decide) | exact absurd (by decide) c)) (fun _ => ?_)
              refine V2_iload_n (i := 2) d_Rows_keep_11 rfl rfl ?_
              refine V2_aload_n (i := 0) d_Rows_keep_12 rfl rfl ?_
              refine V2_getr (a := 41) d_Rows_keep_13 fl_Rows_30 (by decide) rfl (by decide) rfl ?_
              refine V2_alen (t := 0) (v := 4) d_Rows_keep_16 (by decide) rfl (by decide) rfl ?_
              refine V2_icmp_ge (tgt := 47) d_Rows_keep_17 rfl (fun c => (by first | exact absurd c (by decide) | exact absurd (by decide) c)) (fun _ => ?_)
              refine V2_aload_n (i := 0) d_Rows_keep_20 rfl rfl ?_
              refine V2_getr (a := 41) d_Rows_keep_21 fl_Rows_30 (by decide) rfl (by decide) rfl ?_
              refine V2_iload_n (i := 2) d_Rows_keep_24 rfl rfl ?_
              refine V2_iload_n (i := 2) d_Rows_keep_25 rfl rfl ?_
              refine V2_iload_n (i := 1) d_Rows_keep_26 rfl rfl ?_
              refine V2_icmp_gt (tgt := 39) d_Rows_keep_27 rfl (fun _ => ?_) (fun c => (by first | exact absurd c (by decide) | exact absurd (by decide) c))
              refine V2_iconst (v := 0) d_Rows_keep_39 rfl ?_
              refine V2_iastore (j := 3) d_Rows_keep_40 (by decide) rfl (xixA (n := 3) rfl (by decide) (by decide)) rfl ?_
              refine V2_iinc (i := 2) (v := 4) (l' := [some (.ref 36), some (.int (1 : Int32)), some (.int (4 : Int32))]) d_Rows_keep_41 rfl (by decide) (xst_i (Nat.le_of_ble_eq_true rfl) rfl rfl) ?_
              refine V2_goto (tgt := 2) d_Rows_keep_44 rfl ?_
              refine V2_iload_n (i := 2) d_Rows_keep_2 rfl rfl ?_
              refine V2_aload_n (i := 0) d_Rows_keep_3 rfl rfl ?_
              refine V2_getr (a := 40) d_Rows_keep_4 fl_Rows_26 (by decide) rfl (by decide) rfl ?_
              refine V2_alen (t := 0) (v := 4) d_Rows_keep_7 (by decide) rfl (by decide) rfl ?_
              refine V2_icmp_ge (tgt := 47) d_Rows_keep_8 rfl (fun _ => ?_) (fun c => (by first | exact absurd c (by decide) | exact absurd (by decide) c))
              refine V2_return d_Rows_keep_47 rfl ?_
              refine V2.to (st' := []) ?_ rfl rfl rfl rfl
              refine V2_iload_n (i := 3) d_Rows_canBeBetter_110 rfl rfl ?_
              refine V2_iconst (v := 1) d_Rows_canBeBetter_111 rfl ?_
              refine V2_iadd d_Rows_canBeBetter_112 ?_
              refine V2_lit (v := 3) (by decide) ?_
              refine V2_aload_n (i := 0) d_Rows_canBeBetter_113 rfl rfl ?_
              refine V2_get (v := G 36 6) d_Rows_canBeBetter_114 fl_Rows_40 (by decide) rfl (by decide) rfl rfl ?_
              refine V2_topi (fun v58 ev58 => ?_)
              refine V2_icmp_ge (tgt := 124) d_Rows_canBeBetter_117 rfl (fun c59 => ?_) (fun c59 => ?_)
              · refine V2_iconst (v := 0) d_Rows_canBeBetter_124 rfl ?_
                refine V2_zreturn d_Rows_canBeBetter_125 rfl (by decide) ?_
                refine V2.to (st' := [.int (0 : Int32)]) ?_ rfl rfl rfl rfl
                refine V2_zreturn d_Rows_goesOn_52 rfl (by decide) ?_
                have hB1 : B ≤ n := hR.1
                have hf : (B = 0 ∧ (G 36 6).toInt = (n : Int) + 1) ∨ (0 < B ∧ (G 36 6).toInt = (B : Int)) := by
                  rcases hR.2.1 with ⟨h1, h2⟩ | ⟨h1, h2⟩
                  · exact Or.inl ⟨h1, by rw [h2, nI_toInt (by omega)]; omega⟩
                  · exact Or.inr ⟨h1, by rw [h2, nI_toInt (by have := hR.1; omega)]⟩
                have hov : (bst.toInt = -1 ∧ B = 0 ∧ (G 36 7).toInt = -1000) ∨ (¬ bst.toInt = -1 ∧ (G 36 7).toInt = hi.toInt) := by
                  rcases hR.2.2 with ⟨h1, h2, h3⟩ | ⟨h1, h3, _⟩
                  · exact Or.inl ⟨h1, h2, by rw [h3]; decide⟩
                  · exact Or.inr ⟨h1, by rw [h3]⟩
                have sA : (T 2 - T 0).toInt = (T 2).toInt - (T 0).toInt := toI_sub (by omega) (by omega) (by omega) (by omega)
                have e2 : G 44 2 = T 2 := hx.2.2.2.2.2.1.2.2.1
                have e0 : G 44 0 = T 0 := hx.2.2.2.2.2.1.1
                have el : G 36 5 = nI n := hx.2.2.1
                have sA2 : (G 44 2 - G 44 0).toInt = (T 2).toInt - (T 0).toInt := by rw [e2, e0]; exact sA
                have nl : (G 36 5).toInt = (n : Int) := by rw [el]; exact nI_toInt (by omega)
                have h5 : T 5 = 1 := by
                  have h9 := c7
                  subst ev58 ev54 ev52 ev48 ev44 ev43 ev39 ev35 ev33 ev6 ev5 ev4 ev3 ev1
                  rw [hx.2.2.2.2.2.1.2.2.2.2.2.2.2] at h9
                  exact hx.2.2.2.2.2.2.2.1.2.2.2.2.2.1.resolve_left h9
                exfalso
                exact (by (try clear hQ); (try subst ev58 ev54 ev52 ev48 ev44 ev43 ev39 ev35 ev33 ev6 ev5 ev4 ev3 ev1); ((try simp only [xb_eq, xb_ne, Int32.lt_iff_toInt_lt, Int32.le_iff_toInt_le] at *) <;> (try simp only [← Int32.toInt_inj, true_and, false_and, or_false, false_or, or_true, true_or, and_true, and_false] at *) <;> omega))
              · refine V2_iconst (v := 1) d_Rows_canBeBetter_120 rfl ?_
                refine V2_goto (tgt := 125) d_Rows_canBeBetter_121 rfl ?_
                refine V2_zreturn d_Rows_canBeBetter_125 rfl (by decide) ?_
                refine V2.to (st' := [.int (1 : Int32)]) ?_ rfl rfl rfl rfl
                refine V2_zreturn d_Rows_goesOn_52 rfl (by decide) ?_
                have hB1 : B ≤ n := hR.1
                have hf : (B = 0 ∧ (G 36 6).toInt = (n : Int) + 1) ∨ (0 < B ∧ (G 36 6).toInt = (B : Int)) := by
                  rcases hR.2.1 with ⟨h1, h2⟩ | ⟨h1, h2⟩
                  · exact Or.inl ⟨h1, by rw [h2, nI_toInt (by omega)]; omega⟩
                  · exact Or.inr ⟨h1, by rw [h2, nI_toInt (by have := hR.1; omega)]⟩
                have hov : (bst.toInt = -1 ∧ B = 0 ∧ (G 36 7).toInt = -1000) ∨ (¬ bst.toInt = -1 ∧ (G 36 7).toInt = hi.toInt) := by
                  rcases hR.2.2 with ⟨h1, h2, h3⟩ | ⟨h1, h3, _⟩
                  · exact Or.inl ⟨h1, h2, by rw [h3]; decide⟩
                  · exact Or.inr ⟨h1, by rw [h3]⟩
                have sA : (T 2 - T 0).toInt = (T 2).toInt - (T 0).toInt := toI_sub (by omega) (by omega) (by omega) (by omega)
                have e2 : G 44 2 = T 2 := hx.2.2.2.2.2.1.2.2.1
                have e0 : G 44 0 = T 0 := hx.2.2.2.2.2.1.1
                have el : G 36 5 = nI n := hx.2.2.1
                have sA2 : (G 44 2 - G 44 0).toInt = (T 2).toInt - (T 0).toInt := by rw [e2, e0]; exact sA
                have nl : (G 36 5).toInt = (n : Int) := by rw [el]; exact nI_toInt (by omega)
                have h5 : T 5 = 1 := by
                  have h9 := c7
                  subst ev58 ev54 ev52 ev48 ev44 ev43 ev39 ev35 ev33 ev6 ev5 ev4 ev3 ev1
                  rw [hx.2.2.2.2.2.1.2.2.2.2.2.2.2] at h9
                  exact hx.2.2.2.2.2.2.2.1.2.2.2.2.2.1.resolve_left h9
                exfalso
                exact (by (try clear hQ); (try subst ev58 ev54 ev52 ev48 ev44 ev43 ev39 ev35 ev33 ev6 ev5 ev4 ev3 ev1); ((try simp only [xb_eq, xb_ne, Int32.lt_iff_toInt_lt, Int32.le_iff_toInt_le] at *) <;> (try simp only [← Int32.toInt_inj, true_and, false_and, or_false, false_or, or_true, true_or, and_true, and_false] at *) <;> omega))
    · refine V2_iconst (v := 1) d_Rows_canBeBetter_30 rfl ?_
      refine V2_goto (tgt := 35) d_Rows_canBeBetter_31 rfl ?_
      refine V2_istore (i := 5) (l' := [some (.ref 36), some (.int (1 : Int32)), some (.ref 44), some (.int (2 : Int32)), some (.int v5), some (.int (1 : Int32)), none]) d_Rows_canBeBetter_35 (xst_i (Nat.le_of_ble_eq_true rfl) rfl rfl) ?_
      refine V2_aload_n (i := 2) d_Rows_canBeBetter_37 rfl rfl ?_
      refine V2_get (v := G 44 7) d_Rows_canBeBetter_38 fl_Rows_80 (by decide) rfl (by decide) rfl rfl ?_
      refine V2_topi (fun v60 ev60 => ?_)
      refine V2_if_ne (tgt := 76) d_Rows_canBeBetter_41 rfl (fun c61 => ?_) (fun c61 => ?_)
      · refine V2_iconst (v := 0) d_Rows_canBeBetter_76 rfl ?_
        refine V2_istore (i := 6) (l' := [some (.ref 36), some (.int (1 : Int32)), some (.ref 44), some (.int (2 : Int32)), some (.int v5), some (.int (1 : Int32)), some (.int (0 : Int32))]) d_Rows_canBeBetter_77 (xst_i (Nat.le_of_ble_eq_true rfl) rfl rfl) ?_
        refine V2_iload (i := 5) d_Rows_canBeBetter_79 rfl ?_
        refine V2_if_eq (tgt := 89) d_Rows_canBeBetter_81 rfl (fun c => (by first | exact absurd c (by decide) | exact absurd (by decide) c)) (fun _ => ?_)
        refine V2_aload_n (i := 0) d_Rows_canBeBetter_84 rfl rfl ?_
        refine V2_iload_n (i := 3) d_Rows_canBeBetter_85 rfl rfl ?_
        refine V2_put d_Rows_canBeBetter_86 fl_Rows_40 (by decide) rfl (by decide) rfl ?_
        refine V2_iload (i := 5) d_Rows_canBeBetter_89 rfl ?_
        refine V2_if_ne (tgt := 99) d_Rows_canBeBetter_91 rfl (fun _ => ?_) (fun c => (by first | exact absurd c (by decide) | exact absurd (by decide) c))
        refine V2_aload_n (i := 0) d_Rows_canBeBetter_99 rfl rfl ?_
        refine V2_iload (i := 4) d_Rows_canBeBetter_100 rfl ?_
        refine V2_put d_Rows_canBeBetter_102 fl_Rows_43 (by decide) rfl (by decide) rfl ?_
        refine V2_aload_n (i := 0) d_Rows_canBeBetter_105 rfl rfl ?_
        refine V2_iload_n (i := 1) d_Rows_canBeBetter_106 rfl rfl ?_
        refine V2_callV [.int (1 : Int32)] d_Rows_canBeBetter_107 rfl rfl lk_Rows_132 mo_Rows_keep (by decide) rfl rfl rfl (Nat.le_of_ble_eq_true rfl) (Nat.le_of_ble_eq_true rfl) ?_
        refine V2.to (l' := [some (.ref 36), some (.int (1 : Int32)), none]) ?_ rfl rfl rfl rfl
        refine V2_iconst (v := 0) d_Rows_keep_0 rfl ?_
        refine V2_istore_n (i := 2) (l' := [some (.ref 36), some (.int (1 : Int32)), some (.int (0 : Int32))]) d_Rows_keep_1 rfl (xst_i (Nat.le_of_ble_eq_true rfl) rfl rfl) ?_
        refine V2_iload_n (i := 2) d_Rows_keep_2 rfl rfl ?_
        refine V2_aload_n (i := 0) d_Rows_keep_3 rfl rfl ?_
        refine V2_getr (a := 40) d_Rows_keep_4 fl_Rows_26 (by decide) rfl (by decide) rfl ?_
        refine V2_alen (t := 0) (v := 4) d_Rows_keep_7 (by decide) rfl (by decide) rfl ?_
        refine V2_icmp_ge (tgt := 47) d_Rows_keep_8 rfl (fun c => (by first | exact absurd c (by decide) | exact absurd (by decide) c)) (fun _ => ?_)
        refine V2_iload_n (i := 2) d_Rows_keep_11 rfl rfl ?_
        refine V2_aload_n (i := 0) d_Rows_keep_12 rfl rfl ?_
        refine V2_getr (a := 41) d_Rows_keep_13 fl_Rows_30 (by decide) rfl (by decide) rfl ?_
        refine V2_alen (t := 0) (v := 4) d_Rows_keep_16 (by decide) rfl (by decide) rfl ?_
        refine V2_icmp_ge (tgt := 47) d_Rows_keep_17 rfl (fun c => (by first | exact absurd c (by decide) | exact absurd (by decide) c)) (fun _ => ?_)
        refine V2_aload_n (i := 0) d_Rows_keep_20 rfl rfl ?_
        refine V2_getr (a := 41) d_Rows_keep_21 fl_Rows_30 (by decide) rfl (by decide) rfl ?_
        refine V2_iload_n (i := 2) d_Rows_keep_24 rfl rfl ?_
        refine V2_iload_n (i := 2) d_Rows_keep_25 rfl rfl ?_
        refine V2_iload_n (i := 1) d_Rows_keep_26 rfl rfl ?_
        refine V2_icmp_gt (tgt := 39) d_Rows_keep_27 rfl (fun c => (by first | exact absurd c (by decide) | exact absurd (by decide) c)) (fun _ => ?_)
        refine V2_aload_n (i := 0) d_Rows_keep_30 rfl rfl ?_
        refine V2_getr (a := 40) d_Rows_keep_31 fl_Rows_26 (by decide) rfl (by decide) rfl ?_
        refine V2_iload_n (i := 2) d_Rows_keep_34 rfl rfl ?_
        refine V2_iaload (v := G 40 0) d_Rows_keep_35 (by decide) rfl (xixA (n := 0) rfl (by decide) (by decide)) rfl ?_
        refine V2_topi (fun v62 ev62 => ?_)
        refine V2_goto (tgt := 40) d_Rows_keep_36 rfl ?_
        refine V2_iastore (j := 0) d_Rows_keep_40 (by decide) rfl (xixA (n := 0) rfl (by decide) (by decide)) rfl ?_
        refine V2_iinc (i := 2) (v := 1) (l' := [some (.ref 36), some (.int (1 : Int32)), some (.int (1 : Int32))]) d_Rows_keep_41 rfl (by decide) (xst_i (Nat.le_of_ble_eq_true rfl) rfl rfl) ?_
        refine V2_goto (tgt := 2) d_Rows_keep_44 rfl ?_
        refine V2_iload_n (i := 2) d_Rows_keep_2 rfl rfl ?_
        refine V2_aload_n (i := 0) d_Rows_keep_3 rfl rfl ?_
        refine V2_getr (a := 40) d_Rows_keep_4 fl_Rows_26 (by decide) rfl (by decide) rfl ?_
        refine V2_alen (t := 0) (v := 4) d_Rows_keep_7 (by decide) rfl (by decide) rfl ?_
        refine V2_icmp_ge (tgt := 47) d_Rows_keep_8 rfl (fun c => (by first | exact absurd c (by decide) | exact absurd (by decide) c)) (fun _ => ?_)
        refine V2_iload_n (i := 2) d_Rows_keep_11 rfl rfl ?_
        refine V2_aload_n (i := 0) d_Rows_keep_12 rfl rfl ?_
        refine V2_getr (a := 41) d_Rows_keep_13 fl_Rows_30 (by decide) rfl (by decide) rfl ?_
        refine V2_alen (t := 0) (v := 4) d_Rows_keep_16 (by decide) rfl (by decide) rfl ?_
        refine V2_icmp_ge (tgt := 47) d_Rows_keep_17 rfl (fun c => (by first | exact absurd c (by decide) | exact absurd (by decide) c)) (fun _ => ?_)
        refine V2_aload_n (i := 0) d_Rows_keep_20 rfl rfl ?_
        refine V2_getr (a := 41) d_Rows_keep_21 fl_Rows_30 (by decide) rfl (by decide) rfl ?_
        refine V2_iload_n (i := 2) d_Rows_keep_24 rfl rfl ?_
        refine V2_iload_n (i := 2) d_Rows_keep_25 rfl rfl ?_
        refine V2_iload_n (i := 1) d_Rows_keep_26 rfl rfl ?_
        refine V2_icmp_gt (tgt := 39) d_Rows_keep_27 rfl (fun c => (by first | exact absurd c (by decide) | exact absurd (by decide) c)) (fun _ => ?_)
        refine V2_aload_n (i := 0) d_Rows_keep_30 rfl rfl ?_
        refine V2_getr (a := 40) d_Rows_keep_31 fl_Rows_26 (by decide) rfl (by decide) rfl ?_
        refine V2_iload_n (i := 2) d_Rows_keep_34 rfl rfl ?_
        refine V2_iaload (v := G 40 1) d_Rows_keep_35 (by decide) rfl (xixA (n := 1) rfl (by decide) (by decide)) rfl ?_
        refine V2_topi (fun v64 ev64 => ?_)
        refine V2_goto (tgt := 40) d_Rows_keep_36 rfl ?_
        refine V2_iastore (j := 1) d_Rows_keep_40 (by decide) rfl (xixA (n := 1) rfl (by decide) (by decide)) rfl ?_
        refine V2_iinc (i := 2) (v := 2) (l' := [some (.ref 36), some (.int (1 : Int32)), some (.int (2 : Int32))]) d_Rows_keep_41 rfl (by decide) (xst_i (Nat.le_of_ble_eq_true rfl) rfl rfl) ?_
        refine V2_goto (tgt := 2) d_Rows_keep_44 rfl ?_
        refine V2_iload_n (i := 2) d_Rows_keep_2 rfl rfl ?_
        refine V2_aload_n (i := 0) d_Rows_keep_3 rfl rfl ?_
        refine V2_getr (a := 40) d_Rows_keep_4 fl_Rows_26 (by decide) rfl (by decide) rfl ?_
        refine V2_alen (t := 0) (v := 4) d_Rows_keep_7 (by decide) rfl (by decide) rfl ?_
        refine V2_icmp_ge (tgt := 47) d_Rows_keep_8 rfl (fun c => (by first | exact absurd c (by decide) | exact absurd (by decide) c)) (fun _ => ?_)
        refine V2_iload_n (i := 2) d_Rows_keep_11 rfl rfl ?_
        refine V2_aload_n (i := 0) d_Rows_keep_12 rfl rfl ?_
        refine V2_getr (a := 41) d_Rows_keep_13 fl_Rows_30 (by decide) rfl (by decide) rfl ?_
        refine V2_alen (t := 0) (v := 4) d_Rows_keep_16 (by decide) rfl (by decide) rfl ?_
        refine V2_icmp_ge (tgt := 47) d_Rows_keep_17 rfl (fun c => (by first | exact absurd c (by decide) | exact absurd (by decide) c)) (fun _ => ?_)
        refine V2_aload_n (i := 0) d_Rows_keep_20 rfl rfl ?_
        refine V2_getr (a := 41) d_Rows_keep_21 fl_Rows_30 (by decide) rfl (by decide) rfl ?_
        refine V2_iload_n (i := 2) d_Rows_keep_24 rfl rfl ?_
        refine V2_iload_n (i := 2) d_Rows_keep_25 rfl rfl ?_
        refine V2_iload_n (i := 1) d_Rows_keep_26 rfl rfl ?_
        refine V2_icmp_gt (tgt := 39) d_Rows_keep_27 rfl (fun _ => ?_) (fun c => (by first | exact absurd c (by decide) | exact absurd (by decide) c))
        refine V2_iconst (v := 0) d_Rows_keep_39 rfl ?_
        refine V2_iastore (j := 2) d_Rows_keep_40 (by decide) rfl (xixA (n := 2) rfl (by decide) (by decide)) rfl ?_
        refine V2_iinc (i := 2) (v := 3) (l' := [some (.ref 36), some (.int (1 : Int32)), some (.int (3 : Int32))]) d_Rows_keep_41 rfl (by decide) (xst_i (Nat.le_of_ble_eq_true rfl) rfl rfl) ?_
        refine V2_goto (tgt := 2) d_Rows_keep_44 rfl ?_
        refine V2_iload_n (i := 2) d_Rows_keep_2 rfl rfl ?_
        refine V2_aload_n (i := 0) d_Rows_keep_3 rfl rfl ?_
        refine V2_getr (a := 40) d_Rows_keep_4 fl_Rows_26 (by decide) rfl (by decide) rfl ?_
        refine V2_alen (t := 0) (v := 4) d_Rows_keep_7 (by decide) rfl (by decide) rfl ?_
        refine V2_icmp_ge (tgt := 47) d_Rows_keep_8 rfl (fun c => (by first | exact absurd c (by decide) | exact absurd (by decide) c)) (fun _ => ?_)
        refine V2_iload_n (i := 2) d_Rows_keep_11 rfl rfl ?_
        refine V2_aload_n (i := 0) d_Rows_keep_12 rfl rfl ?_
        refine V2_getr (a := 41) d_Rows_keep_13 fl_Rows_30 (by decide) rfl (by decide) rfl ?_
        refine V2_alen (t := 0) (v := 4) d_Rows_keep_16 (by decide) rfl (by decide) rfl ?_
        refine V2_icmp_ge (tgt := 47) d_Rows_keep_17 rfl (fun c => (by first | exact absurd c (by decide) | exact absurd (by decide) c)) (fun _ => ?_)
        refine V2_aload_n (i := 0) d_Rows_keep_20 rfl rfl ?_
        refine V2_getr (a := 41) d_Rows_keep_21 fl_Rows_30 (by decide) rfl (by decide) rfl ?_
        refine V2_iload_n (i := 2) d_Rows_keep_24 rfl rfl ?_
        refine V2_iload_n (i := 2) d_Rows_keep_25 rfl rfl ?_
        refine V2_iload_n (i := 1) d_Rows_keep_26 rfl rfl ?_
        refine V2_icmp_gt (tgt := 39) d_Rows_keep_27 rfl (fun _ => ?_) (fun c => (by first | exact absurd c (by decide) | exact absurd (by decide) c))
        refine V2_iconst (v := 0) d_Rows_keep_39 rfl ?_
        refine V2_iastore (j := 3) d_Rows_keep_40 (by decide) rfl (xixA (n := 3) rfl (by decide) (by decide)) rfl ?_
        refine V2_iinc (i := 2) (v := 4) (l' := [some (.ref 36), some (.int (1 : Int32)), some (.int (4 : Int32))]) d_Rows_keep_41 rfl (by decide) (xst_i (Nat.le_of_ble_eq_true rfl) rfl rfl) ?_
        refine V2_goto (tgt := 2) d_Rows_keep_44 rfl ?_
        refine V2_iload_n (i := 2) d_Rows_keep_2 rfl rfl ?_
        refine V2_aload_n (i := 0) d_Rows_keep_3 rfl rfl ?_
        refine V2_getr (a := 40) d_Rows_keep_4 fl_Rows_26 (by decide) rfl (by decide) rfl ?_
        refine V2_alen (t := 0) (v := 4) d_Rows_keep_7 (by decide) rfl (by decide) rfl ?_
        refine V2_icmp_ge (tgt := 47) d_Rows_keep_8 rfl (fun _ => ?_) (fun c => (by first | exact absurd c (by decide) | exact absurd (by decide) c))
        refine V2_return d_Rows_keep_47 rfl ?_
        refine V2.to (st' := []) ?_ rfl rfl rfl rfl
        refine V2_iload_n (i := 3) d_Rows_canBeBetter_110 rfl rfl ?_
        refine V2_iconst (v := 1) d_Rows_canBeBetter_111 rfl ?_
        refine V2_iadd d_Rows_canBeBetter_112 ?_
        refine V2_lit (v := 3) (by decide) ?_
        refine V2_aload_n (i := 0) d_Rows_canBeBetter_113 rfl rfl ?_
        refine V2_get (v := (2 : Int32)) d_Rows_canBeBetter_114 fl_Rows_40 (by decide) rfl (by decide) rfl rfl ?_
        refine V2_icmp_ge (tgt := 124) d_Rows_canBeBetter_117 rfl (fun _ => ?_) (fun c => (by first | exact absurd c (by decide) | exact absurd (by decide) c))
        refine V2_iconst (v := 0) d_Rows_canBeBetter_124 rfl ?_
        refine V2_zreturn d_Rows_canBeBetter_125 rfl (by decide) ?_
        refine V2.to (st' := [.int (0 : Int32)]) ?_ rfl rfl rfl rfl
        refine V2_zreturn d_Rows_goesOn_52 rfl (by decide) ?_
        have hB1 : B ≤ n := hR.1
        have hf : (B = 0 ∧ (G 36 6).toInt = (n : Int) + 1) ∨ (0 < B ∧ (G 36 6).toInt = (B : Int)) := by
          rcases hR.2.1 with ⟨h1, h2⟩ | ⟨h1, h2⟩
          · exact Or.inl ⟨h1, by rw [h2, nI_toInt (by omega)]; omega⟩
          · exact Or.inr ⟨h1, by rw [h2, nI_toInt (by have := hR.1; omega)]⟩
        have hov : (bst.toInt = -1 ∧ B = 0 ∧ (G 36 7).toInt = -1000) ∨ (¬ bst.toInt = -1 ∧ (G 36 7).toInt = hi.toInt) := by
          rcases hR.2.2 with ⟨h1, h2, h3⟩ | ⟨h1, h3, _⟩
          · exact Or.inl ⟨h1, h2, by rw [h3]; decide⟩
          · exact Or.inr ⟨h1, by rw [h3]⟩
        have sA : (T 2 - T 0).toInt = (T 2).toInt - (T 0).toInt := toI_sub (by omega) (by omega) (by omega) (by omega)
        have e2 : G 44 2 = T 2 := hx.2.2.2.2.2.1.2.2.1
        have e0 : G 44 0 = T 0 := hx.2.2.2.2.2.1.1
        have el : G 36 5 = nI n := hx.2.2.1
        have sA2 : (G 44 2 - G 44 0).toInt = (T 2).toInt - (T 0).toInt := by rw [e2, e0]; exact sA
        have nl : (G 36 5).toInt = (n : Int) := by rw [el]; exact nI_toInt (by omega)
        have h5 : T 5 = 1 := by
          have h9 := c7
          subst ev64 ev62 ev60 ev33 ev6 ev5 ev4 ev3 ev1
          rw [hx.2.2.2.2.2.1.2.2.2.2.2.2.2] at h9
          exact hx.2.2.2.2.2.2.2.1.2.2.2.2.2.1.resolve_left h9
        have hrow : ∀ i, pre * 10 ^ (n - (1 + 1)) ≤ i → i < pre * 10 ^ (n - (1 + 1)) + 10 ^ (n - (1 + 1)) → trN (PN S) n i S = ((trN (PN S) (n - (1 + 1)) (i - pre * 10 ^ (n - (1 + 1))) T).1.map (fun j => j + (1 + 1)), (trN (PN S) (n - (1 + 1)) (i - pre * 10 ^ (n - (1 + 1))) T).2) := by
          intro i h1 h2
          have hs := hx.2.2.2.2.2.2.2.2 (i - pre * 10 ^ (n - (1 + 1))) (by omega)
          rw [show pre * 10 ^ (n - (1 + 1)) + (i - pre * 10 ^ (n - (1 + 1))) = i by omega] at hs
          exact hs
        have hlB : B = 0 ∨ 1 + 1 < B := (by (try clear hQ); (try subst ev64 ev62 ev60 ev33 ev6 ev5 ev4 ev3 ev1); ((try simp only [xb_eq, xb_ne, Int32.lt_iff_toInt_lt, Int32.le_iff_toInt_le] at *) <;> (try simp only [← Int32.toInt_inj, true_and, false_and, or_false, false_or, or_true, true_or, and_true, and_false] at *) <;> omega))
        have hbig := fit_lt (n := n) (l := 1) (by omega) hx.2.2.2.2.1
        have hp4 := pow4 hn
        subst ev64 ev62 ev60 ev33 ev6 ev5 ev4 ev3 ev1
        refine hQ _ 0 ⟨fun a h1 h2 => ?_, rfl, rfl⟩ (Or.inr ⟨Or.inl rfl, ?_⟩)
        · repeat (first | rw [xp_row_ne h1] | rw [xp_row_ne h2])
          try rfl
        · have ef : procP n S (pre * 10 ^ (n - (1 + 1))) (bst, B, hi) = (nI (pre * 10 ^ (n - (1 + 1))), 1 + 1, T 2 - T 0) := by
            have e1 := hrow (pre * 10 ^ (n - (1 + 1))) (Nat.le_refl _) (by have : 0 < 10 ^ (n - (1 + 1)) := Nat.pow_pos (by decide); omega)
            rw [tr_1 h5] at e1
            refine (pP_t e1 ?_).trans ?_
            · refine Or.inr (Or.inl ⟨by show 0 < 0 + (1 + 1); omega, ?_⟩)
              show B = 0 ∨ 0 + (1 + 1) < B
              omega
            · show (nI _, 0 + (1 + 1), T 2 - T 0) = _
              rw [Nat.zero_add]
          rw [blk_first (procP n S) (Nat.pow_pos (by decide)) ef (fun i h1 h2 => ?_)]
          · refine ⟨by show 1 + 1 ≤ n; omega, Or.inr ⟨Nat.succ_pos _, rfl⟩, Or.inr ⟨nI_nn1 (by omega), ?_, pre * 10 ^ (n - (1 + 1)), rfl, hbig, fun i hi9 => ?_⟩⟩
            · show _ = T 2 - T 0
              rw [← e2, ← e0]
              rfl
            rcases (show i = 0 ∨ i = 1 ∨ i = 2 ∨ i = 3 by omega) with h9 | h9 | h9 | h9
            · subst h9
              rw [(dig_pad (pre := pre) (r := (n - (1 + 1))) (l := 1) (n := n) (i := 0) (by omega)).1 (by omega)]
              exact hx.2.2.2.1 0 (by omega)
            · subst h9
              rw [(dig_pad (pre := pre) (r := (n - (1 + 1))) (l := 1) (n := n) (i := 1) (by omega)).1 (by omega)]
              exact hx.2.2.2.1 1 (by omega)
            · subst h9
              rw [(dig_pad (pre := pre) (r := (n - (1 + 1))) (l := 1) (n := n) (i := 2) (by omega)).2 (by omega) hi9]
              exact rfl
            · subst h9
              rw [(dig_pad (pre := pre) (r := (n - (1 + 1))) (l := 1) (n := n) (i := 3) (by omega)).2 (by omega) hi9]
              exact rfl
          · have e1 := hrow i (by omega) h2
            rw [tr_1 h5] at e1
            refine pP_f e1 ?_
            show ¬ ((nI _).toInt = -1 ∨ (0 < 0 + (1 + 1) ∧ (1 + 1 = 0 ∨ 0 + (1 + 1) < 1 + 1)) ∨ (0 + (1 + 1) = 0 ∧ _))
            have := nI_nn1 (k := pre * 10 ^ (n - (1 + 1))) (by omega)
            omega
      · refine V2_iload_n (i := 3) d_Rows_canBeBetter_44 rfl rfl ?_
        refine V2_aload_n (i := 0) d_Rows_canBeBetter_45 rfl rfl ?_
        refine V2_get (v := G 36 5) d_Rows_canBeBetter_46 fl_Rows_37 (by decide) rfl (by decide) rfl rfl ?_
        refine V2_topi (fun v68 ev68 => ?_)
        refine V2_icmp_ne (tgt := 76) d_Rows_canBeBetter_49 rfl (fun c69 => ?_) (fun c69 => ?_)
        · refine V2_iconst (v := 0) d_Rows_canBeBetter_76 rfl ?_
          refine V2_istore (i := 6) (l' := [some (.ref 36), some (.int (1 : Int32)), some (.ref 44), some (.int (2 : Int32)), some (.int v5), some (.int (1 : Int32)), some (.int (0 : Int32))]) d_Rows_canBeBetter_77 (xst_i (Nat.le_of_ble_eq_true rfl) rfl rfl) ?_
          refine V2_iload (i := 5) d_Rows_canBeBetter_79 rfl ?_
          refine V2_if_eq (tgt := 89) d_Rows_canBeBetter_81 rfl (fun c => (by first | exact absurd c (by decide) | exact absurd (by decide) c)) (fun _ => ?_)
          refine V2_aload_n (i := 0) d_Rows_canBeBetter_84 rfl rfl ?_
          refine V2_iload_n (i := 3) d_Rows_canBeBetter_85 rfl rfl ?_
          refine V2_put d_Rows_canBeBetter_86 fl_Rows_40 (by decide) rfl (by decide) rfl ?_
          refine V2_iload (i := 5) d_Rows_canBeBetter_89 rfl ?_
          refine V2_if_ne (tgt := 99) d_Rows_canBeBetter_91 rfl (fun _ => ?_) (fun c => (by first | exact absurd c (by decide) | exact absurd (by decide) c))
          refine V2_aload_n (i := 0) d_Rows_canBeBetter_99 rfl rfl ?_
          refine V2_iload (i := 4) d_Rows_canBeBetter_100 rfl ?_
          refine V2_put d_Rows_canBeBetter_102 fl_Rows_43 (by decide) rfl (by decide) rfl ?_
          refine V2_aload_n (i := 0) d_Rows_canBeBetter_105 rfl rfl ?_
          refine V2_iload_n (i := 1) d_Rows_canBeBetter_106 rfl rfl ?_
          refine V2_callV [.int (1 : Int32)] d_Rows_canBeBetter_107 rfl rfl lk_Rows_132 mo_Rows_keep (by decide) rfl rfl rfl (Nat.le_of_ble_eq_true rfl) (Nat.le_of_ble_eq_true rfl) ?_
          refine V2.to (l' := [some (.ref 36), some (.int (1 : Int32)), none]) ?_ rfl rfl rfl rfl
          refine V2_iconst (v := 0) d_Rows_keep_0 rfl ?_
          refine V2_istore_n (i := 2) (l' := [some (.ref 36), some (.int (1 : Int32)), some (.int (0 : Int32))]) d_Rows_keep_1 rfl (xst_i (Nat.le_of_ble_eq_true rfl) rfl rfl) ?_
          refine V2_iload_n (i := 2) d_Rows_keep_2 rfl rfl ?_
          refine V2_aload_n (i := 0) d_Rows_keep_3 rfl rfl ?_
          refine V2_getr (a := 40) d_Rows_keep_4 fl_Rows_26 (by decide) rfl (by decide) rfl ?_
          refine V2_alen (t := 0) (v := 4) d_Rows_keep_7 (by decide) rfl (by decide) rfl ?_
          refine V2_icmp_ge (tgt := 47) d_Rows_keep_8 rfl (fun c => (by first | exact absurd c (by decide) | exact absurd (by decide) c)) (fun _ => ?_)
          refine V2_iload_n (i := 2) d_Rows_keep_11 rfl rfl ?_
          refine V2_aload_n (i := 0) d_Rows_keep_12 rfl rfl ?_
          refine V2_getr (a := 41) d_Rows_keep_13 fl_Rows_30 (by decide) rfl (by decide) rfl ?_
          refine V2_alen (t := 0) (v := 4) d_Rows_keep_16 (by decide) rfl (by decide) rfl ?_
          refine V2_icmp_ge (tgt := 47) d_Rows_keep_17 rfl (fun c => (by first | exact absurd c (by decide) | exact absurd (by decide) c)) (fun _ => ?_)
          refine V2_aload_n (i := 0) d_Rows_keep_20 rfl rfl ?_
          refine V2_getr (a := 41) d_Rows_keep_21 fl_Rows_30 (by decide) rfl (by decide) rfl ?_
          refine V2_iload_n (i := 2) d_Rows_keep_24 rfl rfl ?_
          refine V2_iload_n (i := 2) d_Rows_keep_25 rfl rfl ?_
          refine V2_iload_n (i := 1) d_Rows_keep_26 rfl rfl ?_
          refine V2_icmp_gt (tgt := 39) d_Rows_keep_27 rfl (fun c => (by first | exact absurd c (by decide) | exact absurd (by decide) c)) (fun _ => ?_)
          refine V2_aload_n (i := 0) d_Rows_keep_30 rfl rfl ?_
          refine V2_getr (a := 40) d_Rows_keep_31 fl_Rows_26 (by decide) rfl (by decide) rfl ?_
          refine V2_iload_n (i := 2) d_Rows_keep_34 rfl rfl ?_
          refine V2_iaload (v := G 40 0) d_Rows_keep_35 (by decide) rfl (xixA (n := 0) rfl (by decide) (by decide)) rfl ?_
          refine V2_topi (fun v70 ev70 => ?_)
          refine V2_goto (tgt := 40) d_Rows_keep_36 rfl ?_
          refine V2_iastore (j := 0) d_Rows_keep_40 (by decide) rfl (xixA (n := 0) rfl (by decide) (by decide)) rfl ?_
          refine V2_iinc (i := 2) (v := 1) (l' := [some (.ref 36), some (.int (1 : Int32)), some (.int (1 : Int32))]) d_Rows_keep_41 rfl (by decide) (xst_i (Nat.le_of_ble_eq_true rfl) rfl rfl) ?_
          refine V2_goto (tgt := 2) d_Rows_keep_44 rfl ?_
          refine V2_iload_n (i := 2) d_Rows_keep_2 rfl rfl ?_
          refine V2_aload_n (i := 0) d_Rows_keep_3 rfl rfl ?_
          refine V2_getr (a := 40) d_Rows_keep_4 fl_Rows_26 (by decide) rfl (by decide) rfl ?_
          refine V2_alen (t := 0) (v := 4) d_Rows_keep_7 (by decide) rfl (by decide) rfl ?_
          refine V2_icmp_ge (tgt := 47) d_Rows_keep_8 rfl (fun c => (by first | exact absurd c (by decide) | exact absurd (by decide) c)) (fun _ => ?_)
          refine V2_iload_n (i := 2) d_Rows_keep_11 rfl rfl ?_
          refine V2_aload_n (i := 0) d_Rows_keep_12 rfl rfl ?_
          refine V2_getr (a := 41) d_Rows_keep_13 fl_Rows_30 (by decide) rfl (by decide) rfl ?_
          refine V2_alen (t := 0) (v := 4) d_Rows_keep_16 (by decide) rfl (by decide) rfl ?_
          refine V2_icmp_ge (tgt := 47) d_Rows_keep_17 rfl (fun c => (by first | exact absurd c (by decide) | exact absurd (by decide) c)) (fun _ => ?_)
          refine V2_aload_n (i := 0) d_Rows_keep_20 rfl rfl ?_
          refine V2_getr (a := 41) d_Rows_keep_21 fl_Rows_30 (by decide) rfl (by decide) rfl ?_
          refine V2_iload_n (i := 2) d_Rows_keep_24 rfl rfl ?_
          refine V2_iload_n (i := 2) d_Rows_keep_25 rfl rfl ?_
          refine V2_iload_n (i := 1) d_Rows_keep_26 rfl rfl ?_
          refine V2_icmp_gt (tgt := 39) d_Rows_keep_27 rfl (fun c => (by first | exact absurd c (by decide) | exact absurd (by decide) c)) (fun _ => ?_)
          refine V2_aload_n (i := 0) d_Rows_keep_30 rfl rfl ?_
          refine V2_getr (a := 40) d_Rows_keep_31 fl_Rows_26 (by decide) rfl (by decide) rfl ?_
          refine V2_iload_n (i := 2) d_Rows_keep_34 rfl rfl ?_
          refine V2_iaload (v := G 40 1) d_Rows_keep_35 (by decide) rfl (xixA (n := 1) rfl (by decide) (by decide)) rfl ?_
          refine V2_topi (fun v72 ev72 => ?_)
          refine V2_goto (tgt := 40) d_Rows_keep_36 rfl ?_
          refine V2_iastore (j := 1) d_Rows_keep_40 (by decide) rfl (xixA (n := 1) rfl (by decide) (by decide)) rfl ?_
          refine V2_iinc (i := 2) (v := 2) (l' := [some (.ref 36), some (.int (1 : Int32)), some (.int (2 : Int32))]) d_Rows_keep_41 rfl (by decide) (xst_i (Nat.le_of_ble_eq_true rfl) rfl rfl) ?_
          refine V2_goto (tgt := 2) d_Rows_keep_44 rfl ?_
          refine V2_iload_n (i := 2) d_Rows_keep_2 rfl rfl ?_
          refine V2_aload_n (i := 0) d_Rows_keep_3 rfl rfl ?_
          refine V2_getr (a := 40) d_Rows_keep_4 fl_Rows_26 (by decide) rfl (by decide) rfl ?_
          refine V2_alen (t := 0) (v := 4) d_Rows_keep_7 (by decide) rfl (by decide) rfl ?_
          refine V2_icmp_ge (tgt := 47) d_Rows_keep_8 rfl (fun c => (by first | exact absurd c (by decide) | exact absurd (by decide) c)) (fun _ => ?_)
          refine V2_iload_n (i := 2) d_Rows_keep_11 rfl rfl ?_
          refine V2_aload_n (i := 0) d_Rows_keep_12 rfl rfl ?_
          refine V2_getr (a := 41) d_Rows_keep_13 fl_Rows_30 (by decide) rfl (by decide) rfl ?_
          refine V2_alen (t := 0) (v := 4) d_Rows_keep_16 (by decide) rfl (by decide) rfl ?_
          refine V2_icmp_ge (tgt := 47) d_Rows_keep_17 rfl (fun c => (by first | exact absurd c (by decide) | exact absurd (by decide) c)) (fun _ => ?_)
          refine V2_aload_n (i := 0) d_Rows_keep_20 rfl rfl ?_
          refine V2_getr (a := 41) d_Rows_keep_21 fl_Rows_30 (by decide) rfl (by decide) rfl ?_
          refine V2_iload_n (i := 2) d_Rows_keep_24 rfl rfl ?_
          refine V2_iload_n (i := 2) d_Rows_keep_25 rfl rfl ?_
          refine V2_iload_n (i := 1) d_Rows_keep_26 rfl rfl ?_
          refine V2_icmp_gt (tgt := 39) d_Rows_keep_27 rfl (fun _ => ?_) (fun c => (by first | exact absurd c (by decide) | exact absurd (by decide) c))
          refine V2_iconst (v := 0) d_Rows_keep_39 rfl ?_
          refine V2_iastore (j := 2) d_Rows_keep_40 (by decide) rfl (xixA (n := 2) rfl (by decide) (by decide)) rfl ?_
          refine V2_iinc (i := 2) (v := 3) (l' := [some (.ref 36), some (.int (1 : Int32)), some (.int (3 : Int32))]) d_Rows_keep_41 rfl (by decide) (xst_i (Nat.le_of_ble_eq_true rfl) rfl rfl) ?_
          refine V2_goto (tgt := 2) d_Rows_keep_44 rfl ?_
          refine V2_iload_n (i := 2) d_Rows_keep_2 rfl rfl ?_
          refine V2_aload_n (i := 0) d_Rows_keep_3 rfl rfl ?_
          refine V2_getr (a := 40) d_Rows_keep_4 fl_Rows_26 (by decide) rfl (by decide) rfl ?_
          refine V2_alen (t := 0) (v := 4) d_Rows_keep_7 (by decide) rfl (by decide) rfl ?_
          refine V2_icmp_ge (tgt := 47) d_Rows_keep_8 rfl (fun c => (by first | exact absurd c (by decide) | exact absurd (by decide) c)) (fun _ => ?_)
          refine V2_iload_n (i := 2) d_Rows_keep_11 rfl rfl ?_
          refine V2_aload_n (i := 0) d_Rows_keep_12 rfl rfl ?_
          refine V2_getr (a := 41) d_Rows_keep_13 fl_Rows_30 (by decide) rfl (by decide) rfl ?_
          refine V2_alen (t := 0) (v := 4) d_Rows_keep_16 (by decide) rfl (by decide) rfl ?_
          refine V2_icmp_ge (tgt := 47) d_Rows_keep_17 rfl (fun c => (by first | exact absurd c (by decide) | exact absurd (by decide) c)) (fun _ => ?_)
          refine V2_aload_n (i := 0) d_Rows_keep_20 rfl rfl ?_
          refine V2_getr (a := 41) d_Rows_keep_21 fl_Rows_30 (by decide) rfl (by decide) rfl ?_
          refine V2_iload_n (i := 2) d_Rows_keep_24 rfl rfl ?_
          refine V2_iload_n (i := 2) d_Rows_keep_25 rfl rfl ?_
          refine V2_iload_n (i := 1) d_Rows_keep_26 rfl rfl ?_
          refine V2_icmp_gt (tgt := 39) d_Rows_keep_27 rfl (fun _ => ?_) (fun c => (by first | exact absurd c (by decide) | exact absurd (by decide) c))
          refine V2_iconst (v := 0) d_Rows_keep_39 rfl ?_
          refine V2_iastore (j := 3) d_Rows_keep_40 (by decide) rfl (xixA (n := 3) rfl (by decide) (by decide)) rfl ?_
          refine V2_iinc (i := 2) (v := 4) (l' := [some (.ref 36), some (.int (1 : Int32)), some (.int (4 : Int32))]) d_Rows_keep_41 rfl (by decide) (xst_i (Nat.le_of_ble_eq_true rfl) rfl rfl) ?_
          refine V2_goto (tgt := 2) d_Rows_keep_44 rfl ?_
          refine V2_iload_n (i := 2) d_Rows_keep_2 rfl rfl ?_
          refine V2_aload_n (i := 0) d_Rows_keep_3 rfl rfl ?_
          refine V2_getr (a := 40) d_Rows_keep_4 fl_Rows_26 (by decide) rfl (by decide) rfl ?_
          refine V2_alen (t := 0) (v := 4) d_Rows_keep_7 (by decide) rfl (by decide) rfl ?_
          refine V2_icmp_ge (tgt := 47) d_Rows_keep_8 rfl (fun _ => ?_) (fun c => (by first | exact absurd c (by decide) | exact absurd (by decide) c))
          refine V2_return d_Rows_keep_47 rfl ?_
          refine V2.to (st' := []) ?_ rfl rfl rfl rfl
          refine V2_iload_n (i := 3) d_Rows_canBeBetter_110 rfl rfl ?_
          refine V2_iconst (v := 1) d_Rows_canBeBetter_111 rfl ?_
          refine V2_iadd d_Rows_canBeBetter_112 ?_
          refine V2_lit (v := 3) (by decide) ?_
          refine V2_aload_n (i := 0) d_Rows_canBeBetter_113 rfl rfl ?_
          refine V2_get (v := (2 : Int32)) d_Rows_canBeBetter_114 fl_Rows_40 (by decide) rfl (by decide) rfl rfl ?_
          refine V2_icmp_ge (tgt := 124) d_Rows_canBeBetter_117 rfl (fun _ => ?_) (fun c => (by first | exact absurd c (by decide) | exact absurd (by decide) c))
          refine V2_iconst (v := 0) d_Rows_canBeBetter_124 rfl ?_
          refine V2_zreturn d_Rows_canBeBetter_125 rfl (by decide) ?_
          refine V2.to (st' := [.int (0 : Int32)]) ?_ rfl rfl rfl rfl
          refine V2_zreturn d_Rows_goesOn_52 rfl (by decide) ?_
          have hB1 : B ≤ n := hR.1
          have hf : (B = 0 ∧ (G 36 6).toInt = (n : Int) + 1) ∨ (0 < B ∧ (G 36 6).toInt = (B : Int)) := by
            rcases hR.2.1 with ⟨h1, h2⟩ | ⟨h1, h2⟩
            · exact Or.inl ⟨h1, by rw [h2, nI_toInt (by omega)]; omega⟩
            · exact Or.inr ⟨h1, by rw [h2, nI_toInt (by have := hR.1; omega)]⟩
          have hov : (bst.toInt = -1 ∧ B = 0 ∧ (G 36 7).toInt = -1000) ∨ (¬ bst.toInt = -1 ∧ (G 36 7).toInt = hi.toInt) := by
            rcases hR.2.2 with ⟨h1, h2, h3⟩ | ⟨h1, h3, _⟩
            · exact Or.inl ⟨h1, h2, by rw [h3]; decide⟩
            · exact Or.inr ⟨h1, by rw [h3]⟩
          have sA : (T 2 - T 0).toInt = (T 2).toInt - (T 0).toInt := toI_sub (by omega) (by omega) (by omega) (by omega)
          have e2 : G 44 2 = T 2 := hx.2.2.2.2.2.1.2.2.1
          have e0 : G 44 0 = T 0 := hx.2.2.2.2.2.1.1
          have el : G 36 5 = nI n := hx.2.2.1
          have sA2 : (G 44 2 - G 44 0).toInt = (T 2).toInt - (T 0).toInt := by rw [e2, e0]; exact sA
          have nl : (G 36 5).toInt = (n : Int) := by rw [el]; exact nI_toInt (by omega)
          have h5 : T 5 = 1 := by
            have h9 := c7
            subst ev72 ev70 ev68 ev60 ev33 ev6 ev5 ev4 ev3 ev1
            rw [hx.2.2.2.2.2.1.2.2.2.2.2.2.2] at h9
            exact hx.2.2.2.2.2.2.2.1.2.2.2.2.2.1.resolve_left h9
          exfalso
          exact (by (try clear hQ); (try subst ev72 ev70 ev68 ev60 ev33 ev6 ev5 ev4 ev3 ev1); ((try simp only [xb_eq, xb_ne, Int32.lt_iff_toInt_lt, Int32.le_iff_toInt_le] at *) <;> (try simp only [← Int32.toInt_inj, true_and, false_and, or_false, false_or, or_true, true_or, and_true, and_false] at *) <;> omega))
        · refine V2_aload_n (i := 0) d_Rows_canBeBetter_52 rfl rfl ?_
          refine V2_get (v := G 36 6) d_Rows_canBeBetter_53 fl_Rows_40 (by decide) rfl (by decide) rfl rfl ?_
          refine V2_topi (fun v76 ev76 => ?_)
          refine V2_aload_n (i := 0) d_Rows_canBeBetter_56 rfl rfl ?_
          refine V2_get (v := G 36 5) d_Rows_canBeBetter_57 fl_Rows_37 (by decide) rfl (by decide) rfl rfl ?_
          refine V2_topi (fun v77 ev77 => ?_)
          refine V2_icmp_le (tgt := 76) d_Rows_canBeBetter_60 rfl (fun c78 => ?_) (fun c78 => ?_)
          · refine V2_iconst (v := 0) d_Rows_canBeBetter_76 rfl ?_
            refine V2_istore (i := 6) (l' := [some (.ref 36), some (.int (1 : Int32)), some (.ref 44), some (.int (2 : Int32)), some (.int v5), some (.int (1 : Int32)), some (.int (0 : Int32))]) d_Rows_canBeBetter_77 (xst_i (Nat.le_of_ble_eq_true rfl) rfl rfl) ?_
            refine V2_iload (i := 5) d_Rows_canBeBetter_79 rfl ?_
            refine V2_if_eq (tgt := 89) d_Rows_canBeBetter_81 rfl (fun c => (by first | exact absurd c (by decide) | exact absurd (by decide) c)) (fun _ => ?_)
            refine V2_aload_n (i := 0) d_Rows_canBeBetter_84 rfl rfl ?_
            refine V2_iload_n (i := 3) d_Rows_canBeBetter_85 rfl rfl ?_
            refine V2_put d_Rows_canBeBetter_86 fl_Rows_40 (by decide) rfl (by decide) rfl ?_
            refine V2_iload (i := 5) d_Rows_canBeBetter_89 rfl ?_
            refine V2_if_ne (tgt := 99) d_Rows_canBeBetter_91 rfl (fun _ => ?_) (fun c => (by first | exact absurd c (by decide) | exact absurd (by decide) c))
            refine V2_aload_n (i := 0) d_Rows_canBeBetter_99 rfl rfl ?_
            refine V2_iload (i := 4) d_Rows_canBeBetter_100 rfl ?_
            refine V2_put d_Rows_canBeBetter_102 fl_Rows_43 (by decide) rfl (by decide) rfl ?_
            refine V2_aload_n (i := 0) d_Rows_canBeBetter_105 rfl rfl ?_
            refine V2_iload_n (i := 1) d_Rows_canBeBetter_106 rfl rfl ?_
            refine V2_callV [.int (1 : Int32)] d_Rows_canBeBetter_107 rfl rfl lk_Rows_132 mo_Rows_keep (by decide) rfl rfl rfl (Nat.le_of_ble_eq_true rfl) (Nat.le_of_ble_eq_true rfl) ?_
            refine V2.to (l' := [some (.ref 36), some (.int (1 : Int32)), none]) ?_ rfl rfl rfl rfl
            refine V2_iconst (v := 0) d_Rows_keep_0 rfl ?_
            refine V2_istore_n (i := 2) (l' := [some (.ref 36), some (.int (1 : Int32)), some (.int (0 : Int32))]) d_Rows_keep_1 rfl (xst_i (Nat.le_of_ble_eq_true rfl) rfl rfl) ?_
            refine V2_iload_n (i := 2) d_Rows_keep_2 rfl rfl ?_
            refine V2_aload_n (i := 0) d_Rows_keep_3 rfl rfl ?_
            refine V2_getr (a := 40) d_Rows_keep_4 fl_Rows_26 (by decide) rfl (by decide) rfl ?_
            refine V2_alen (t := 0) (v := 4) d_Rows_keep_7 (by decide) rfl (by decide) rfl ?_
            refine V2_icmp_ge (tgt := 47) d_Rows_keep_8 rfl (fun c => (by first | exact absurd c (by decide) | exact absurd (by decide) c)) (fun _ => ?_)
            refine V2_iload_n (i := 2) d_Rows_keep_11 rfl rfl ?_
            refine V2_aload_n (i := 0) d_Rows_keep_12 rfl rfl ?_
            refine V2_getr (a := 41) d_Rows_keep_13 fl_Rows_30 (by decide) rfl (by decide) rfl ?_
            refine V2_alen (t := 0) (v := 4) d_Rows_keep_16 (by decide) rfl (by decide) rfl ?_
            refine V2_icmp_ge (tgt := 47) d_Rows_keep_17 rfl (fun c => (by first | exact absurd c (by decide) | exact absurd (by decide) c)) (fun _ => ?_)
            refine V2_aload_n (i := 0) d_Rows_keep_20 rfl rfl ?_
            refine V2_getr (a := 41) d_Rows_keep_21 fl_Rows_30 (by decide) rfl (by decide) rfl ?_
            refine V2_iload_n (i := 2) d_Rows_keep_24 rfl rfl ?_
            refine V2_iload_n (i := 2) d_Rows_keep_25 rfl rfl ?_
            refine V2_iload_n (i := 1) d_Rows_keep_26 rfl rfl ?_
            refine V2_icmp_gt (tgt := 39) d_Rows_keep_27 rfl (fun c => (by first | exact absurd c (by decide) | exact absurd (by decide) c)) (fun _ => ?_)
            refine V2_aload_n (i := 0) d_Rows_keep_30 rfl rfl ?_
            refine V2_getr (a := 40) d_Rows_keep_31 fl_Rows_26 (by decide) rfl (by decide) rfl ?_
            refine V2_iload_n (i := 2) d_Rows_keep_34 rfl rfl ?_
            refine V2_iaload (v := G 40 0) d_Rows_keep_35 (by decide) rfl (xixA (n := 0) rfl (by decide) (by decide)) rfl ?_
            refine V2_topi (fun v79 ev79 => ?_)
            refine V2_goto (tgt := 40) d_Rows_keep_36 rfl ?_
            refine V2_iastore (j := 0) d_Rows_keep_40 (by decide) rfl (xixA (n := 0) rfl (by decide) (by decide)) rfl ?_
            refine V2_iinc (i := 2) (v := 1) (l' := [some (.ref 36), some (.int (1 : Int32)), some (.int (1 : Int32))]) d_Rows_keep_41 rfl (by decide) (xst_i (Nat.le_of_ble_eq_true rfl) rfl rfl) ?_
            refine V2_goto (tgt := 2) d_Rows_keep_44 rfl ?_
            refine V2_iload_n (i := 2) d_Rows_keep_2 rfl rfl ?_
            refine V2_aload_n (i := 0) d_Rows_keep_3 rfl rfl ?_
            refine V2_getr (a := 40) d_Rows_keep_4 fl_Rows_26 (by decide) rfl (by decide) rfl ?_
            refine V2_alen (t := 0) (v := 4) d_Rows_keep_7 (by decide) rfl (by decide) rfl ?_
            refine V2_icmp_ge (tgt := 47) d_Rows_keep_8 rfl (fun c => (by first | exact absurd c (by decide) | exact absurd (by decide) c)) (fun _ => ?_)
            refine V2_iload_n (i := 2) d_Rows_keep_11 rfl rfl ?_
            refine V2_aload_n (i := 0) d_Rows_keep_12 rfl rfl ?_
            refine V2_getr (a := 41) d_Rows_keep_13 fl_Rows_30 (by decide) rfl (by decide) rfl ?_
            refine V2_alen (t := 0) (v := 4) d_Rows_keep_16 (by decide) rfl (by decide) rfl ?_
            refine V2_icmp_ge (tgt := 47) d_Rows_keep_17 rfl (fun c => (by first | exact absurd c (by decide) | exact absurd (by decide) c)) (fun _ => ?_)
            refine V2_aload_n (i := 0) d_Rows_keep_20 rfl rfl ?_
            refine V2_getr (a := 41) d_Rows_keep_21 fl_Rows_30 (by decide) rfl (by decide) rfl ?_
            refine V2_iload_n (i := 2) d_Rows_keep_24 rfl rfl ?_
            refine V2_iload_n (i := 2) d_Rows_keep_25 rfl rfl ?_
            refine V2_iload_n (i := 1) d_Rows_keep_26 rfl rfl ?_
            refine V2_icmp_gt (tgt := 39) d_Rows_keep_27 rfl (fun c => (by first | exact absurd c (by decide) | exact absurd (by decide) c)) (fun _ => ?_)
            refine V2_aload_n (i := 0) d_Rows_keep_30 rfl rfl ?_
            refine V2_getr (a := 40) d_Rows_keep_31 fl_Rows_26 (by decide) rfl (by decide) rfl ?_
            refine V2_iload_n (i := 2) d_Rows_keep_34 rfl rfl ?_
            refine V2_iaload (v := G 40 1) d_Rows_keep_35 (by decide) rfl (xixA (n := 1) rfl (by decide) (by decide)) rfl ?_
            refine V2_topi (fun v81 ev81 => ?_)
            refine V2_goto (tgt := 40) d_Rows_keep_36 rfl ?_
            refine V2_iastore (j := 1) d_Rows_keep_40 (by decide) rfl (xixA (n := 1) rfl (by decide) (by decide)) rfl ?_
            refine V2_iinc (i := 2) (v := 2) (l' := [some (.ref 36), some (.int (1 : Int32)), some (.int (2 : Int32))]) d_Rows_keep_41 rfl (by decide) (xst_i (Nat.le_of_ble_eq_true rfl) rfl rfl) ?_
            refine V2_goto (tgt := 2) d_Rows_keep_44 rfl ?_
            refine V2_iload_n (i := 2) d_Rows_keep_2 rfl rfl ?_
            refine V2_aload_n (i := 0) d_Rows_keep_3 rfl rfl ?_
            refine V2_getr (a := 40) d_Rows_keep_4 fl_Rows_26 (by decide) rfl (by decide) rfl ?_
            refine V2_alen (t := 0) (v := 4) d_Rows_keep_7 (by decide) rfl (by decide) rfl ?_
            refine V2_icmp_ge (tgt := 47) d_Rows_keep_8 rfl (fun c => (by first | exact absurd c (by decide) | exact absurd (by decide) c)) (fun _ => ?_)
            refine V2_iload_n (i := 2) d_Rows_keep_11 rfl rfl ?_
            refine V2_aload_n (i := 0) d_Rows_keep_12 rfl rfl ?_
            refine V2_getr (a := 41) d_Rows_keep_13 fl_Rows_30 (by decide) rfl (by decide) rfl ?_
            refine V2_alen (t := 0) (v := 4) d_Rows_keep_16 (by decide) rfl (by decide) rfl ?_
            refine V2_icmp_ge (tgt := 47) d_Rows_keep_17 rfl (fun c => (by first | exact absurd c (by decide) | exact absurd (by decide) c)) (fun _ => ?_)
            refine V2_aload_n (i := 0) d_Rows_keep_20 rfl rfl ?_
            refine V2_getr (a := 41) d_Rows_keep_21 fl_Rows_30 (by decide) rfl (by decide) rfl ?_
            refine V2_iload_n (i := 2) d_Rows_keep_24 rfl rfl ?_
            refine V2_iload_n (i := 2) d_Rows_keep_25 rfl rfl ?_
            refine V2_iload_n (i := 1) d_Rows_keep_26 rfl rfl ?_
            refine V2_icmp_gt (tgt := 39) d_Rows_keep_27 rfl (fun _ => ?_) (fun c => (by first | exact absurd c (by decide) | exact absurd (by decide) c))
            refine V2_iconst (v := 0) d_Rows_keep_39 rfl ?_
            refine V2_iastore (j := 2) d_Rows_keep_40 (by decide) rfl (xixA (n := 2) rfl (by decide) (by decide)) rfl ?_
            refine V2_iinc (i := 2) (v := 3) (l' := [some (.ref 36), some (.int (1 : Int32)), some (.int (3 : Int32))]) d_Rows_keep_41 rfl (by decide) (xst_i (Nat.le_of_ble_eq_true rfl) rfl rfl) ?_
            refine V2_goto (tgt := 2) d_Rows_keep_44 rfl ?_
            refine V2_iload_n (i := 2) d_Rows_keep_2 rfl rfl ?_
            refine V2_aload_n (i := 0) d_Rows_keep_3 rfl rfl ?_
            refine V2_getr (a := 40) d_Rows_keep_4 fl_Rows_26 (by decide) rfl (by decide) rfl ?_
            refine V2_alen (t := 0) (v := 4) d_Rows_keep_7 (by decide) rfl (by decide) rfl ?_
            refine V2_icmp_ge (tgt := 47) d_Rows_keep_8 rfl (fun c => (by first | exact absurd c (by decide) | exact absurd (by decide) c)) (fun _ => ?_)
            refine V2_iload_n (i := 2) d_Rows_keep_11 rfl rfl ?_
            refine V2_aload_n (i := 0) d_Rows_keep_12 rfl rfl ?_
            refine V2_getr (a := 41) d_Rows_keep_13 fl_Rows_30 (by decide) rfl (by decide) rfl ?_
            refine V2_alen (t := 0) (v := 4) d_Rows_keep_16 (by decide) rfl (by decide) rfl ?_
            refine V2_icmp_ge (tgt := 47) d_Rows_keep_17 rfl (fun c => (by first | exact absurd c (by decide) | exact absurd (by decide) c)) (fun _ => ?_)
            refine V2_aload_n (i := 0) d_Rows_keep_20 rfl rfl ?_
            refine V2_getr (a := 41) d_Rows_keep_21 fl_Rows_30 (by decide) rfl (by decide) rfl ?_
            refine V2_iload_n (i := 2) d_Rows_keep_24 rfl rfl ?_
            refine V2_iload_n (i := 2) d_Rows_keep_25 rfl rfl ?_
            refine V2_iload_n (i := 1) d_Rows_keep_26 rfl rfl ?_
            refine V2_icmp_gt (tgt := 39) d_Rows_keep_27 rfl (fun _ => ?_) (fun c => (by first | exact absurd c (by decide) | exact absurd (by decide) c))
            refine V2_iconst (v := 0) d_Rows_keep_39 rfl ?_
            refine V2_iastore (j := 3) d_Rows_keep_40 (by decide) rfl (xixA (n := 3) rfl (by decide) (by decide)) rfl ?_
            refine V2_iinc (i := 2) (v := 4) (l' := [some (.ref 36), some (.int (1 : Int32)), some (.int (4 : Int32))]) d_Rows_keep_41 rfl (by decide) (xst_i (Nat.le_of_ble_eq_true rfl) rfl rfl) ?_
            refine V2_goto (tgt := 2) d_Rows_keep_44 rfl ?_
            refine V2_iload_n (i := 2) d_Rows_keep_2 rfl rfl ?_
            refine V2_aload_n (i := 0) d_Rows_keep_3 rfl rfl ?_
            refine V2_getr (a := 40) d_Rows_keep_4 fl_Rows_26 (by decide) rfl (by decide) rfl ?_
            refine V2_alen (t := 0) (v := 4) d_Rows_keep_7 (by decide) rfl (by decide) rfl ?_
            refine V2_icmp_ge (tgt := 47) d_Rows_keep_8 rfl (fun _ => ?_) (fun c => (by first | exact absurd c (by decide) | exact absurd (by decide) c))
            refine V2_return d_Rows_keep_47 rfl ?_
            refine V2.to (st' := []) ?_ rfl rfl rfl rfl
            refine V2_iload_n (i := 3) d_Rows_canBeBetter_110 rfl rfl ?_
            refine V2_iconst (v := 1) d_Rows_canBeBetter_111 rfl ?_
            refine V2_iadd d_Rows_canBeBetter_112 ?_
            refine V2_lit (v := 3) (by decide) ?_
            refine V2_aload_n (i := 0) d_Rows_canBeBetter_113 rfl rfl ?_
            refine V2_get (v := (2 : Int32)) d_Rows_canBeBetter_114 fl_Rows_40 (by decide) rfl (by decide) rfl rfl ?_
            refine V2_icmp_ge (tgt := 124) d_Rows_canBeBetter_117 rfl (fun _ => ?_) (fun c => (by first | exact absurd c (by decide) | exact absurd (by decide) c))
            refine V2_iconst (v := 0) d_Rows_canBeBetter_124 rfl ?_
            refine V2_zreturn d_Rows_canBeBetter_125 rfl (by decide) ?_
            refine V2.to (st' := [.int (0 : Int32)]) ?_ rfl rfl rfl rfl
            refine V2_zreturn d_Rows_goesOn_52 rfl (by decide) ?_
            have hB1 : B ≤ n := hR.1
            have hf : (B = 0 ∧ (G 36 6).toInt = (n : Int) + 1) ∨ (0 < B ∧ (G 36 6).toInt = (B : Int)) := by
              rcases hR.2.1 with ⟨h1, h2⟩ | ⟨h1, h2⟩
              · exact Or.inl ⟨h1, by rw [h2, nI_toInt (by omega)]; omega⟩
              · exact Or.inr ⟨h1, by rw [h2, nI_toInt (by have := hR.1; omega)]⟩
            have hov : (bst.toInt = -1 ∧ B = 0 ∧ (G 36 7).toInt = -1000) ∨ (¬ bst.toInt = -1 ∧ (G 36 7).toInt = hi.toInt) := by
              rcases hR.2.2 with ⟨h1, h2, h3⟩ | ⟨h1, h3, _⟩
              · exact Or.inl ⟨h1, h2, by rw [h3]; decide⟩
              · exact Or.inr ⟨h1, by rw [h3]⟩
            have sA : (T 2 - T 0).toInt = (T 2).toInt - (T 0).toInt := toI_sub (by omega) (by omega) (by omega) (by omega)
            have e2 : G 44 2 = T 2 := hx.2.2.2.2.2.1.2.2.1
            have e0 : G 44 0 = T 0 := hx.2.2.2.2.2.1.1
            have el : G 36 5 = nI n := hx.2.2.1
            have sA2 : (G 44 2 - G 44 0).toInt = (T 2).toInt - (T 0).toInt := by rw [e2, e0]; exact sA
            have nl : (G 36 5).toInt = (n : Int) := by rw [el]; exact nI_toInt (by omega)
            have h5 : T 5 = 1 := by
              have h9 := c7
              subst ev81 ev79 ev77 ev76 ev68 ev60 ev33 ev6 ev5 ev4 ev3 ev1
              rw [hx.2.2.2.2.2.1.2.2.2.2.2.2.2] at h9
              exact hx.2.2.2.2.2.2.2.1.2.2.2.2.2.1.resolve_left h9
            exfalso
            exact (by (try clear hQ); (try subst ev81 ev79 ev77 ev76 ev68 ev60 ev33 ev6 ev5 ev4 ev3 ev1); ((try simp only [xb_eq, xb_ne, Int32.lt_iff_toInt_lt, Int32.le_iff_toInt_le] at *) <;> (try simp only [← Int32.toInt_inj, true_and, false_and, or_false, false_or, or_true, true_or, and_true, and_false] at *) <;> omega))
          · refine V2_iload (i := 4) d_Rows_canBeBetter_63 rfl ?_
            refine V2_aload_n (i := 0) d_Rows_canBeBetter_65 rfl rfl ?_
            refine V2_get (v := G 36 7) d_Rows_canBeBetter_66 fl_Rows_43 (by decide) rfl (by decide) rfl rfl ?_
            refine V2_topi (fun v85 ev85 => ?_)
            refine V2_icmp_le (tgt := 76) d_Rows_canBeBetter_69 rfl (fun c86 => ?_) (fun c86 => ?_)
            · refine V2_iconst (v := 0) d_Rows_canBeBetter_76 rfl ?_
              refine V2_istore (i := 6) (l' := [some (.ref 36), some (.int (1 : Int32)), some (.ref 44), some (.int (2 : Int32)), some (.int v5), some (.int (1 : Int32)), some (.int (0 : Int32))]) d_Rows_canBeBetter_77 (xst_i (Nat.le_of_ble_eq_true rfl) rfl rfl) ?_
              refine V2_iload (i := 5) d_Rows_canBeBetter_79 rfl ?_
              refine V2_if_eq (tgt := 89) d_Rows_canBeBetter_81 rfl (fun c => (by first | exact absurd c (by decide) | exact absurd (by decide) c)) (fun _ => ?_)
              refine V2_aload_n (i := 0) d_Rows_canBeBetter_84 rfl rfl ?_
              refine V2_iload_n (i := 3) d_Rows_canBeBetter_85 rfl rfl ?_
              refine V2_put d_Rows_canBeBetter_86 fl_Rows_40 (by decide) rfl (by decide) rfl ?_
              refine V2_iload (i := 5) d_Rows_canBeBetter_89 rfl ?_
              refine V2_if_ne (tgt := 99) d_Rows_canBeBetter_91 rfl (fun _ => ?_) (fun c => (by first | exact absurd c (by decide) | exact absurd (by decide) c))
              refine V2_aload_n (i := 0) d_Rows_canBeBetter_99 rfl rfl ?_
              refine V2_iload (i := 4) d_Rows_canBeBetter_100 rfl ?_
              refine V2_put d_Rows_canBeBetter_102 fl_Rows_43 (by decide) rfl (by decide) rfl ?_
              refine V2_aload_n (i := 0) d_Rows_canBeBetter_105 rfl rfl ?_
              refine V2_iload_n (i := 1) d_Rows_canBeBetter_106 rfl rfl ?_
              refine V2_callV [.int (1 : Int32)] d_Rows_canBeBetter_107 rfl rfl lk_Rows_132 mo_Rows_keep (by decide) rfl rfl rfl (Nat.le_of_ble_eq_true rfl) (Nat.le_of_ble_eq_true rfl) ?_
              refine V2.to (l' := [some (.ref 36), some (.int (1 : Int32)), none]) ?_ rfl rfl rfl rfl
              refine V2_iconst (v := 0) d_Rows_keep_0 rfl ?_
              refine V2_istore_n (i := 2) (l' := [some (.ref 36), some (.int (1 : Int32)), some (.int (0 : Int32))]) d_Rows_keep_1 rfl (xst_i (Nat.le_of_ble_eq_true rfl) rfl rfl) ?_
              refine V2_iload_n (i := 2) d_Rows_keep_2 rfl rfl ?_
              refine V2_aload_n (i := 0) d_Rows_keep_3 rfl rfl ?_
              refine V2_getr (a := 40) d_Rows_keep_4 fl_Rows_26 (by decide) rfl (by decide) rfl ?_
              refine V2_alen (t := 0) (v := 4) d_Rows_keep_7 (by decide) rfl (by decide) rfl ?_
              refine V2_icmp_ge (tgt := 47) d_Rows_keep_8 rfl (fun c => (by first | exact absurd c (by decide) | exact absurd (by decide) c)) (fun _ => ?_)
              refine V2_iload_n (i := 2) d_Rows_keep_11 rfl rfl ?_
              refine V2_aload_n (i := 0) d_Rows_keep_12 rfl rfl ?_
              refine V2_getr (a := 41) d_Rows_keep_13 fl_Rows_30 (by decide) rfl (by decide) rfl ?_
              refine V2_alen (t := 0) (v := 4) d_Rows_keep_16 (by decide) rfl (by decide) rfl ?_
              refine V2_icmp_ge (tgt := 47) d_Rows_keep_17 rfl (fun c => (by first | exact absurd c (by decide) | exact absurd (by decide) c)) (fun _ => ?_)
              refine V2_aload_n (i := 0) d_Rows_keep_20 rfl rfl ?_
              refine V2_getr (a := 41) d_Rows_keep_21 fl_Rows_30 (by decide) rfl (by decide) rfl ?_
              refine V2_iload_n (i := 2) d_Rows_keep_24 rfl rfl ?_
              refine V2_iload_n (i := 2) d_Rows_keep_25 rfl rfl ?_
              refine V2_iload_n (i := 1) d_Rows_keep_26 rfl rfl ?_
              refine V2_icmp_gt (tgt := 39) d_Rows_keep_27 rfl (fun c => (by first | exact absurd c (by decide) | exact absurd (by decide) c)) (fun _ => ?_)
              refine V2_aload_n (i := 0) d_Rows_keep_30 rfl rfl ?_
              refine V2_getr (a := 40) d_Rows_keep_31 fl_Rows_26 (by decide) rfl (by decide) rfl ?_
              refine V2_iload_n (i := 2) d_Rows_keep_34 rfl rfl ?_
              refine V2_iaload (v := G 40 0) d_Rows_keep_35 (by decide) rfl (xixA (n := 0) rfl (by decide) (by decide)) rfl ?_
              refine V2_topi (fun v87 ev87 => ?_)
              refine V2_goto (tgt := 40) d_Rows_keep_36 rfl ?_
              refine V2_iastore (j := 0) d_Rows_keep_40 (by decide) rfl (xixA (n := 0) rfl (by decide) (by decide)) rfl ?_
              refine V2_iinc (i := 2) (v := 1) (l' := [some (.ref 36), some (.int (1 : Int32)), some (.int (1 : Int32))]) d_Rows_keep_41 rfl (by decide) (xst_i (Nat.le_of_ble_eq_true rfl) rfl rfl) ?_
              refine V2_goto (tgt := 2) d_Rows_keep_44 rfl ?_
              refine V2_iload_n (i := 2) d_Rows_keep_2 rfl rfl ?_
              refine V2_aload_n (i := 0) d_Rows_keep_3 rfl rfl ?_
              refine V2_getr (a := 40) d_Rows_keep_4 fl_Rows_26 (by decide) rfl (by decide) rfl ?_
              refine V2_alen (t := 0) (v := 4) d_Rows_keep_7 (by decide) rfl (by decide) rfl ?_
              refine V2_icmp_ge (tgt := 47) d_Rows_keep_8 rfl (fun c => (by first | exact absurd c (by decide) | exact absurd (by decide) c)) (fun _ => ?_)
              refine V2_iload_n (i := 2) d_Rows_keep_11 rfl rfl ?_
              refine V2_aload_n (i := 0) d_Rows_keep_12 rfl rfl ?_
              refine V2_getr (a := 41) d_Rows_keep_13 fl_Rows_30 (by decide) rfl (by decide) rfl ?_
              refine V2_alen (t := 0) (v := 4) d_Rows_keep_16 (by decide) rfl (by decide) rfl ?_
              refine V2_icmp_ge (tgt := 47) d_Rows_keep_17 rfl (fun c => (by first | exact absurd c (by decide) | exact absurd (by decide) c)) (fun _ => ?_)
              refine V2_aload_n (i := 0) d_Rows_keep_20 rfl rfl ?_
              refine V2_getr (a := 41) d_Rows_keep_21 fl_Rows_30 (by decide) rfl (by decide) rfl ?_
              refine V2_iload_n (i := 2) d_Rows_keep_24 rfl rfl ?_
              refine V2_iload_n (i := 2) d_Rows_keep_25 rfl rfl ?_
              refine V2_iload_n (i := 1) d_Rows_keep_26 rfl rfl ?_
              refine V2_icmp_gt (tgt := 39) d_Rows_keep_27 rfl (fun c => (by first | exact absurd c (by decide) | exact absurd (by decide) c)) (fun _ => ?_)
              refine V2_aload_n (i := 0) d_Rows_keep_30 rfl rfl ?_
              refine V2_getr (a := 40) d_Rows_keep_31 fl_Rows_26 (by decide) rfl (by decide) rfl ?_
              refine V2_iload_n (i := 2) d_Rows_keep_34 rfl rfl ?_
              refine V2_iaload (v := G 40 1) d_Rows_keep_35 (by decide) rfl (xixA (n := 1) rfl (by decide) (by decide)) rfl ?_
              refine V2_topi (fun v89 ev89 => ?_)
              refine V2_goto (tgt := 40) d_Rows_keep_36 rfl ?_
              refine V2_iastore (j := 1) d_Rows_keep_40 (by decide) rfl (xixA (n := 1) rfl (by decide) (by decide)) rfl ?_
              refine V2_iinc (i := 2) (v := 2) (l' := [some (.ref 36), some (.int (1 : Int32)), some (.int (2 : Int32))]) d_Rows_keep_41 rfl (by decide) (xst_i (Nat.le_of_ble_eq_true rfl) rfl rfl) ?_
              refine V2_goto (tgt := 2) d_Rows_keep_44 rfl ?_
              refine V2_iload_n (i := 2) d_Rows_keep_2 rfl rfl ?_
              refine V2_aload_n (i := 0) d_Rows_keep_3 rfl rfl ?_
              refine V2_getr (a := 40) d_Rows_keep_4 fl_Rows_26 (by decide) rfl (by decide) rfl ?_
              refine V2_alen (t := 0) (v := 4) d_Rows_keep_7 (by decide) rfl (by decide) rfl ?_
              refine V2_icmp_ge (tgt := 47) d_Rows_keep_8 rfl (fun c => (by first | exact absurd c (by decide) | exact absurd (by decide) c)) (fun _ => ?_)
              refine V2_iload_n (i := 2) d_Rows_keep_11 rfl rfl ?_
              refine V2_aload_n (i := 0) d_Rows_keep_12 rfl rfl ?_
              refine V2_getr (a := 41) d_Rows_keep_13 fl_Rows_30 (by decide) rfl (by decide) rfl ?_
              refine V2_alen (t := 0) (v := 4) d_Rows_keep_16 (by decide) rfl (by decide) rfl ?_
              refine V2_icmp_ge (tgt := 47) d_Rows_keep_17 rfl (fun c => (by first | exact absurd c (by decide) | exact absurd (by decide) c)) (fun _ => ?_)
              refine V2_aload_n (i := 0) d_Rows_keep_20 rfl rfl ?_
              refine V2_getr (a := 41) d_Rows_keep_21 fl_Rows_30 (by decide) rfl (by decide) rfl ?_
              refine V2_iload_n (i := 2) d_Rows_keep_24 rfl rfl ?_
              refine V2_iload_n (i := 2) d_Rows_keep_25 rfl rfl ?_
              refine V2_iload_n (i := 1) d_Rows_keep_26 rfl rfl ?_
              refine V2_icmp_gt (tgt := 39) d_Rows_keep_27 rfl (fun _ => ?_) (fun c => (by first | exact absurd c (by decide) | exact absurd (by decide) c))
              refine V2_iconst (v := 0) d_Rows_keep_39 rfl ?_
              refine V2_iastore (j := 2) d_Rows_keep_40 (by decide) rfl (xixA (n := 2) rfl (by decide) (by decide)) rfl ?_
              refine V2_iinc (i := 2) (v := 3) (l' := [some (.ref 36), some (.int (1 : Int32)), some (.int (3 : Int32))]) d_Rows_keep_41 rfl (by decide) (xst_i (Nat.le_of_ble_eq_true rfl) rfl rfl) ?_
              refine V2_goto (tgt := 2) d_Rows_keep_44 rfl ?_
              refine V2_iload_n (i := 2) d_Rows_keep_2 rfl rfl ?_
              refine V2_aload_n (i := 0) d_Rows_keep_3 rfl rfl ?_
              refine V2_getr (a := 40) d_Rows_keep_4 fl_Rows_26 (by decide) rfl (by decide) rfl ?_
              refine V2_alen (t := 0) (v := 4) d_Rows_keep_7 (by decide) rfl (by decide) rfl ?_
              refine V2_icmp_ge (tgt := 47) d_Rows_keep_8 rfl (fun c => (by first | exact absurd c (by decide) | exact absurd (by decide) c)) (fun _ => ?_)
              refine V2_iload_n (i := 2) d_Rows_keep_11 rfl rfl ?_
              refine V2_aload_n (i := 0) d_Rows_keep_12 rfl rfl ?_
              refine V2_getr (a := 41) d_Rows_keep_13 fl_Rows_30 (by decide) rfl (by decide) rfl ?_
              refine V2_alen (t := 0) (v := 4) d_Rows_keep_16 (by decide) rfl (by decide) rfl ?_
              refine V2_icmp_ge (tgt := 47) d_Rows_keep_17 rfl (fun c => (by first | exact absurd c (by decide) | exact absurd (by decide) c)) (fun _ => ?_)
              refine V2_aload_n (i := 0) d_Rows_keep_20 rfl rfl ?_
              refine V2_getr (a := 41) d_Rows_keep_21 fl_Rows_30 (by decide) rfl (by decide) rfl ?_
              refine V2_iload_n (i := 2) d_Rows_keep_24 rfl rfl ?_
              refine V2_iload_n (i := 2) d_Rows_keep_25 rfl rfl ?_
              refine V2_iload_n (i := 1) d_Rows_keep_26 rfl rfl ?_
              refine V2_icmp_gt (tgt := 39) d_Rows_keep_27 rfl (fun _ => ?_) (fun c => (by first | exact absurd c (by decide) | exact absurd (by decide) c))
              refine V2_iconst (v := 0) d_Rows_keep_39 rfl ?_
              refine V2_iastore (j := 3) d_Rows_keep_40 (by decide) rfl (xixA (n := 3) rfl (by decide) (by decide)) rfl ?_
              refine V2_iinc (i := 2) (v := 4) (l' := [some (.ref 36), some (.int (1 : Int32)), some (.int (4 : Int32))]) d_Rows_keep_41 rfl (by decide) (xst_i (Nat.le_of_ble_eq_true rfl) rfl rfl) ?_
              refine V2_goto (tgt := 2) d_Rows_keep_44 rfl ?_
              refine V2_iload_n (i := 2) d_Rows_keep_2 rfl rfl ?_
              refine V2_aload_n (i := 0) d_Rows_keep_3 rfl rfl ?_
              refine V2_getr (a := 40) d_Rows_keep_4 fl_Rows_26 (by decide) rfl (by decide) rfl ?_
              refine V2_alen (t := 0) (v := 4) d_Rows_keep_7 (by decide) rfl (by decide) rfl ?_
              refine V2_icmp_ge (tgt := 47) d_Rows_keep_8 rfl (fun _ => ?_) (fun c => (by first | exact absurd c (by decide) | exact absurd (by decide) c))
              refine V2_return d_Rows_keep_47 rfl ?_
              refine V2.to (st' := []) ?_ rfl rfl rfl rfl
              refine V2_iload_n (i := 3) d_Rows_canBeBetter_110 rfl rfl ?_
              refine V2_iconst (v := 1) d_Rows_canBeBetter_111 rfl ?_
              refine V2_iadd d_Rows_canBeBetter_112 ?_
              refine V2_lit (v := 3) (by decide) ?_
              refine V2_aload_n (i := 0) d_Rows_canBeBetter_113 rfl rfl ?_
              refine V2_get (v := (2 : Int32)) d_Rows_canBeBetter_114 fl_Rows_40 (by decide) rfl (by decide) rfl rfl ?_
              refine V2_icmp_ge (tgt := 124) d_Rows_canBeBetter_117 rfl (fun _ => ?_) (fun c => (by first | exact absurd c (by decide) | exact absurd (by decide) c))
              refine V2_iconst (v := 0) d_Rows_canBeBetter_124 rfl ?_
              refine V2_zreturn d_Rows_canBeBetter_125 rfl (by decide) ?_
              refine V2.to (st' := [.int (0 : Int32)]) ?_ rfl rfl rfl rfl
              refine V2_zreturn d_Rows_goesOn_52 rfl (by decide) ?_
              have hB1 : B ≤ n := hR.1
              have hf : (B = 0 ∧ (G 36 6).toInt = (n : Int) + 1) ∨ (0 < B ∧ (G 36 6).toInt = (B : Int)) := by
                rcases hR.2.1 with ⟨h1, h2⟩ | ⟨h1, h2⟩
                · exact Or.inl ⟨h1, by rw [h2, nI_toInt (by omega)]; omega⟩
                · exact Or.inr ⟨h1, by rw [h2, nI_toInt (by have := hR.1; omega)]⟩
              have hov : (bst.toInt = -1 ∧ B = 0 ∧ (G 36 7).toInt = -1000) ∨ (¬ bst.toInt = -1 ∧ (G 36 7).toInt = hi.toInt) := by
                rcases hR.2.2 with ⟨h1, h2, h3⟩ | ⟨h1, h3, _⟩
                · exact Or.inl ⟨h1, h2, by rw [h3]; decide⟩
                · exact Or.inr ⟨h1, by rw [h3]⟩
              have sA : (T 2 - T 0).toInt = (T 2).toInt - (T 0).toInt := toI_sub (by omega) (by omega) (by omega) (by omega)
              have e2 : G 44 2 = T 2 := hx.2.2.2.2.2.1.2.2.1
              have e0 : G 44 0 = T 0 := hx.2.2.2.2.2.1.1
              have el : G 36 5 = nI n := hx.2.2.1
              have sA2 : (G 44 2 - G 44 0).toInt = (T 2).toInt - (T 0).toInt := by rw [e2, e0]; exact sA
              have nl : (G 36 5).toInt = (n : Int) := by rw [el]; exact nI_toInt (by omega)
              have h5 : T 5 = 1 := by
                have h9 := c7
                subst ev89 ev87 ev85 ev77 ev76 ev68 ev60 ev33 ev6 ev5 ev4 ev3 ev1
                rw [hx.2.2.2.2.2.1.2.2.2.2.2.2.2] at h9
                exact hx.2.2.2.2.2.2.2.1.2.2.2.2.2.1.resolve_left h9
              exfalso
              exact (by (try clear hQ); (try subst ev89 ev87 ev85 ev77 ev76 ev68 ev60 ev33 ev6 ev5 ev4 ev3 ev1); ((try simp only [xb_eq, xb_ne, Int32.lt_iff_toInt_lt, Int32.le_iff_toInt_le] at *) <;> (try simp only [← Int32.toInt_inj, true_and, false_and, or_false, false_or, or_true, true_or, and_true, and_false] at *) <;> omega))
            · refine V2_iconst (v := 1) d_Rows_canBeBetter_72 rfl ?_
              refine V2_goto (tgt := 77) d_Rows_canBeBetter_73 rfl ?_
              refine V2_istore (i := 6) (l' := [some (.ref 36), some (.int (1 : Int32)), some (.ref 44), some (.int (2 : Int32)), some (.int v5), some (.int (1 : Int32)), some (.int (1 : Int32))]) d_Rows_canBeBetter_77 (xst_i (Nat.le_of_ble_eq_true rfl) rfl rfl) ?_
              refine V2_iload (i := 5) d_Rows_canBeBetter_79 rfl ?_
              refine V2_if_eq (tgt := 89) d_Rows_canBeBetter_81 rfl (fun c => (by first | exact absurd c (by decide) | exact absurd (by decide) c)) (fun _ => ?_)
              refine V2_aload_n (i := 0) d_Rows_canBeBetter_84 rfl rfl ?_
              refine V2_iload_n (i := 3) d_Rows_canBeBetter_85 rfl rfl ?_
              refine V2_put d_Rows_canBeBetter_86 fl_Rows_40 (by decide) rfl (by decide) rfl ?_
              refine V2_iload (i := 5) d_Rows_canBeBetter_89 rfl ?_
              refine V2_if_ne (tgt := 99) d_Rows_canBeBetter_91 rfl (fun _ => ?_) (fun c => (by first | exact absurd c (by decide) | exact absurd (by decide) c))
              refine V2_aload_n (i := 0) d_Rows_canBeBetter_99 rfl rfl ?_
              refine V2_iload (i := 4) d_Rows_canBeBetter_100 rfl ?_
              refine V2_put d_Rows_canBeBetter_102 fl_Rows_43 (by decide) rfl (by decide) rfl ?_
              refine V2_aload_n (i := 0) d_Rows_canBeBetter_105 rfl rfl ?_
              refine V2_iload_n (i := 1) d_Rows_canBeBetter_106 rfl rfl ?_
              refine V2_callV [.int (1 : Int32)] d_Rows_canBeBetter_107 rfl rfl lk_Rows_132 mo_Rows_keep (by decide) rfl rfl rfl (Nat.le_of_ble_eq_true rfl) (Nat.le_of_ble_eq_true rfl) ?_
              refine V2.to (l' := [some (.ref 36), some (.int (1 : Int32)), none]) ?_ rfl rfl rfl rfl
              refine V2_iconst (v := 0) d_Rows_keep_0 rfl ?_
              refine V2_istore_n (i := 2) (l' := [some (.ref 36), some (.int (1 : Int32)), some (.int (0 : Int32))]) d_Rows_keep_1 rfl (xst_i (Nat.le_of_ble_eq_true rfl) rfl rfl) ?_
              refine V2_iload_n (i := 2) d_Rows_keep_2 rfl rfl ?_
              refine V2_aload_n (i := 0) d_Rows_keep_3 rfl rfl ?_
              refine V2_getr (a := 40) d_Rows_keep_4 fl_Rows_26 (by decide) rfl (by decide) rfl ?_
              refine V2_alen (t := 0) (v := 4) d_Rows_keep_7 (by decide) rfl (by decide) rfl ?_
              refine V2_icmp_ge (tgt := 47) d_Rows_keep_8 rfl (fun c => (by first | exact absurd c (by decide) | exact absurd (by decide) c)) (fun _ => ?_)
              refine V2_iload_n (i := 2) d_Rows_keep_11 rfl rfl ?_
              refine V2_aload_n (i := 0) d_Rows_keep_12 rfl rfl ?_
              refine V2_getr (a := 41) d_Rows_keep_13 fl_Rows_30 (by decide) rfl (by decide) rfl ?_
              refine V2_alen (t := 0) (v := 4) d_Rows_keep_16 (by decide) rfl (by decide) rfl ?_
              refine V2_icmp_ge (tgt := 47) d_Rows_keep_17 rfl (fun c => (by first | exact absurd c (by decide) | exact absurd (by decide) c)) (fun _ => ?_)
              refine V2_aload_n (i := 0) d_Rows_keep_20 rfl rfl ?_
              refine V2_getr (a := 41) d_Rows_keep_21 fl_Rows_30 (by decide) rfl (by decide) rfl ?_
              refine V2_iload_n (i := 2) d_Rows_keep_24 rfl rfl ?_
              refine V2_iload_n (i := 2) d_Rows_keep_25 rfl rfl ?_
              refine V2_iload_n (i := 1) d_Rows_keep_26 rfl rfl ?_
              refine V2_icmp_gt (tgt := 39) d_Rows_keep_27 rfl (fun c => (by first | exact absurd c (by decide) | exact absurd (by decide) c)) (fun _ => ?_)
              refine V2_aload_n (i := 0) d_Rows_keep_30 rfl rfl ?_
              refine V2_getr (a := 40) d_Rows_keep_31 fl_Rows_26 (by decide) rfl (by decide) rfl ?_
              refine V2_iload_n (i := 2) d_Rows_keep_34 rfl rfl ?_
              refine V2_iaload (v := G 40 0) d_Rows_keep_35 (by decide) rfl (xixA (n := 0) rfl (by decide) (by decide)) rfl ?_
              refine V2_topi (fun v93 ev93 => ?_)
              refine V2_goto (tgt := 40) d_Rows_keep_36 rfl ?_
              refine V2_iastore (j := 0) d_Rows_keep_40 (by decide) rfl (xixA (n := 0) rfl (by decide) (by decide)) rfl ?_
              refine V2_iinc (i := 2) (v := 1) (l' := [some (.ref 36), some (.int (1 : Int32)), some (.int (1 : Int32))]) d_Rows_keep_41 rfl (by decide) (xst_i (Nat.le_of_ble_eq_true rfl) rfl rfl) ?_
              refine V2_goto (tgt := 2) d_Rows_keep_44 rfl ?_
              refine V2_iload_n (i := 2) d_Rows_keep_2 rfl rfl ?_
              refine V2_aload_n (i := 0) d_Rows_keep_3 rfl rfl ?_
              refine V2_getr (a := 40) d_Rows_keep_4 fl_Rows_26 (by decide) rfl (by decide) rfl ?_
              refine V2_alen (t := 0) (v := 4) d_Rows_keep_7 (by decide) rfl (by decide) rfl ?_
              refine V2_icmp_ge (tgt := 47) d_Rows_keep_8 rfl (fun c => (by first | exact absurd c (by decide) | exact absurd (by decide) c)) (fun _ => ?_)
              refine V2_iload_n (i := 2) d_Rows_keep_11 rfl rfl ?_
              refine V2_aload_n (i := 0) d_Rows_keep_12 rfl rfl ?_
              refine V2_getr (a := 41) d_Rows_keep_13 fl_Rows_30 (by decide) rfl (by decide) rfl ?_
              refine V2_alen (t := 0) (v := 4) d_Rows_keep_16 (by decide) rfl (by decide) rfl ?_
              refine V2_icmp_ge (tgt := 47) d_Rows_keep_17 rfl (fun c => (by first | exact absurd c (by decide) | exact absurd (by decide) c)) (fun _ => ?_)
              refine V2_aload_n (i := 0) d_Rows_keep_20 rfl rfl ?_
              refine V2_getr (a := 41) d_Rows_keep_21 fl_Rows_30 (by decide) rfl (by decide) rfl ?_
              refine V2_iload_n (i := 2) d_Rows_keep_24 rfl rfl ?_
              refine V2_iload_n (i := 2) d_Rows_keep_25 rfl rfl ?_
              refine V2_iload_n (i := 1) d_Rows_keep_26 rfl rfl ?_
              refine V2_icmp_gt (tgt := 39) d_Rows_keep_27 rfl (fun c => (by first | exact absurd c (by decide) | exact absurd (by decide) c)) (fun _ => ?_)
              refine V2_aload_n (i := 0) d_Rows_keep_30 rfl rfl ?_
              refine V2_getr (a := 40) d_Rows_keep_31 fl_Rows_26 (by decide) rfl (by decide) rfl ?_
              refine V2_iload_n (i := 2) d_Rows_keep_34 rfl rfl ?_
              refine V2_iaload (v := G 40 1) d_Rows_keep_35 (by decide) rfl (xixA (n := 1) rfl (by decide) (by decide)) rfl ?_
              refine V2_topi (fun v95 ev95 => ?_)
              refine V2_goto (tgt := 40) d_Rows_keep_36 rfl ?_
              refine V2_iastore (j := 1) d_Rows_keep_40 (by decide) rfl (xixA (n := 1) rfl (by decide) (by decide)) rfl ?_
              refine V2_iinc (i := 2) (v := 2) (l' := [some (.ref 36), some (.int (1 : Int32)), some (.int (2 : Int32))]) d_Rows_keep_41 rfl (by decide) (xst_i (Nat.le_of_ble_eq_true rfl) rfl rfl) ?_
              refine V2_goto (tgt := 2) d_Rows_keep_44 rfl ?_
              refine V2_iload_n (i := 2) d_Rows_keep_2 rfl rfl ?_
              refine V2_aload_n (i := 0) d_Rows_keep_3 rfl rfl ?_
              refine V2_getr (a := 40) d_Rows_keep_4 fl_Rows_26 (by decide) rfl (by decide) rfl ?_
              refine V2_alen (t := 0) (v := 4) d_Rows_keep_7 (by decide) rfl (by decide) rfl ?_
              refine V2_icmp_ge (tgt := 47) d_Rows_keep_8 rfl (fun c => (by first | exact absurd c (by decide) | exact absurd (by decide) c)) (fun _ => ?_)
              refine V2_iload_n (i := 2) d_Rows_keep_11 rfl rfl ?_
              refine V2_aload_n (i := 0) d_Rows_keep_12 rfl rfl ?_
              refine V2_getr (a := 41) d_Rows_keep_13 fl_Rows_30 (by decide) rfl (by decide) rfl ?_
              refine V2_alen (t := 0) (v := 4) d_Rows_keep_16 (by decide) rfl (by decide) rfl ?_
              refine V2_icmp_ge (tgt := 47) d_Rows_keep_17 rfl (fun c => (by first | exact absurd c (by decide) | exact absurd (by decide) c)) (fun _ => ?_)
              refine V2_aload_n (i := 0) d_Rows_keep_20 rfl rfl ?_
              refine V2_getr (a := 41) d_Rows_keep_21 fl_Rows_30 (by decide) rfl (by decide) rfl ?_
              refine V2_iload_n (i := 2) d_Rows_keep_24 rfl rfl ?_
              refine V2_iload_n (i := 2) d_Rows_keep_25 rfl rfl ?_
              refine V2_iload_n (i := 1) d_Rows_keep_26 rfl rfl ?_
              refine V2_icmp_gt (tgt := 39) d_Rows_keep_27 rfl (fun _ => ?_) (fun c => (by first | exact absurd c (by decide) | exact absurd (by decide) c))
              refine V2_iconst (v := 0) d_Rows_keep_39 rfl ?_
              refine V2_iastore (j := 2) d_Rows_keep_40 (by decide) rfl (xixA (n := 2) rfl (by decide) (by decide)) rfl ?_
              refine V2_iinc (i := 2) (v := 3) (l' := [some (.ref 36), some (.int (1 : Int32)), some (.int (3 : Int32))]) d_Rows_keep_41 rfl (by decide) (xst_i (Nat.le_of_ble_eq_true rfl) rfl rfl) ?_
              refine V2_goto (tgt := 2) d_Rows_keep_44 rfl ?_
              refine V2_iload_n (i := 2) d_Rows_keep_2 rfl rfl ?_
              refine V2_aload_n (i := 0) d_Rows_keep_3 rfl rfl ?_
              refine V2_getr (a := 40) d_Rows_keep_4 fl_Rows_26 (by decide) rfl (by decide) rfl ?_
              refine V2_alen (t := 0) (v := 4) d_Rows_keep_7 (by decide) rfl (by decide) rfl ?_
              refine V2_icmp_ge (tgt := 47) d_Rows_keep_8 rfl (fun c => (by first | exact absurd c (by decide) | exact absurd (by decide) c)) (fun _ => ?_)
              refine V2_iload_n (i := 2) d_Rows_keep_11 rfl rfl ?_
              refine V2_aload_n (i := 0) d_Rows_keep_12 rfl rfl ?_
              refine V2_getr (a := 41) d_Rows_keep_13 fl_Rows_30 (by decide) rfl (by decide) rfl ?_
              refine V2_alen (t := 0) (v := 4) d_Rows_keep_16 (by decide) rfl (by decide) rfl ?_
              refine V2_icmp_ge (tgt := 47) d_Rows_keep_17 rfl (fun c => (by first | exact absurd c (by decide) | exact absurd (by decide) c)) (fun _ => ?_)
              refine V2_aload_n (i := 0) d_Rows_keep_20 rfl rfl ?_
              refine V2_getr (a := 41) d_Rows_keep_21 fl_Rows_30 (by decide) rfl (by decide) rfl ?_
              refine V2_iload_n (i := 2) d_Rows_keep_24 rfl rfl ?_
              refine V2_iload_n (i := 2) d_Rows_keep_25 rfl rfl ?_
              refine V2_iload_n (i := 1) d_Rows_keep_26 rfl rfl ?_
              refine V2_icmp_gt (tgt := 39) d_Rows_keep_27 rfl (fun _ => ?_) (fun c => (by first | exact absurd c (by decide) | exact absurd (by decide) c))
              refine V2_iconst (v := 0) d_Rows_keep_39 rfl ?_
              refine V2_iastore (j := 3) d_Rows_keep_40 (by decide) rfl (xixA (n := 3) rfl (by decide) (by decide)) rfl ?_
              refine V2_iinc (i := 2) (v := 4) (l' := [some (.ref 36), some (.int (1 : Int32)), some (.int (4 : Int32))]) d_Rows_keep_41 rfl (by decide) (xst_i (Nat.le_of_ble_eq_true rfl) rfl rfl) ?_
              refine V2_goto (tgt := 2) d_Rows_keep_44 rfl ?_
              refine V2_iload_n (i := 2) d_Rows_keep_2 rfl rfl ?_
              refine V2_aload_n (i := 0) d_Rows_keep_3 rfl rfl ?_
              refine V2_getr (a := 40) d_Rows_keep_4 fl_Rows_26 (by decide) rfl (by decide) rfl ?_
              refine V2_alen (t := 0) (v := 4) d_Rows_keep_7 (by decide) rfl (by decide) rfl ?_
              refine V2_icmp_ge (tgt := 47) d_Rows_keep_8 rfl (fun _ => ?_) (fun c => (by first | exact absurd c (by decide) | exact absurd (by decide) c))
              refine V2_return d_Rows_keep_47 rfl ?_
              refine V2.to (st' := []) ?_ rfl rfl rfl rfl
              refine V2_iload_n (i := 3) d_Rows_canBeBetter_110 rfl rfl ?_
              refine V2_iconst (v := 1) d_Rows_canBeBetter_111 rfl ?_
              refine V2_iadd d_Rows_canBeBetter_112 ?_
              refine V2_lit (v := 3) (by decide) ?_
              refine V2_aload_n (i := 0) d_Rows_canBeBetter_113 rfl rfl ?_
              refine V2_get (v := (2 : Int32)) d_Rows_canBeBetter_114 fl_Rows_40 (by decide) rfl (by decide) rfl rfl ?_
              refine V2_icmp_ge (tgt := 124) d_Rows_canBeBetter_117 rfl (fun _ => ?_) (fun c => (by first | exact absurd c (by decide) | exact absurd (by decide) c))
              refine V2_iconst (v := 0) d_Rows_canBeBetter_124 rfl ?_
              refine V2_zreturn d_Rows_canBeBetter_125 rfl (by decide) ?_
              refine V2.to (st' := [.int (0 : Int32)]) ?_ rfl rfl rfl rfl
              refine V2_zreturn d_Rows_goesOn_52 rfl (by decide) ?_
              have hB1 : B ≤ n := hR.1
              have hf : (B = 0 ∧ (G 36 6).toInt = (n : Int) + 1) ∨ (0 < B ∧ (G 36 6).toInt = (B : Int)) := by
                rcases hR.2.1 with ⟨h1, h2⟩ | ⟨h1, h2⟩
                · exact Or.inl ⟨h1, by rw [h2, nI_toInt (by omega)]; omega⟩
                · exact Or.inr ⟨h1, by rw [h2, nI_toInt (by have := hR.1; omega)]⟩
              have hov : (bst.toInt = -1 ∧ B = 0 ∧ (G 36 7).toInt = -1000) ∨ (¬ bst.toInt = -1 ∧ (G 36 7).toInt = hi.toInt) := by
                rcases hR.2.2 with ⟨h1, h2, h3⟩ | ⟨h1, h3, _⟩
                · exact Or.inl ⟨h1, h2, by rw [h3]; decide⟩
                · exact Or.inr ⟨h1, by rw [h3]⟩
              have sA : (T 2 - T 0).toInt = (T 2).toInt - (T 0).toInt := toI_sub (by omega) (by omega) (by omega) (by omega)
              have e2 : G 44 2 = T 2 := hx.2.2.2.2.2.1.2.2.1
              have e0 : G 44 0 = T 0 := hx.2.2.2.2.2.1.1
              have el : G 36 5 = nI n := hx.2.2.1
              have sA2 : (G 44 2 - G 44 0).toInt = (T 2).toInt - (T 0).toInt := by rw [e2, e0]; exact sA
              have nl : (G 36 5).toInt = (n : Int) := by rw [el]; exact nI_toInt (by omega)
              have h5 : T 5 = 1 := by
                have h9 := c7
                subst ev95 ev93 ev85 ev77 ev76 ev68 ev60 ev33 ev6 ev5 ev4 ev3 ev1
                rw [hx.2.2.2.2.2.1.2.2.2.2.2.2.2] at h9
                exact hx.2.2.2.2.2.2.2.1.2.2.2.2.2.1.resolve_left h9
              exfalso
              exact (by (try clear hQ); (try subst ev95 ev93 ev85 ev77 ev76 ev68 ev60 ev33 ev6 ev5 ev4 ev3 ev1); ((try simp only [xb_eq, xb_ne, Int32.lt_iff_toInt_lt, Int32.le_iff_toInt_le] at *) <;> (try simp only [← Int32.toInt_inj, true_and, false_and, or_false, false_or, or_true, true_or, and_true, and_false] at *) <;> omega))
set_option maxHeartbeats 2000000 in
theorem c_visP_2 {L : Nat} {xs : Nat → Int32} {d : Nat} {Q : Option Value → xF → Prop} {F G : xF} {S T : Nat → Int32} {n pre B : Nat} {bst hi : Int32} (hn : n ≤ 4) (hl : 2 < n) (hx : ctxV F G S T 0 n (2 + 1) pre 45) (hR : planR n G (bst, B, hi)) (hQ : ∀ (G2 : xF) (b : Int32), frV G G2 → ((b = 1 ∧ ¬ T 5 = 1 ∧ 2 + 1 < n ∧ True ∧ planR n G2 (bst, B, hi)) ∨ ((b = 0 ∨ b = 1 ∧ (T 5 = 1 ∨ 2 + 1 = n)) ∧ planR n G2 (blk (procP n S) (pre * 10 ^ (n - (2 + 1))) (10 ^ (n - (2 + 1))) (bst, B, hi)))) → Q (some (.int b)) G2) : V2 L xs (d + 4) m_Rows_goesOn 0 (xEntry [.ref 36, .int (2 : Int32), .ref 45] 3) [] G Q := by
  have q0 : (0 : Int32).toInt = 0 := by decide
  have q1 : (1 : Int32).toInt = 1 := by decide
  have q2 : (2 : Int32).toInt = 2 := by decide
  have q3 : (3 : Int32).toInt = 3 := by decide
  have q4 : (4 : Int32).toInt = 4 := by decide
  have q5 : (5 : Int32).toInt = 5 := by decide
  have q6 : (6 : Int32).toInt = 6 := by decide
  have q7 : (7 : Int32).toInt = 7 := by decide
  have q8 : (8 : Int32).toInt = 8 := by decide
  have q9 : (9 : Int32).toInt = 9 := by decide
  have q10 : (10 : Int32).toInt = 10 := by decide
  have q12 : (12 : Int32).toInt = 12 := by decide
  have q16 : (16 : Int32).toInt = 16 := by decide
  have q20 : (20 : Int32).toInt = 20 := by decide
  have q24 : (24 : Int32).toInt = 24 := by decide
  have q30 : (30 : Int32).toInt = 30 := by decide
  have q32 : (32 : Int32).toInt = 32 := by decide
  have q40 : (40 : Int32).toInt = 40 := by decide
  have q60 : (60 : Int32).toInt = 60 := by decide
  have q69 : (69 : Int32).toInt = 69 := by decide
  have q99 : (99 : Int32).toInt = 99 := by decide
  have q9999 : (9999 : Int32).toInt = 9999 := by decide
  have q274 : (274 : Int32).toInt = 274 := by decide
  have q334 : (334 : Int32).toInt = 334 := by decide
  have hT0 := hx.2.2.2.2.2.2.2.1.1
  have hT2 := hx.2.2.2.2.2.2.2.1.2.2.1
  have s5T := hx.2.2.2.2.2.2.2.1.2.2.2.2.2.1
  have e57 : G 45 7 = T 5 := hx.2.2.2.2.2.1.2.2.2.2.2.2.2
  refine V2.to (l' := [some (.ref 36), some (.int (2 : Int32)), some (.ref 45)]) ?_ rfl rfl rfl rfl
  refine V2_aload_n (i := 0) d_Rows_goesOn_0 rfl rfl ?_
  refine V2_get (v := G 36 4) d_Rows_goesOn_1 fl_Rows_33 (by decide) rfl (by decide) rfl rfl ?_
  refine V2_topi (fun v1 ev1 => ?_)
  have c2 : v1 = 0 := (by subst ev1; exact hx.2.1)
  refine V2_lookup (tgt := 46) d_Rows_goesOn_4 (by decide) (by rw [c2]; first | done | rfl | decide +kernel) rfl ?_
  refine V2_aload_n (i := 0) d_Rows_goesOn_46 rfl rfl ?_
  refine V2_iload_n (i := 1) d_Rows_goesOn_47 rfl rfl ?_
  refine V2_aload_n (i := 2) d_Rows_goesOn_48 rfl rfl ?_
  refine V2_callV [.int (2 : Int32), .ref 45] d_Rows_goesOn_49 rfl rfl lk_Rows_123 mo_Rows_canBeBetter (by decide) rfl rfl rfl (Nat.le_of_ble_eq_true rfl) (Nat.le_of_ble_eq_true rfl) ?_
  refine V2.to (l' := [some (.ref 36), some (.int (2 : Int32)), some (.ref 45), none, none, none, none]) ?_ rfl rfl rfl rfl
  refine V2_iload_n (i := 1) d_Rows_canBeBetter_0 rfl rfl ?_
  refine V2_iconst (v := 1) d_Rows_canBeBetter_1 rfl ?_
  refine V2_iadd d_Rows_canBeBetter_2 ?_
  refine V2_lit (v := 3) (by decide) ?_
  refine V2_istore_n (i := 3) (l' := [some (.ref 36), some (.int (2 : Int32)), some (.ref 45), some (.int (3 : Int32)), none, none, none]) d_Rows_canBeBetter_3 rfl (xst_r (Nat.le_of_ble_eq_true rfl) rfl rfl) ?_
  refine V2_aload_n (i := 2) d_Rows_canBeBetter_4 rfl rfl ?_
  refine V2_get (v := G 45 2) d_Rows_canBeBetter_5 fl_Rows_126 (by decide) rfl (by decide) rfl rfl ?_
  refine V2_topi (fun v3 ev3 => ?_)
  refine V2_aload_n (i := 2) d_Rows_canBeBetter_8 rfl rfl ?_
  refine V2_get (v := G 45 0) d_Rows_canBeBetter_9 fl_Rows_129 (by decide) rfl (by decide) rfl rfl ?_
  refine V2_topi (fun v4 ev4 => ?_)
  refine V2_isub d_Rows_canBeBetter_12 ?_
  refine V2_topi (fun v5 ev5 => ?_)
  refine V2_istore (i := 4) (l' := [some (.ref 36), some (.int (2 : Int32)), some (.ref 45), some (.int (3 : Int32)), some (.int v5), none, none]) d_Rows_canBeBetter_13 (xst_i (Nat.le_of_ble_eq_true rfl) rfl rfl) ?_
  refine V2_aload_n (i := 2) d_Rows_canBeBetter_15 rfl rfl ?_
  refine V2_get (v := G 45 7) d_Rows_canBeBetter_16 fl_Rows_80 (by decide) rfl (by decide) rfl rfl ?_
  refine V2_topi (fun v6 ev6 => ?_)
  refine V2_if_eq (tgt := 34) d_Rows_canBeBetter_19 rfl (fun c7 => ?_) (fun c7 => ?_)
  · refine V2_iconst (v := 0) d_Rows_canBeBetter_34 rfl ?_
    refine V2_istore (i := 5) (l' := [some (.ref 36), some (.int (2 : Int32)), some (.ref 45), some (.int (3 : Int32)), some (.int v5), some (.int (0 : Int32)), none]) d_Rows_canBeBetter_35 (xst_i (Nat.le_of_ble_eq_true rfl) rfl rfl) ?_
    refine V2_aload_n (i := 2) d_Rows_canBeBetter_37 rfl rfl ?_
    refine V2_get (v := G 45 7) d_Rows_canBeBetter_38 fl_Rows_80 (by decide) rfl (by decide) rfl rfl ?_
    refine V2_topi (fun v8 ev8 => ?_)
    refine V2_if_ne (tgt := 76) d_Rows_canBeBetter_41 rfl (fun c9 => ?_) (fun c9 => ?_)
    · refine V2_iconst (v := 0) d_Rows_canBeBetter_76 rfl ?_
      refine V2_istore (i := 6) (l' := [some (.ref 36), some (.int (2 : Int32)), some (.ref 45), some (.int (3 : Int32)), some (.int v5), some (.int (0 : Int32)), some (.int (0 : Int32))]) d_Rows_canBeBetter_77 (xst_i (Nat.le_of_ble_eq_true rfl) rfl rfl) ?_
      refine V2_iload (i := 5) d_Rows_canBeBetter_79 rfl ?_
      refine V2_if_eq (tgt := 89) d_Rows_canBeBetter_81 rfl (fun _ => ?_) (fun c => (by first | exact absurd c (by decide) | exact absurd (by decide) c))
      refine V2_iload (i := 5) d_Rows_canBeBetter_89 rfl ?_
      refine V2_if_ne (tgt := 99) d_Rows_canBeBetter_91 rfl (fun c => (by first | exact absurd c (by decide) | exact absurd (by decide) c)) (fun _ => ?_)
      refine V2_iload (i := 6) d_Rows_canBeBetter_94 rfl ?_
      refine V2_if_eq (tgt := 110) d_Rows_canBeBetter_96 rfl (fun _ => ?_) (fun c => (by first | exact absurd c (by decide) | exact absurd (by decide) c))
      refine V2_iload_n (i := 3) d_Rows_canBeBetter_110 rfl rfl ?_
      refine V2_iconst (v := 1) d_Rows_canBeBetter_111 rfl ?_
      refine V2_iadd d_Rows_canBeBetter_112 ?_
      refine V2_lit (v := 4) (by decide) ?_
      refine V2_aload_n (i := 0) d_Rows_canBeBetter_113 rfl rfl ?_
      refine V2_get (v := G 36 6) d_Rows_canBeBetter_114 fl_Rows_40 (by decide) rfl (by decide) rfl rfl ?_
      refine V2_topi (fun v10 ev10 => ?_)
      refine V2_icmp_ge (tgt := 124) d_Rows_canBeBetter_117 rfl (fun c11 => ?_) (fun c11 => ?_)
      · refine V2_iconst (v := 0) d_Rows_canBeBetter_124 rfl ?_
        refine V2_zreturn d_Rows_canBeBetter_125 rfl (by decide) ?_
        refine V2.to (st' := [.int (0 : Int32)]) ?_ rfl rfl rfl rfl
        refine V2_zreturn d_Rows_goesOn_52 rfl (by decide) ?_
        have hB1 : B ≤ n := hR.1
        have hf : (B = 0 ∧ (G 36 6).toInt = (n : Int) + 1) ∨ (0 < B ∧ (G 36 6).toInt = (B : Int)) := by
          rcases hR.2.1 with ⟨h1, h2⟩ | ⟨h1, h2⟩
          · exact Or.inl ⟨h1, by rw [h2, nI_toInt (by omega)]; omega⟩
          · exact Or.inr ⟨h1, by rw [h2, nI_toInt (by have := hR.1; omega)]⟩
        have hov : (bst.toInt = -1 ∧ B = 0 ∧ (G 36 7).toInt = -1000) ∨ (¬ bst.toInt = -1 ∧ (G 36 7).toInt = hi.toInt) := by
          rcases hR.2.2 with ⟨h1, h2, h3⟩ | ⟨h1, h3, _⟩
          · exact Or.inl ⟨h1, h2, by rw [h3]; decide⟩
          · exact Or.inr ⟨h1, by rw [h3]⟩
        have sA : (T 2 - T 0).toInt = (T 2).toInt - (T 0).toInt := toI_sub (by omega) (by omega) (by omega) (by omega)
        have e2 : G 45 2 = T 2 := hx.2.2.2.2.2.1.2.2.1
        have e0 : G 45 0 = T 0 := hx.2.2.2.2.2.1.1
        have el : G 36 5 = nI n := hx.2.2.1
        have sA2 : (G 45 2 - G 45 0).toInt = (T 2).toInt - (T 0).toInt := by rw [e2, e0]; exact sA
        have nl : (G 36 5).toInt = (n : Int) := by rw [el]; exact nI_toInt (by omega)
        have h5 : ¬ T 5 = 1 := by
          intro h
          have h9 := c7
          subst ev10 ev8 ev6 ev5 ev4 ev3 ev1
          rw [hx.2.2.2.2.2.1.2.2.2.2.2.2.2, h] at h9
          exact absurd h9 (by decide)
        exfalso
        exact (by (try clear hQ); (try subst ev10 ev8 ev6 ev5 ev4 ev3 ev1); ((try simp only [xb_eq, xb_ne, Int32.lt_iff_toInt_lt, Int32.le_iff_toInt_le] at *) <;> (try simp only [← Int32.toInt_inj, true_and, false_and, or_false, false_or, or_true, true_or, and_true, and_false] at *) <;> omega))
      · refine V2_iconst (v := 1) d_Rows_canBeBetter_120 rfl ?_
        refine V2_goto (tgt := 125) d_Rows_canBeBetter_121 rfl ?_
        refine V2_zreturn d_Rows_canBeBetter_125 rfl (by decide) ?_
        refine V2.to (st' := [.int (1 : Int32)]) ?_ rfl rfl rfl rfl
        refine V2_zreturn d_Rows_goesOn_52 rfl (by decide) ?_
        have hB1 : B ≤ n := hR.1
        have hf : (B = 0 ∧ (G 36 6).toInt = (n : Int) + 1) ∨ (0 < B ∧ (G 36 6).toInt = (B : Int)) := by
          rcases hR.2.1 with ⟨h1, h2⟩ | ⟨h1, h2⟩
          · exact Or.inl ⟨h1, by rw [h2, nI_toInt (by omega)]; omega⟩
          · exact Or.inr ⟨h1, by rw [h2, nI_toInt (by have := hR.1; omega)]⟩
        have hov : (bst.toInt = -1 ∧ B = 0 ∧ (G 36 7).toInt = -1000) ∨ (¬ bst.toInt = -1 ∧ (G 36 7).toInt = hi.toInt) := by
          rcases hR.2.2 with ⟨h1, h2, h3⟩ | ⟨h1, h3, _⟩
          · exact Or.inl ⟨h1, h2, by rw [h3]; decide⟩
          · exact Or.inr ⟨h1, by rw [h3]⟩
        have sA : (T 2 - T 0).toInt = (T 2).toInt - (T 0).toInt := toI_sub (by omega) (by omega) (by omega) (by omega)
        have e2 : G 45 2 = T 2 := hx.2.2.2.2.2.1.2.2.1
        have e0 : G 45 0 = T 0 := hx.2.2.2.2.2.1.1
        have el : G 36 5 = nI n := hx.2.2.1
        have sA2 : (G 45 2 - G 45 0).toInt = (T 2).toInt - (T 0).toInt := by rw [e2, e0]; exact sA
        have nl : (G 36 5).toInt = (n : Int) := by rw [el]; exact nI_toInt (by omega)
        have h5 : ¬ T 5 = 1 := by
          intro h
          have h9 := c7
          subst ev10 ev8 ev6 ev5 ev4 ev3 ev1
          rw [hx.2.2.2.2.2.1.2.2.2.2.2.2.2, h] at h9
          exact absurd h9 (by decide)
        exfalso
        exact (by (try clear hQ); (try subst ev10 ev8 ev6 ev5 ev4 ev3 ev1); ((try simp only [xb_eq, xb_ne, Int32.lt_iff_toInt_lt, Int32.le_iff_toInt_le] at *) <;> (try simp only [← Int32.toInt_inj, true_and, false_and, or_false, false_or, or_true, true_or, and_true, and_false] at *) <;> omega))
    · refine V2_iload_n (i := 3) d_Rows_canBeBetter_44 rfl rfl ?_
      refine V2_aload_n (i := 0) d_Rows_canBeBetter_45 rfl rfl ?_
      refine V2_get (v := G 36 5) d_Rows_canBeBetter_46 fl_Rows_37 (by decide) rfl (by decide) rfl rfl ?_
      refine V2_topi (fun v12 ev12 => ?_)
      refine V2_icmp_ne (tgt := 76) d_Rows_canBeBetter_49 rfl (fun c13 => ?_) (fun c13 => ?_)
      · refine V2_iconst (v := 0) d_Rows_canBeBetter_76 rfl ?_
        refine V2_istore (i := 6) (l' := [some (.ref 36), some (.int (2 : Int32)), some (.ref 45), some (.int (3 : Int32)), some (.int v5), some (.int (0 : Int32)), some (.int (0 : Int32))]) d_Rows_canBeBetter_77 (xst_i (Nat.le_of_ble_eq_true rfl) rfl rfl) ?_
        refine V2_iload (i := 5) d_Rows_canBeBetter_79 rfl ?_
        refine V2_if_eq (tgt := 89) d_Rows_canBeBetter_81 rfl (fun _ => ?_) (fun c => (by first | exact absurd c (by decide) | exact absurd (by decide) c))
        refine V2_iload (i := 5) d_Rows_canBeBetter_89 rfl ?_
        refine V2_if_ne (tgt := 99) d_Rows_canBeBetter_91 rfl (fun c => (by first | exact absurd c (by decide) | exact absurd (by decide) c)) (fun _ => ?_)
        refine V2_iload (i := 6) d_Rows_canBeBetter_94 rfl ?_
        refine V2_if_eq (tgt := 110) d_Rows_canBeBetter_96 rfl (fun _ => ?_) (fun c => (by first | exact absurd c (by decide) | exact absurd (by decide) c))
        refine V2_iload_n (i := 3) d_Rows_canBeBetter_110 rfl rfl ?_
        refine V2_iconst (v := 1) d_Rows_canBeBetter_111 rfl ?_
        refine V2_iadd d_Rows_canBeBetter_112 ?_
        refine V2_lit (v := 4) (by decide) ?_
        refine V2_aload_n (i := 0) d_Rows_canBeBetter_113 rfl rfl ?_
        refine V2_get (v := G 36 6) d_Rows_canBeBetter_114 fl_Rows_40 (by decide) rfl (by decide) rfl rfl ?_
        refine V2_topi (fun v14 ev14 => ?_)
        refine V2_icmp_ge (tgt := 124) d_Rows_canBeBetter_117 rfl (fun c15 => ?_) (fun c15 => ?_)
        · refine V2_iconst (v := 0) d_Rows_canBeBetter_124 rfl ?_
          refine V2_zreturn d_Rows_canBeBetter_125 rfl (by decide) ?_
          refine V2.to (st' := [.int (0 : Int32)]) ?_ rfl rfl rfl rfl
          refine V2_zreturn d_Rows_goesOn_52 rfl (by decide) ?_
          have hB1 : B ≤ n := hR.1
          have hf : (B = 0 ∧ (G 36 6).toInt = (n : Int) + 1) ∨ (0 < B ∧ (G 36 6).toInt = (B : Int)) := by
            rcases hR.2.1 with ⟨h1, h2⟩ | ⟨h1, h2⟩
            · exact Or.inl ⟨h1, by rw [h2, nI_toInt (by omega)]; omega⟩
            · exact Or.inr ⟨h1, by rw [h2, nI_toInt (by have := hR.1; omega)]⟩
          have hov : (bst.toInt = -1 ∧ B = 0 ∧ (G 36 7).toInt = -1000) ∨ (¬ bst.toInt = -1 ∧ (G 36 7).toInt = hi.toInt) := by
            rcases hR.2.2 with ⟨h1, h2, h3⟩ | ⟨h1, h3, _⟩
            · exact Or.inl ⟨h1, h2, by rw [h3]; decide⟩
            · exact Or.inr ⟨h1, by rw [h3]⟩
          have sA : (T 2 - T 0).toInt = (T 2).toInt - (T 0).toInt := toI_sub (by omega) (by omega) (by omega) (by omega)
          have e2 : G 45 2 = T 2 := hx.2.2.2.2.2.1.2.2.1
          have e0 : G 45 0 = T 0 := hx.2.2.2.2.2.1.1
          have el : G 36 5 = nI n := hx.2.2.1
          have sA2 : (G 45 2 - G 45 0).toInt = (T 2).toInt - (T 0).toInt := by rw [e2, e0]; exact sA
          have nl : (G 36 5).toInt = (n : Int) := by rw [el]; exact nI_toInt (by omega)
          have h5 : ¬ T 5 = 1 := by
            intro h
            have h9 := c7
            subst ev14 ev12 ev8 ev6 ev5 ev4 ev3 ev1
            rw [hx.2.2.2.2.2.1.2.2.2.2.2.2.2, h] at h9
            exact absurd h9 (by decide)
          have hrow : ∀ i, pre * 10 ^ (n - (2 + 1)) ≤ i → i < pre * 10 ^ (n - (2 + 1)) + 10 ^ (n - (2 + 1)) → trN (PN S) n i S = ((trN (PN S) (n - (2 + 1)) (i - pre * 10 ^ (n - (2 + 1))) T).1.map (fun j => j + (2 + 1)), (trN (PN S) (n - (2 + 1)) (i - pre * 10 ^ (n - (2 + 1))) T).2) := by
            intro i h1 h2
            have hs := hx.2.2.2.2.2.2.2.2 (i - pre * 10 ^ (n - (2 + 1))) (by omega)
            rw [show pre * 10 ^ (n - (2 + 1)) + (i - pre * 10 ^ (n - (2 + 1))) = i by omega] at hs
            exact hs
          have hln : 2 + 1 < n := (by (try clear hQ); (try subst ev14 ev12 ev8 ev6 ev5 ev4 ev3 ev1); ((try simp only [xb_eq, xb_ne, Int32.lt_iff_toInt_lt, Int32.le_iff_toInt_le] at *) <;> (try simp only [← Int32.toInt_inj, true_and, false_and, or_false, false_or, or_true, true_or, and_true, and_false] at *) <;> omega))
          have hlB : 0 < B ∧ B ≤ 2 + 2 := (by (try clear hQ); (try subst ev14 ev12 ev8 ev6 ev5 ev4 ev3 ev1); ((try simp only [xb_eq, xb_ne, Int32.lt_iff_toInt_lt, Int32.le_iff_toInt_le] at *) <;> (try simp only [← Int32.toInt_inj, true_and, false_and, or_false, false_or, or_true, true_or, and_true, and_false] at *) <;> omega))
          subst ev14 ev12 ev8 ev6 ev5 ev4 ev3 ev1
          refine hQ _ 0 ⟨fun a h1 h2 => ?_, rfl, rfl⟩ (Or.inr ⟨Or.inl rfl, ?_⟩)
          · rfl
          · rw [blk_id _ _ _ _ (fun i h1 h2 => ?_)]
            · exact hR
            · have e1 := hrow i h1 h2
              refine pP_f e1 ?_
              cases eo : (trN (PN S) (n - (2 + 1)) (i - pre * 10 ^ (n - (2 + 1))) T).1 with
              | none =>
                show ¬ (bst.toInt = -1 ∨ (0 < 0 ∧ _) ∨ (0 = 0 ∧ B = 0 ∧ _))
                omega
              | some j =>
                have hj := tr_pos h5 eo
                show ¬ (bst.toInt = -1 ∨ (0 < j + (2 + 1) ∧ (B = 0 ∨ j + (2 + 1) < B)) ∨ (j + (2 + 1) = 0 ∧ _))
                omega
        · refine V2_iconst (v := 1) d_Rows_canBeBetter_120 rfl ?_
          refine V2_goto (tgt := 125) d_Rows_canBeBetter_121 rfl ?_
          refine V2_zreturn d_Rows_canBeBetter_125 rfl (by decide) ?_
          refine V2.to (st' := [.int (1 : Int32)]) ?_ rfl rfl rfl rfl
          refine V2_zreturn d_Rows_goesOn_52 rfl (by decide) ?_
          have hB1 : B ≤ n := hR.1
          have hf : (B = 0 ∧ (G 36 6).toInt = (n : Int) + 1) ∨ (0 < B ∧ (G 36 6).toInt = (B : Int)) := by
            rcases hR.2.1 with ⟨h1, h2⟩ | ⟨h1, h2⟩
            · exact Or.inl ⟨h1, by rw [h2, nI_toInt (by omega)]; omega⟩
            · exact Or.inr ⟨h1, by rw [h2, nI_toInt (by have := hR.1; omega)]⟩
          have hov : (bst.toInt = -1 ∧ B = 0 ∧ (G 36 7).toInt = -1000) ∨ (¬ bst.toInt = -1 ∧ (G 36 7).toInt = hi.toInt) := by
            rcases hR.2.2 with ⟨h1, h2, h3⟩ | ⟨h1, h3, _⟩
            · exact Or.inl ⟨h1, h2, by rw [h3]; decide⟩
            · exact Or.inr ⟨h1, by rw [h3]⟩
          have sA : (T 2 - T 0).toInt = (T 2).toInt - (T 0).toInt := toI_sub (by omega) (by omega) (by omega) (by omega)
          have e2 : G 45 2 = T 2 := hx.2.2.2.2.2.1.2.2.1
          have e0 : G 45 0 = T 0 := hx.2.2.2.2.2.1.1
          have el : G 36 5 = nI n := hx.2.2.1
          have sA2 : (G 45 2 - G 45 0).toInt = (T 2).toInt - (T 0).toInt := by rw [e2, e0]; exact sA
          have nl : (G 36 5).toInt = (n : Int) := by rw [el]; exact nI_toInt (by omega)
          have h5 : ¬ T 5 = 1 := by
            intro h
            have h9 := c7
            subst ev14 ev12 ev8 ev6 ev5 ev4 ev3 ev1
            rw [hx.2.2.2.2.2.1.2.2.2.2.2.2.2, h] at h9
            exact absurd h9 (by decide)
          have hln : 2 + 1 < n := (by (try clear hQ); (try subst ev14 ev12 ev8 ev6 ev5 ev4 ev3 ev1); ((try simp only [xb_eq, xb_ne, Int32.lt_iff_toInt_lt, Int32.le_iff_toInt_le] at *) <;> (try simp only [← Int32.toInt_inj, true_and, false_and, or_false, false_or, or_true, true_or, and_true, and_false] at *) <;> omega))
          subst ev14 ev12 ev8 ev6 ev5 ev4 ev3 ev1
          exact hQ G 1 (frV.refl G) (Or.inl ⟨rfl, h5, hln, trivial, hR⟩)
      · refine V2_aload_n (i := 0) d_Rows_canBeBetter_52 rfl rfl ?_
        refine V2_get (v := G 36 6) d_Rows_canBeBetter_53 fl_Rows_40 (by decide) rfl (by decide) rfl rfl ?_
        refine V2_topi (fun v16 ev16 => ?_)
        refine V2_aload_n (i := 0) d_Rows_canBeBetter_56 rfl rfl ?_
        refine V2_get (v := G 36 5) d_Rows_canBeBetter_57 fl_Rows_37 (by decide) rfl (by decide) rfl rfl ?_
        refine V2_topi (fun v17 ev17 => ?_)
        refine V2_icmp_le (tgt := 76) d_Rows_canBeBetter_60 rfl (fun c18 => ?_) (fun c18 => ?_)
        · refine V2_iconst (v := 0) d_Rows_canBeBetter_76 rfl ?_
          refine V2_istore (i := 6) (l' := [some (.ref 36), some (.int (2 : Int32)), some (.ref 45), some (.int (3 : Int32)), some (.int v5), some (.int (0 : Int32)), some (.int (0 : Int32))]) d_Rows_canBeBetter_77 (xst_i (Nat.le_of_ble_eq_true rfl) rfl rfl) ?_
          refine V2_iload (i := 5) d_Rows_canBeBetter_79 rfl ?_
          refine V2_if_eq (tgt := 89) d_Rows_canBeBetter_81 rfl (fun _ => ?_) (fun c => (by first | exact absurd c (by decide) | exact absurd (by decide) c))
          refine V2_iload (i := 5) d_Rows_canBeBetter_89 rfl ?_
          refine V2_if_ne (tgt := 99) d_Rows_canBeBetter_91 rfl (fun c => (by first | exact absurd c (by decide) | exact absurd (by decide) c)) (fun _ => ?_)
          refine V2_iload (i := 6) d_Rows_canBeBetter_94 rfl ?_
          refine V2_if_eq (tgt := 110) d_Rows_canBeBetter_96 rfl (fun _ => ?_) (fun c => (by first | exact absurd c (by decide) | exact absurd (by decide) c))
          refine V2_iload_n (i := 3) d_Rows_canBeBetter_110 rfl rfl ?_
          refine V2_iconst (v := 1) d_Rows_canBeBetter_111 rfl ?_
          refine V2_iadd d_Rows_canBeBetter_112 ?_
          refine V2_lit (v := 4) (by decide) ?_
          refine V2_aload_n (i := 0) d_Rows_canBeBetter_113 rfl rfl ?_
          refine V2_get (v := G 36 6) d_Rows_canBeBetter_114 fl_Rows_40 (by decide) rfl (by decide) rfl rfl ?_
          refine V2_topi (fun v19 ev19 => ?_)
          refine V2_icmp_ge (tgt := 124) d_Rows_canBeBetter_117 rfl (fun c20 => ?_) (fun c20 => ?_)
          · refine V2_iconst (v := 0) d_Rows_canBeBetter_124 rfl ?_
            refine V2_zreturn d_Rows_canBeBetter_125 rfl (by decide) ?_
            refine V2.to (st' := [.int (0 : Int32)]) ?_ rfl rfl rfl rfl
            refine V2_zreturn d_Rows_goesOn_52 rfl (by decide) ?_
            have hB1 : B ≤ n := hR.1
            have hf : (B = 0 ∧ (G 36 6).toInt = (n : Int) + 1) ∨ (0 < B ∧ (G 36 6).toInt = (B : Int)) := by
              rcases hR.2.1 with ⟨h1, h2⟩ | ⟨h1, h2⟩
              · exact Or.inl ⟨h1, by rw [h2, nI_toInt (by omega)]; omega⟩
              · exact Or.inr ⟨h1, by rw [h2, nI_toInt (by have := hR.1; omega)]⟩
            have hov : (bst.toInt = -1 ∧ B = 0 ∧ (G 36 7).toInt = -1000) ∨ (¬ bst.toInt = -1 ∧ (G 36 7).toInt = hi.toInt) := by
              rcases hR.2.2 with ⟨h1, h2, h3⟩ | ⟨h1, h3, _⟩
              · exact Or.inl ⟨h1, h2, by rw [h3]; decide⟩
              · exact Or.inr ⟨h1, by rw [h3]⟩
            have sA : (T 2 - T 0).toInt = (T 2).toInt - (T 0).toInt := toI_sub (by omega) (by omega) (by omega) (by omega)
            have e2 : G 45 2 = T 2 := hx.2.2.2.2.2.1.2.2.1
            have e0 : G 45 0 = T 0 := hx.2.2.2.2.2.1.1
            have el : G 36 5 = nI n := hx.2.2.1
            have sA2 : (G 45 2 - G 45 0).toInt = (T 2).toInt - (T 0).toInt := by rw [e2, e0]; exact sA
            have nl : (G 36 5).toInt = (n : Int) := by rw [el]; exact nI_toInt (by omega)
            have h5 : ¬ T 5 = 1 := by
              intro h
              have h9 := c7
              subst ev19 ev17 ev16 ev12 ev8 ev6 ev5 ev4 ev3 ev1
              rw [hx.2.2.2.2.2.1.2.2.2.2.2.2.2, h] at h9
              exact absurd h9 (by decide)
            have hln : n = 2 + 1 := (by (try clear hQ); (try subst ev19 ev17 ev16 ev12 ev8 ev6 ev5 ev4 ev3 ev1); ((try simp only [xb_eq, xb_ne, Int32.lt_iff_toInt_lt, Int32.le_iff_toInt_le] at *) <;> (try simp only [← Int32.toInt_inj, true_and, false_and, or_false, false_or, or_true, true_or, and_true, and_false] at *) <;> omega))
            subst hln
            have e1 := hx.2.2.2.2.2.2.2.2 0 (Nat.pow_pos (by decide))
            rw [Nat.sub_self, Nat.pow_zero, Nat.mul_one, Nat.add_zero pre, tr_0 h5] at e1
            have hab : abR ((none : Option Nat).map (fun j => j + (2 + 1)), T) = T 2 - T 0 := rfl
            have hno : ¬ (bst.toInt = -1 ∨ (B = 0 ∧ hi.toInt < (T 2 - T 0).toInt)) := (by (try clear hQ); (try subst ev19 ev17 ev16 ev12 ev8 ev6 ev5 ev4 ev3 ev1); ((try simp only [xb_eq, xb_ne, Int32.lt_iff_toInt_lt, Int32.le_iff_toInt_le] at *) <;> (try simp only [← Int32.toInt_inj, true_and, false_and, or_false, false_or, or_true, true_or, and_true, and_false] at *) <;> omega))
            subst ev19 ev17 ev16 ev12 ev8 ev6 ev5 ev4 ev3 ev1
            refine hQ _ 0 ⟨fun a h1 h2 => ?_, rfl, rfl⟩ (Or.inr ⟨Or.inl rfl, ?_⟩)
            · rfl
            · rw [Nat.sub_self, Nat.pow_zero, Nat.mul_one, blk_1, pP_f e1 (show ¬ (_ ∨ _) from ?_)]
              · exact hR
              · show ¬ (bst.toInt = -1 ∨ (0 < 0 ∧ _) ∨ (0 = 0 ∧ B = 0 ∧ hi.toInt < (T 2 - T 0).toInt))
                omega
          · refine V2_iconst (v := 1) d_Rows_canBeBetter_120 rfl ?_
            refine V2_goto (tgt := 125) d_Rows_canBeBetter_121 rfl ?_
            refine V2_zreturn d_Rows_canBeBetter_125 rfl (by decide) ?_
            refine V2.to (st' := [.int (1 : Int32)]) ?_ rfl rfl rfl rfl
            refine V2_zreturn d_Rows_goesOn_52 rfl (by decide) ?_
            have hB1 : B ≤ n := hR.1
            have hf : (B = 0 ∧ (G 36 6).toInt = (n : Int) + 1) ∨ (0 < B ∧ (G 36 6).toInt = (B : Int)) := by
              rcases hR.2.1 with ⟨h1, h2⟩ | ⟨h1, h2⟩
              · exact Or.inl ⟨h1, by rw [h2, nI_toInt (by omega)]; omega⟩
              · exact Or.inr ⟨h1, by rw [h2, nI_toInt (by have := hR.1; omega)]⟩
            have hov : (bst.toInt = -1 ∧ B = 0 ∧ (G 36 7).toInt = -1000) ∨ (¬ bst.toInt = -1 ∧ (G 36 7).toInt = hi.toInt) := by
              rcases hR.2.2 with ⟨h1, h2, h3⟩ | ⟨h1, h3, _⟩
              · exact Or.inl ⟨h1, h2, by rw [h3]; decide⟩
              · exact Or.inr ⟨h1, by rw [h3]⟩
            have sA : (T 2 - T 0).toInt = (T 2).toInt - (T 0).toInt := toI_sub (by omega) (by omega) (by omega) (by omega)
            have e2 : G 45 2 = T 2 := hx.2.2.2.2.2.1.2.2.1
            have e0 : G 45 0 = T 0 := hx.2.2.2.2.2.1.1
            have el : G 36 5 = nI n := hx.2.2.1
            have sA2 : (G 45 2 - G 45 0).toInt = (T 2).toInt - (T 0).toInt := by rw [e2, e0]; exact sA
            have nl : (G 36 5).toInt = (n : Int) := by rw [el]; exact nI_toInt (by omega)
            have h5 : ¬ T 5 = 1 := by
              intro h
              have h9 := c7
              subst ev19 ev17 ev16 ev12 ev8 ev6 ev5 ev4 ev3 ev1
              rw [hx.2.2.2.2.2.1.2.2.2.2.2.2.2, h] at h9
              exact absurd h9 (by decide)
            exfalso
            exact (by (try clear hQ); (try subst ev19 ev17 ev16 ev12 ev8 ev6 ev5 ev4 ev3 ev1); ((try simp only [xb_eq, xb_ne, Int32.lt_iff_toInt_lt, Int32.le_iff_toInt_le] at *) <;> (try simp only [← Int32.toInt_inj, true_and, false_and, or_false, false_or, or_true, true_or, and_true, and_false] at *) <;> omega))
        · refine V2_iload (i := 4) d_Rows_canBeBetter_63 rfl ?_
          refine V2_aload_n (i := 0) d_Rows_canBeBetter_65 rfl rfl ?_
          refine V2_get (v := G 36 7) d_Rows_canBeBetter_66 fl_Rows_43 (by decide) rfl (by decide) rfl rfl ?_
          refine V2_topi (fun v21 ev21 => ?_)
          refine V2_icmp_le (tgt := 76) d_Rows_canBeBetter_69 rfl (fun c22 => ?_) (fun c22 => ?_)
          · refine V2_iconst (v := 0) d_Rows_canBeBetter_76 rfl ?_
            refine V2_istore (i := 6) (l' := [some (.ref 36), some (.int (2 : Int32)), some (.ref 45), some (.int (3 : Int32)), some (.int v5), some (.int (0 : Int32)), some (.int (0 : Int32))]) d_Rows_canBeBetter_77 (xst_i (Nat.le_of_ble_eq_true rfl) rfl rfl) ?_
            refine V2_iload (i := 5) d_Rows_canBeBetter_79 rfl ?_
            refine V2_if_eq (tgt := 89) d_Rows_canBeBetter_81 rfl (fun _ => ?_) (fun c => (by first | exact absurd c (by decide) | exact absurd (by decide) c))
            refine V2_iload (i := 5) d_Rows_canBeBetter_89 rfl ?_
            refine V2_if_ne (tgt := 99) d_Rows_canBeBetter_91 rfl (fun c => (by first | exact absurd c (by decide) | exact absurd (by decide) c)) (fun _ => ?_)
            refine V2_iload (i := 6) d_Rows_canBeBetter_94 rfl ?_
            refine V2_if_eq (tgt := 110) d_Rows_canBeBetter_96 rfl (fun _ => ?_) (fun c => (by first | exact absurd c (by decide) | exact absurd (by decide) c))
            refine V2_iload_n (i := 3) d_Rows_canBeBetter_110 rfl rfl ?_
            refine V2_iconst (v := 1) d_Rows_canBeBetter_111 rfl ?_
            refine V2_iadd d_Rows_canBeBetter_112 ?_
            refine V2_lit (v := 4) (by decide) ?_
            refine V2_aload_n (i := 0) d_Rows_canBeBetter_113 rfl rfl ?_
            refine V2_get (v := G 36 6) d_Rows_canBeBetter_114 fl_Rows_40 (by decide) rfl (by decide) rfl rfl ?_
            refine V2_topi (fun v23 ev23 => ?_)
            refine V2_icmp_ge (tgt := 124) d_Rows_canBeBetter_117 rfl (fun c24 => ?_) (fun c24 => ?_)
            · refine V2_iconst (v := 0) d_Rows_canBeBetter_124 rfl ?_
              refine V2_zreturn d_Rows_canBeBetter_125 rfl (by decide) ?_
              refine V2.to (st' := [.int (0 : Int32)]) ?_ rfl rfl rfl rfl
              refine V2_zreturn d_Rows_goesOn_52 rfl (by decide) ?_
              have hB1 : B ≤ n := hR.1
              have hf : (B = 0 ∧ (G 36 6).toInt = (n : Int) + 1) ∨ (0 < B ∧ (G 36 6).toInt = (B : Int)) := by
                rcases hR.2.1 with ⟨h1, h2⟩ | ⟨h1, h2⟩
                · exact Or.inl ⟨h1, by rw [h2, nI_toInt (by omega)]; omega⟩
                · exact Or.inr ⟨h1, by rw [h2, nI_toInt (by have := hR.1; omega)]⟩
              have hov : (bst.toInt = -1 ∧ B = 0 ∧ (G 36 7).toInt = -1000) ∨ (¬ bst.toInt = -1 ∧ (G 36 7).toInt = hi.toInt) := by
                rcases hR.2.2 with ⟨h1, h2, h3⟩ | ⟨h1, h3, _⟩
                · exact Or.inl ⟨h1, h2, by rw [h3]; decide⟩
                · exact Or.inr ⟨h1, by rw [h3]⟩
              have sA : (T 2 - T 0).toInt = (T 2).toInt - (T 0).toInt := toI_sub (by omega) (by omega) (by omega) (by omega)
              have e2 : G 45 2 = T 2 := hx.2.2.2.2.2.1.2.2.1
              have e0 : G 45 0 = T 0 := hx.2.2.2.2.2.1.1
              have el : G 36 5 = nI n := hx.2.2.1
              have sA2 : (G 45 2 - G 45 0).toInt = (T 2).toInt - (T 0).toInt := by rw [e2, e0]; exact sA
              have nl : (G 36 5).toInt = (n : Int) := by rw [el]; exact nI_toInt (by omega)
              have h5 : ¬ T 5 = 1 := by
                intro h
                have h9 := c7
                subst ev23 ev21 ev17 ev16 ev12 ev8 ev6 ev5 ev4 ev3 ev1
                rw [hx.2.2.2.2.2.1.2.2.2.2.2.2.2, h] at h9
                exact absurd h9 (by decide)
              have hln : n = 2 + 1 := (by (try clear hQ); (try subst ev23 ev21 ev17 ev16 ev12 ev8 ev6 ev5 ev4 ev3 ev1); ((try simp only [xb_eq, xb_ne, Int32.lt_iff_toInt_lt, Int32.le_iff_toInt_le] at *) <;> (try simp only [← Int32.toInt_inj, true_and, false_and, or_false, false_or, or_true, true_or, and_true, and_false] at *) <;> omega))
              subst hln
              have e1 := hx.2.2.2.2.2.2.2.2 0 (Nat.pow_pos (by decide))
              rw [Nat.sub_self, Nat.pow_zero, Nat.mul_one, Nat.add_zero pre, tr_0 h5] at e1
              have hab : abR ((none : Option Nat).map (fun j => j + (2 + 1)), T) = T 2 - T 0 := rfl
              have hno : ¬ (bst.toInt = -1 ∨ (B = 0 ∧ hi.toInt < (T 2 - T 0).toInt)) := (by (try clear hQ); (try subst ev23 ev21 ev17 ev16 ev12 ev8 ev6 ev5 ev4 ev3 ev1); ((try simp only [xb_eq, xb_ne, Int32.lt_iff_toInt_lt, Int32.le_iff_toInt_le] at *) <;> (try simp only [← Int32.toInt_inj, true_and, false_and, or_false, false_or, or_true, true_or, and_true, and_false] at *) <;> omega))
              subst ev23 ev21 ev17 ev16 ev12 ev8 ev6 ev5 ev4 ev3 ev1
              refine hQ _ 0 ⟨fun a h1 h2 => ?_, rfl, rfl⟩ (Or.inr ⟨Or.inl rfl, ?_⟩)
              · rfl
              · rw [Nat.sub_self, Nat.pow_zero, Nat.mul_one, blk_1, pP_f e1 (show ¬ (_ ∨ _) from ?_)]
                · exact hR
                · show ¬ (bst.toInt = -1 ∨ (0 < 0 ∧ _) ∨ (0 = 0 ∧ B = 0 ∧ hi.toInt < (T 2 - T 0).toInt))
                  omega
            · refine V2_iconst (v := 1) d_Rows_canBeBetter_120 rfl ?_
              refine V2_goto (tgt := 125) d_Rows_canBeBetter_121 rfl ?_
              refine V2_zreturn d_Rows_canBeBetter_125 rfl (by decide) ?_
              refine V2.to (st' := [.int (1 : Int32)]) ?_ rfl rfl rfl rfl
              refine V2_zreturn d_Rows_goesOn_52 rfl (by decide) ?_
              have hB1 : B ≤ n := hR.1
              have hf : (B = 0 ∧ (G 36 6).toInt = (n : Int) + 1) ∨ (0 < B ∧ (G 36 6).toInt = (B : Int)) := by
                rcases hR.2.1 with ⟨h1, h2⟩ | ⟨h1, h2⟩
                · exact Or.inl ⟨h1, by rw [h2, nI_toInt (by omega)]; omega⟩
                · exact Or.inr ⟨h1, by rw [h2, nI_toInt (by have := hR.1; omega)]⟩
              have hov : (bst.toInt = -1 ∧ B = 0 ∧ (G 36 7).toInt = -1000) ∨ (¬ bst.toInt = -1 ∧ (G 36 7).toInt = hi.toInt) := by
                rcases hR.2.2 with ⟨h1, h2, h3⟩ | ⟨h1, h3, _⟩
                · exact Or.inl ⟨h1, h2, by rw [h3]; decide⟩
                · exact Or.inr ⟨h1, by rw [h3]⟩
              have sA : (T 2 - T 0).toInt = (T 2).toInt - (T 0).toInt := toI_sub (by omega) (by omega) (by omega) (by omega)
              have e2 : G 45 2 = T 2 := hx.2.2.2.2.2.1.2.2.1
              have e0 : G 45 0 = T 0 := hx.2.2.2.2.2.1.1
              have el : G 36 5 = nI n := hx.2.2.1
              have sA2 : (G 45 2 - G 45 0).toInt = (T 2).toInt - (T 0).toInt := by rw [e2, e0]; exact sA
              have nl : (G 36 5).toInt = (n : Int) := by rw [el]; exact nI_toInt (by omega)
              have h5 : ¬ T 5 = 1 := by
                intro h
                have h9 := c7
                subst ev23 ev21 ev17 ev16 ev12 ev8 ev6 ev5 ev4 ev3 ev1
                rw [hx.2.2.2.2.2.1.2.2.2.2.2.2.2, h] at h9
                exact absurd h9 (by decide)
              exfalso
              exact (by (try clear hQ); (try subst ev23 ev21 ev17 ev16 ev12 ev8 ev6 ev5 ev4 ev3 ev1); ((try simp only [xb_eq, xb_ne, Int32.lt_iff_toInt_lt, Int32.le_iff_toInt_le] at *) <;> (try simp only [← Int32.toInt_inj, true_and, false_and, or_false, false_or, or_true, true_or, and_true, and_false] at *) <;> omega))
          · refine V2_iconst (v := 1) d_Rows_canBeBetter_72 rfl ?_
            refine V2_goto (tgt := 77) d_Rows_canBeBetter_73 rfl ?_
            refine V2_istore (i := 6) (l' := [some (.ref 36), some (.int (2 : Int32)), some (.ref 45), some (.int (3 : Int32)), some (.int v5), some (.int (0 : Int32)), some (.int (1 : Int32))]) d_Rows_canBeBetter_77 (xst_i (Nat.le_of_ble_eq_true rfl) rfl rfl) ?_
            refine V2_iload (i := 5) d_Rows_canBeBetter_79 rfl ?_
            refine V2_if_eq (tgt := 89) d_Rows_canBeBetter_81 rfl (fun _ => ?_) (fun c => (by first | exact absurd c (by decide) | exact absurd (by decide) c))
            refine V2_iload (i := 5) d_Rows_canBeBetter_89 rfl ?_
            refine V2_if_ne (tgt := 99) d_Rows_canBeBetter_91 rfl (fun c => (by first | exact absurd c (by decide) | exact absurd (by decide) c)) (fun _ => ?_)
            refine V2_iload (i := 6) d_Rows_canBeBetter_94 rfl ?_
            refine V2_if_eq (tgt := 110) d_Rows_canBeBetter_96 rfl (fun c => (by first | exact absurd c (by decide) | exact absurd (by decide) c)) (fun _ => ?_)
            refine V2_aload_n (i := 0) d_Rows_canBeBetter_99 rfl rfl ?_
            refine V2_iload (i := 4) d_Rows_canBeBetter_100 rfl ?_
            refine V2_put d_Rows_canBeBetter_102 fl_Rows_43 (by decide) rfl (by decide) rfl ?_
            refine V2_aload_n (i := 0) d_Rows_canBeBetter_105 rfl rfl ?_
            refine V2_iload_n (i := 1) d_Rows_canBeBetter_106 rfl rfl ?_
            refine V2_callV [.int (2 : Int32)] d_Rows_canBeBetter_107 rfl rfl lk_Rows_132 mo_Rows_keep (by decide) rfl rfl rfl (Nat.le_of_ble_eq_true rfl) (Nat.le_of_ble_eq_true rfl) ?_
            refine V2.to (l' := [some (.ref 36), some (.int (2 : Int32)), none]) ?_ rfl rfl rfl rfl
            refine V2_iconst (v := 0) d_Rows_keep_0 rfl ?_
            refine V2_istore_n (i := 2) (l' := [some (.ref 36), some (.int (2 : Int32)), some (.int (0 : Int32))]) d_Rows_keep_1 rfl (xst_i (Nat.le_of_ble_eq_true rfl) rfl rfl) ?_
            refine V2_iload_n (i := 2) d_Rows_keep_2 rfl rfl ?_
            refine V2_aload_n (i := 0) d_Rows_keep_3 rfl rfl ?_
            refine V2_getr (a := 40) d_Rows_keep_4 fl_Rows_26 (by decide) rfl (by decide) rfl ?_
            refine V2_alen (t := 0) (v := 4) d_Rows_keep_7 (by decide) rfl (by decide) rfl ?_
            refine V2_icmp_ge (tgt := 47) d_Rows_keep_8 rfl (fun c => (by first | exact absurd c (by decide) | exact absurd (by decide) c)) (fun _ => ?_)
            refine V2_iload_n (i := 2) d_Rows_keep_11 rfl rfl ?_
            refine V2_aload_n (i := 0) d_Rows_keep_12 rfl rfl ?_
            refine V2_getr (a := 41) d_Rows_keep_13 fl_Rows_30 (by decide) rfl (by decide) rfl ?_
            refine V2_alen (t := 0) (v := 4) d_Rows_keep_16 (by decide) rfl (by decide) rfl ?_
            refine V2_icmp_ge (tgt := 47) d_Rows_keep_17 rfl (fun c => (by first | exact absurd c (by decide) | exact absurd (by decide) c)) (fun _ => ?_)
            refine V2_aload_n (i := 0) d_Rows_keep_20 rfl rfl ?_
            refine V2_getr (a := 41) d_Rows_keep_21 fl_Rows_30 (by decide) rfl (by decide) rfl ?_
            refine V2_iload_n (i := 2) d_Rows_keep_24 rfl rfl ?_
            refine V2_iload_n (i := 2) d_Rows_keep_25 rfl rfl ?_
            refine V2_iload_n (i := 1) d_Rows_keep_26 rfl rfl ?_
            refine V2_icmp_gt (tgt := 39) d_Rows_keep_27 rfl (fun c => (by first | exact absurd c (by decide) | exact absurd (by decide) c)) (fun _ => ?_)
            refine V2_aload_n (i := 0) d_Rows_keep_30 rfl rfl ?_
            refine V2_getr (a := 40) d_Rows_keep_31 fl_Rows_26 (by decide) rfl (by decide) rfl ?_
            refine V2_iload_n (i := 2) d_Rows_keep_34 rfl rfl ?_
            refine V2_iaload (v := G 40 0) d_Rows_keep_35 (by decide) rfl (xixA (n := 0) rfl (by decide) (by decide)) rfl ?_
            refine V2_topi (fun v25 ev25 => ?_)
            refine V2_goto (tgt := 40) d_Rows_keep_36 rfl ?_
            refine V2_iastore (j := 0) d_Rows_keep_40 (by decide) rfl (xixA (n := 0) rfl (by decide) (by decide)) rfl ?_
            refine V2_iinc (i := 2) (v := 1) (l' := [some (.ref 36), some (.int (2 : Int32)), some (.int (1 : Int32))]) d_Rows_keep_41 rfl (by decide) (xst_i (Nat.le_of_ble_eq_true rfl) rfl rfl) ?_
            refine V2_goto (tgt := 2) d_Rows_keep_44 rfl ?_
            refine V2_iload_n (i := 2) d_Rows_keep_2 rfl rfl ?_
            refine V2_aload_n (i := 0) d_Rows_keep_3 rfl rfl ?_
            refine V2_getr (a := 40) d_Rows_keep_4 fl_Rows_26 (by decide) rfl (by decide) rfl ?_
            refine V2_alen (t := 0) (v := 4) d_Rows_keep_7 (by decide) rfl (by decide) rfl ?_
            refine V2_icmp_ge (tgt := 47) d_Rows_keep_8 rfl (fun c => (by first | exact absurd c (by decide) | exact absurd (by decide) c)) (fun _ => ?_)
            refine V2_iload_n (i := 2) d_Rows_keep_11 rfl rfl ?_
            refine V2_aload_n (i := 0) d_Rows_keep_12 rfl rfl ?_
            refine V2_getr (a := 41) d_Rows_keep_13 fl_Rows_30 (by decide) rfl (by decide) rfl ?_
            refine V2_alen (t := 0) (v := 4) d_Rows_keep_16 (by decide) rfl (by decide) rfl ?_
            refine V2_icmp_ge (tgt := 47) d_Rows_keep_17 rfl (fun c => (by first | exact absurd c (by decide) | exact absurd (by decide) c)) (fun _ => ?_)
            refine V2_aload_n (i := 0) d_Rows_keep_20 rfl rfl ?_
            refine V2_getr (a := 41) d_Rows_keep_21 fl_Rows_30 (by decide) rfl (by decide) rfl ?_
            refine V2_iload_n (i := 2) d_Rows_keep_24 rfl rfl ?_
            refine V2_iload_n (i := 2) d_Rows_keep_25 rfl rfl ?_
            refine V2_iload_n (i := 1) d_Rows_keep_26 rfl rfl ?_
            refine V2_icmp_gt (tgt := 39) d_Rows_keep_27 rfl (fun c => (by first | exact absurd c (by decide) | exact absurd (by decide) c)) (fun _ => ?_)
            refine V2_aload_n (i := 0) d_Rows_keep_30 rfl rfl ?_
            refine V2_getr (a := 40) d_Rows_keep_31 fl_Rows_26 (by decide) rfl (by decide) rfl ?_
            refine V2_iload_n (i := 2) d_Rows_keep_34 rfl rfl ?_
            refine V2_iaload (v := G 40 1) d_Rows_keep_35 (by decide) rfl (xixA (n := 1) rfl (by decide) (by decide)) rfl ?_
            refine V2_topi (fun v27 ev27 => ?_)
            refine V2_goto (tgt := 40) d_Rows_keep_36 rfl ?_
            refine V2_iastore (j := 1) d_Rows_keep_40 (by decide) rfl (xixA (n := 1) rfl (by decide) (by decide)) rfl ?_
            refine V2_iinc (i := 2) (v := 2) (l' := [some (.ref 36), some (.int (2 : Int32)), some (.int (2 : Int32))]) d_Rows_keep_41 rfl (by decide) (xst_i (Nat.le_of_ble_eq_true rfl) rfl rfl) ?_
            refine V2_goto (tgt := 2) d_Rows_keep_44 rfl ?_
            refine V2_iload_n (i := 2) d_Rows_keep_2 rfl rfl ?_
            refine V2_aload_n (i := 0) d_Rows_keep_3 rfl rfl ?_
            refine V2_getr (a := 40) d_Rows_keep_4 fl_Rows_26 (by decide) rfl (by decide) rfl ?_
            refine V2_alen (t := 0) (v := 4) d_Rows_keep_7 (by decide) rfl (by decide) rfl ?_
            refine V2_icmp_ge (tgt := 47) d_Rows_keep_8 rfl (fun c => (by first | exact absurd c (by decide) | exact absurd (by decide) c)) (fun _ => ?_)
            refine V2_iload_n (i := 2) d_Rows_keep_11 rfl rfl ?_
            refine V2_aload_n (i := 0) d_Rows_keep_12 rfl rfl ?_
            refine V2_getr (a := 41) d_Rows_keep_13 fl_Rows_30 (by decide) rfl (by decide) rfl ?_
            refine V2_alen (t := 0) (v := 4) d_Rows_keep_16 (by decide) rfl (by decide) rfl ?_
            refine V2_icmp_ge (tgt := 47) d_Rows_keep_17 rfl (fun c => (by first | exact absurd c (by decide) | exact absurd (by decide) c)) (fun _ => ?_)
            refine V2_aload_n (i := 0) d_Rows_keep_20 rfl rfl ?_
            refine V2_getr (a := 41) d_Rows_keep_21 fl_Rows_30 (by decide) rfl (by decide) rfl ?_
            refine V2_iload_n (i := 2) d_Rows_keep_24 rfl rfl ?_
            refine V2_iload_n (i := 2) d_Rows_keep_25 rfl rfl ?_
            refine V2_iload_n (i := 1) d_Rows_keep_26 rfl rfl ?_
            refine V2_icmp_gt (tgt := 39) d_Rows_keep_27 rfl (fun c => (by first | exact absurd c (by decide) | exact absurd (by decide) c)) (fun _ => ?_)
            refine V2_aload_n (i := 0) d_Rows_keep_30 rfl rfl ?_
            refine V2_getr (a := 40) d_Rows_keep_31 fl_Rows_26 (by decide) rfl (by decide) rfl ?_
            refine V2_iload_n (i := 2) d_Rows_keep_34 rfl rfl ?_
            refine V2_iaload (v := G 40 2) d_Rows_keep_35 (by decide) rfl (xixA (n := 2) rfl (by decide) (by decide)) rfl ?_
            refine V2_topi (fun v29 ev29 => ?_)
            refine V2_goto (tgt := 40) d_Rows_keep_36 rfl ?_
            refine V2_iastore (j := 2) d_Rows_keep_40 (by decide) rfl (xixA (n := 2) rfl (by decide) (by decide)) rfl ?_
            refine V2_iinc (i := 2) (v := 3) (l' := [some (.ref 36), some (.int (2 : Int32)), some (.int (3 : Int32))]) d_Rows_keep_41 rfl (by decide) (xst_i (Nat.le_of_ble_eq_true rfl) rfl rfl) ?_
            refine V2_goto (tgt := 2) d_Rows_keep_44 rfl ?_
            refine V2_iload_n (i := 2) d_Rows_keep_2 rfl rfl ?_
            refine V2_aload_n (i := 0) d_Rows_keep_3 rfl rfl ?_
            refine V2_getr (a := 40) d_Rows_keep_4 fl_Rows_26 (by decide) rfl (by decide) rfl ?_
            refine V2_alen (t := 0) (v := 4) d_Rows_keep_7 (by decide) rfl (by decide) rfl ?_
            refine V2_icmp_ge (tgt := 47) d_Rows_keep_8 rfl (fun c => (by first | exact absurd c (by decide) | exact absurd (by decide) c)) (fun _ => ?_)
            refine V2_iload_n (i := 2) d_Rows_keep_11 rfl rfl ?_
            refine V2_aload_n (i := 0) d_Rows_keep_12 rfl rfl ?_
            refine V2_getr (a := 41) d_Rows_keep_13 fl_Rows_30 (by decide) rfl (by decide) rfl ?_
            refine V2_alen (t := 0) (v := 4) d_Rows_keep_16 (by decide) rfl (by decide) rfl ?_
            refine V2_icmp_ge (tgt := 47) d_Rows_keep_17 rfl (fun c => (by first | exact absurd c (by decide) | exact absurd (by decide) c)) (fun _ => ?_)
            refine V2_aload_n (i := 0) d_Rows_keep_20 rfl rfl ?_
            refine V2_getr (a := 41) d_Rows_keep_21 fl_Rows_30 (by decide) rfl (by decide) rfl ?_
            refine V2_iload_n (i := 2) d_Rows_keep_24 rfl rfl ?_
            refine V2_iload_n (i := 2) d_Rows_keep_25 rfl rfl ?_
            refine V2_iload_n (i := 1) d_Rows_keep_26 rfl rfl ?_
            refine V2_icmp_gt (tgt := 39) d_Rows_keep_27 rfl (fun _ => ?_) (fun c => (by first | exact absurd c (by decide) | exact absurd (by decide) c))
            refine V2_iconst (v := 0) d_Rows_keep_39 rfl ?_
            refine V2_iastore (j := 3) d_Rows_keep_40 (by decide) rfl (xixA (n := 3) rfl (by decide) (by decide)) rfl ?_
            refine V2_iinc (i := 2) (v := 4) (l' := [some (.ref 36), some (.int (2 : Int32)), some (.int (4 : Int32))]) d_Rows_keep_41 rfl (by decide) (xst_i (Nat.le_of_ble_eq_true rfl) rfl rfl) ?_
            refine V2_goto (tgt := 2) d_Rows_keep_44 rfl ?_
            refine V2_iload_n (i := 2) d_Rows_keep_2 rfl rfl ?_
            refine V2_aload_n (i := 0) d_Rows_keep_3 rfl rfl ?_
            refine V2_getr (a := 40) d_Rows_keep_4 fl_Rows_26 (by decide) rfl (by decide) rfl ?_
            refine V2_alen (t := 0) (v := 4) d_Rows_keep_7 (by decide) rfl (by decide) rfl ?_
            refine V2_icmp_ge (tgt := 47) d_Rows_keep_8 rfl (fun _ => ?_) (fun c => (by first | exact absurd c (by decide) | exact absurd (by decide) c))
            refine V2_return d_Rows_keep_47 rfl ?_
            refine V2.to (st' := []) ?_ rfl rfl rfl rfl
            refine V2_iload_n (i := 3) d_Rows_canBeBetter_110 rfl rfl ?_
            refine V2_iconst (v := 1) d_Rows_canBeBetter_111 rfl ?_
            refine V2_iadd d_Rows_canBeBetter_112 ?_
            refine V2_lit (v := 4) (by decide) ?_
            refine V2_aload_n (i := 0) d_Rows_canBeBetter_113 rfl rfl ?_
            refine V2_get (v := G 36 6) d_Rows_canBeBetter_114 fl_Rows_40 (by decide) rfl (by decide) rfl rfl ?_
            refine V2_topi (fun v32 ev32 => ?_)
            refine V2_icmp_ge (tgt := 124) d_Rows_canBeBetter_117 rfl (fun c33 => ?_) (fun c33 => ?_)
            · refine V2_iconst (v := 0) d_Rows_canBeBetter_124 rfl ?_
              refine V2_zreturn d_Rows_canBeBetter_125 rfl (by decide) ?_
              refine V2.to (st' := [.int (0 : Int32)]) ?_ rfl rfl rfl rfl
              refine V2_zreturn d_Rows_goesOn_52 rfl (by decide) ?_
              have hB1 : B ≤ n := hR.1
              have hf : (B = 0 ∧ (G 36 6).toInt = (n : Int) + 1) ∨ (0 < B ∧ (G 36 6).toInt = (B : Int)) := by
                rcases hR.2.1 with ⟨h1, h2⟩ | ⟨h1, h2⟩
                · exact Or.inl ⟨h1, by rw [h2, nI_toInt (by omega)]; omega⟩
                · exact Or.inr ⟨h1, by rw [h2, nI_toInt (by have := hR.1; omega)]⟩
              have hov : (bst.toInt = -1 ∧ B = 0 ∧ (G 36 7).toInt = -1000) ∨ (¬ bst.toInt = -1 ∧ (G 36 7).toInt = hi.toInt) := by
                rcases hR.2.2 with ⟨h1, h2, h3⟩ | ⟨h1, h3, _⟩
                · exact Or.inl ⟨h1, h2, by rw [h3]; decide⟩
                · exact Or.inr ⟨h1, by rw [h3]⟩
              have sA : (T 2 - T 0).toInt = (T 2).toInt - (T 0).toInt := toI_sub (by omega) (by omega) (by omega) (by omega)
              have e2 : G 45 2 = T 2 := hx.2.2.2.2.2.1.2.2.1
              have e0 : G 45 0 = T 0 := hx.2.2.2.2.2.1.1
              have el : G 36 5 = nI n := hx.2.2.1
              have sA2 : (G 45 2 - G 45 0).toInt = (T 2).toInt - (T 0).toInt := by rw [e2, e0]; exact sA
              have nl : (G 36 5).toInt = (n : Int) := by rw [el]; exact nI_toInt (by omega)
              have h5 : ¬ T 5 = 1 := by
                intro h
                have h9 := c7
                subst ev32 ev29 ev27 ev25 ev21 ev17 ev16 ev12 ev8 ev6 ev5 ev4 ev3 ev1
                rw [hx.2.2.2.2.2.1.2.2.2.2.2.2.2, h] at h9
                exact absurd h9 (by decide)
              have hln : n = 2 + 1 := (by (try clear hQ); (try subst ev32 ev29 ev27 ev25 ev21 ev17 ev16 ev12 ev8 ev6 ev5 ev4 ev3 ev1); ((try simp only [xb_eq, xb_ne, Int32.lt_iff_toInt_lt, Int32.le_iff_toInt_le] at *) <;> (try simp only [← Int32.toInt_inj, true_and, false_and, or_false, false_or, or_true, true_or, and_true, and_false] at *) <;> omega))
              subst hln
              have e1 := hx.2.2.2.2.2.2.2.2 0 (Nat.pow_pos (by decide))
              rw [Nat.sub_self, Nat.pow_zero, Nat.mul_one, Nat.add_zero pre, tr_0 h5] at e1
              have hab : abR ((none : Option Nat).map (fun j => j + (2 + 1)), T) = T 2 - T 0 := rfl
              have hB0 : B = 0 := (by (try clear hQ); (try subst ev32 ev29 ev27 ev25 ev21 ev17 ev16 ev12 ev8 ev6 ev5 ev4 ev3 ev1); ((try simp only [xb_eq, xb_ne, Int32.lt_iff_toInt_lt, Int32.le_iff_toInt_le] at *) <;> (try simp only [← Int32.toInt_inj, true_and, false_and, or_false, false_or, or_true, true_or, and_true, and_false] at *) <;> omega))
              have hhi : bst.toInt = -1 ∨ hi.toInt < (T 2 - T 0).toInt := (by (try clear hQ); (try subst ev32 ev29 ev27 ev25 ev21 ev17 ev16 ev12 ev8 ev6 ev5 ev4 ev3 ev1); ((try simp only [xb_eq, xb_ne, Int32.lt_iff_toInt_lt, Int32.le_iff_toInt_le] at *) <;> (try simp only [← Int32.toInt_inj, true_and, false_and, or_false, false_or, or_true, true_or, and_true, and_false] at *) <;> omega))
              have hp4 := pow4 hn
              have hx4 : pre < 10 ^ (2 + 1) := hx.2.2.2.2.1
              subst ev32 ev29 ev27 ev25 ev21 ev17 ev16 ev12 ev8 ev6 ev5 ev4 ev3 ev1
              refine hQ _ 0 ⟨fun a h1 h2 => ?_, rfl, rfl⟩ (Or.inr ⟨Or.inl rfl, ?_⟩)
              · repeat (first | rw [xp_row_ne h1] | rw [xp_row_ne h2])
                try rfl
              · rw [Nat.sub_self, Nat.pow_zero, Nat.mul_one, blk_1, pP_t e1 (show _ ∨ _ from ?_)]
                · refine ⟨Nat.zero_le _, Or.inl ⟨rfl, ?_⟩, Or.inr ⟨nI_nn1 (by omega), ?_, pre, rfl, hx.2.2.2.2.1, fun i hi9 => ?_⟩⟩
                  · rcases hR.2.1 with ⟨_, h2⟩ | ⟨h1, _⟩
                    · exact h2
                    · exact absurd hB0 (Nat.ne_of_gt h1)
                  · show _ = T 2 - T 0
                    rw [← e2, ← e0]
                    rfl
                  rcases (show i = 0 ∨ i = 1 ∨ i = 2 by omega) with h9 | h9 | h9
                  · subst h9
                    exact hx.2.2.2.1 0 (by omega)
                  · subst h9
                    exact hx.2.2.2.1 1 (by omega)
                  · subst h9
                    exact hx.2.2.2.1 2 (by omega)
                · show bst.toInt = -1 ∨ (0 < 0 ∧ _) ∨ (0 = 0 ∧ B = 0 ∧ hi.toInt < (T 2 - T 0).toInt)
                  omega
            · refine V2_iconst (v := 1) d_Rows_canBeBetter_120 rfl ?_
              refine V2_goto (tgt := 125) d_Rows_canBeBetter_121 rfl ?_
              refine V2_zreturn d_Rows_canBeBetter_125 rfl (by decide) ?_
              refine V2.to (st' := [.int (1 : Int32)]) ?_ rfl rfl rfl rfl
              refine V2_zreturn d_Rows_goesOn_52 rfl (by decide) ?_
              have hB1 : B ≤ n := hR.1
              have hf : (B = 0 ∧ (G 36 6).toInt = (n : Int) + 1) ∨ (0 < B ∧ (G 36 6).toInt = (B : Int)) := by
                rcases hR.2.1 with ⟨h1, h2⟩ | ⟨h1, h2⟩
                · exact Or.inl ⟨h1, by rw [h2, nI_toInt (by omega)]; omega⟩
                · exact Or.inr ⟨h1, by rw [h2, nI_toInt (by have := hR.1; omega)]⟩
              have hov : (bst.toInt = -1 ∧ B = 0 ∧ (G 36 7).toInt = -1000) ∨ (¬ bst.toInt = -1 ∧ (G 36 7).toInt = hi.toInt) := by
                rcases hR.2.2 with ⟨h1, h2, h3⟩ | ⟨h1, h3, _⟩
                · exact Or.inl ⟨h1, h2, by rw [h3]; decide⟩
                · exact Or.inr ⟨h1, by rw [h3]⟩
              have sA : (T 2 - T 0).toInt = (T 2).toInt - (T 0).toInt := toI_sub (by omega) (by omega) (by omega) (by omega)
              have e2 : G 45 2 = T 2 := hx.2.2.2.2.2.1.2.2.1
              have e0 : G 45 0 = T 0 := hx.2.2.2.2.2.1.1
              have el : G 36 5 = nI n := hx.2.2.1
              have sA2 : (G 45 2 - G 45 0).toInt = (T 2).toInt - (T 0).toInt := by rw [e2, e0]; exact sA
              have nl : (G 36 5).toInt = (n : Int) := by rw [el]; exact nI_toInt (by omega)
              have h5 : ¬ T 5 = 1 := by
                intro h
                have h9 := c7
                subst ev32 ev29 ev27 ev25 ev21 ev17 ev16 ev12 ev8 ev6 ev5 ev4 ev3 ev1
                rw [hx.2.2.2.2.2.1.2.2.2.2.2.2.2, h] at h9
                exact absurd h9 (by decide)
              exfalso
              exact (by (try clear hQ); (try subst ev32 ev29 ev27 ev25 ev21 ev17 ev16 ev12 ev8 ev6 ev5 ev4 ev3 ev1); ((try simp only [xb_eq, xb_ne, Int32.lt_iff_toInt_lt, Int32.le_iff_toInt_le] at *) <;> (try simp only [← Int32.toInt_inj, true_and, false_and, or_false, false_or, or_true, true_or, and_true, and_false] at *) <;> omega))
  · refine V2_iload_n (i := 3) d_Rows_canBeBetter_22 rfl rfl ?_
    refine V2_aload_n (i := 0) d_Rows_canBeBetter_23 rfl rfl ?_
    refine V2_get (v := G 36 6) d_Rows_canBeBetter_24 fl_Rows_40 (by decide) rfl (by decide) rfl rfl ?_
    refine V2_topi (fun v34 ev34 => ?_)
    refine V2_icmp_ge (tgt := 34) d_Rows_canBeBetter_27 rfl (fun c35 => ?_) (fun c35 => ?_)
    · refine V2_iconst (v := 0) d_Rows_canBeBetter_34 rfl ?_
      refine V2_istore (i := 5) (l' := [some (.ref 36), some (.int (2 : Int32)), some (.ref 45), some (.int (3 : Int32)), some (.int v5), some (.int (0 : Int32)), none]) d_Rows_canBeBetter_35 (xst_i (Nat.le_of_ble_eq_true rfl) rfl rfl) ?_
      refine V2_aload_n (i := 2) d_Rows_canBeBetter_37 rfl rfl ?_
      refine V2_get (v := G 45 7) d_Rows_canBeBetter_38 fl_Rows_80 (by decide) rfl (by decide) rfl rfl ?_
      refine V2_topi (fun v36 ev36 => ?_)
      refine V2_if_ne (tgt := 76) d_Rows_canBeBetter_41 rfl (fun c37 => ?_) (fun c37 => ?_)
      · refine V2_iconst (v := 0) d_Rows_canBeBetter_76 rfl ?_
        refine V2_istore (i := 6) (l' := [some (.ref 36), some (.int (2 : Int32)), some (.ref 45), some (.int (3 : Int32)), some (.int v5), some (.int (0 : Int32)), some (.int (0 : Int32))]) d_Rows_canBeBetter_77 (xst_i (Nat.le_of_ble_eq_true rfl) rfl rfl) ?_
        refine V2_iload (i := 5) d_Rows_canBeBetter_79 rfl ?_
        refine V2_if_eq (tgt := 89) d_Rows_canBeBetter_81 rfl (fun _ => ?_) (fun c => (by first | exact absurd c (by decide) | exact absurd (by decide) c))
        refine V2_iload (i := 5) d_Rows_canBeBetter_89 rfl ?_
        refine V2_if_ne (tgt := 99) d_Rows_canBeBetter_91 rfl (fun c => (by first | exact absurd c (by decide) | exact absurd (by decide) c)) (fun _ => ?_)
        refine V2_iload (i := 6) d_Rows_canBeBetter_94 rfl ?_
        refine V2_if_eq (tgt := 110) d_Rows_canBeBetter_96 rfl (fun _ => ?_) (fun c => (by first | exact absurd c (by decide) | exact absurd (by decide) c))
        refine V2_iload_n (i := 3) d_Rows_canBeBetter_110 rfl rfl ?_
        refine V2_iconst (v := 1) d_Rows_canBeBetter_111 rfl ?_
        refine V2_iadd d_Rows_canBeBetter_112 ?_
        refine V2_lit (v := 4) (by decide) ?_
        refine V2_aload_n (i := 0) d_Rows_canBeBetter_113 rfl rfl ?_
        refine V2_get (v := G 36 6) d_Rows_canBeBetter_114 fl_Rows_40 (by decide) rfl (by decide) rfl rfl ?_
        refine V2_topi (fun v38 ev38 => ?_)
        refine V2_icmp_ge (tgt := 124) d_Rows_canBeBetter_117 rfl (fun c39 => ?_) (fun c39 => ?_)
        · refine V2_iconst (v := 0) d_Rows_canBeBetter_124 rfl ?_
          refine V2_zreturn d_Rows_canBeBetter_125 rfl (by decide) ?_
          refine V2.to (st' := [.int (0 : Int32)]) ?_ rfl rfl rfl rfl
          refine V2_zreturn d_Rows_goesOn_52 rfl (by decide) ?_
          have hB1 : B ≤ n := hR.1
          have hf : (B = 0 ∧ (G 36 6).toInt = (n : Int) + 1) ∨ (0 < B ∧ (G 36 6).toInt = (B : Int)) := by
            rcases hR.2.1 with ⟨h1, h2⟩ | ⟨h1, h2⟩
            · exact Or.inl ⟨h1, by rw [h2, nI_toInt (by omega)]; omega⟩
            · exact Or.inr ⟨h1, by rw [h2, nI_toInt (by have := hR.1; omega)]⟩
          have hov : (bst.toInt = -1 ∧ B = 0 ∧ (G 36 7).toInt = -1000) ∨ (¬ bst.toInt = -1 ∧ (G 36 7).toInt = hi.toInt) := by
            rcases hR.2.2 with ⟨h1, h2, h3⟩ | ⟨h1, h3, _⟩
            · exact Or.inl ⟨h1, h2, by rw [h3]; decide⟩
            · exact Or.inr ⟨h1, by rw [h3]⟩
          have sA : (T 2 - T 0).toInt = (T 2).toInt - (T 0).toInt := toI_sub (by omega) (by omega) (by omega) (by omega)
          have e2 : G 45 2 = T 2 := hx.2.2.2.2.2.1.2.2.1
          have e0 : G 45 0 = T 0 := hx.2.2.2.2.2.1.1
          have el : G 36 5 = nI n := hx.2.2.1
          have sA2 : (G 45 2 - G 45 0).toInt = (T 2).toInt - (T 0).toInt := by rw [e2, e0]; exact sA
          have nl : (G 36 5).toInt = (n : Int) := by rw [el]; exact nI_toInt (by omega)
          have h5 : T 5 = 1 := by
            have h9 := c7
            subst ev38 ev36 ev34 ev6 ev5 ev4 ev3 ev1
            rw [hx.2.2.2.2.2.1.2.2.2.2.2.2.2] at h9
            exact hx.2.2.2.2.2.2.2.1.2.2.2.2.2.1.resolve_left h9
          have hrow : ∀ i, pre * 10 ^ (n - (2 + 1)) ≤ i → i < pre * 10 ^ (n - (2 + 1)) + 10 ^ (n - (2 + 1)) → trN (PN S) n i S = ((trN (PN S) (n - (2 + 1)) (i - pre * 10 ^ (n - (2 + 1))) T).1.map (fun j => j + (2 + 1)), (trN (PN S) (n - (2 + 1)) (i - pre * 10 ^ (n - (2 + 1))) T).2) := by
            intro i h1 h2
            have hs := hx.2.2.2.2.2.2.2.2 (i - pre * 10 ^ (n - (2 + 1))) (by omega)
            rw [show pre * 10 ^ (n - (2 + 1)) + (i - pre * 10 ^ (n - (2 + 1))) = i by omega] at hs
            exact hs
          have hlB : 0 < B ∧ B ≤ 2 + 1 := (by (try clear hQ); (try subst ev38 ev36 ev34 ev6 ev5 ev4 ev3 ev1); ((try simp only [xb_eq, xb_ne, Int32.lt_iff_toInt_lt, Int32.le_iff_toInt_le] at *) <;> (try simp only [← Int32.toInt_inj, true_and, false_and, or_false, false_or, or_true, true_or, and_true, and_false] at *) <;> omega))
          subst ev38 ev36 ev34 ev6 ev5 ev4 ev3 ev1
          refine hQ _ 0 ⟨fun a h1 h2 => ?_, rfl, rfl⟩ (Or.inr ⟨Or.inl rfl, ?_⟩)
          · rfl
          · rw [blk_id _ _ _ _ (fun i h1 h2 => ?_)]
            · exact hR
            · have e1 := hrow i h1 h2
              rw [tr_1 h5] at e1
              refine pP_f e1 ?_
              show ¬ (bst.toInt = -1 ∨ (0 < 0 + (2 + 1) ∧ (B = 0 ∨ 0 + (2 + 1) < B)) ∨ (0 + (2 + 1) = 0 ∧ _))
              omega
        · refine V2_iconst (v := 1) d_Rows_canBeBetter_120 rfl ?_
          refine V2_goto (tgt := 125) d_Rows_canBeBetter_121 rfl ?_
          refine V2_zreturn d_Rows_canBeBetter_125 rfl (by decide) ?_
          refine V2.to (st' := [.int (1 : Int32)]) ?_ rfl rfl rfl rfl
          refine V2_zreturn d_Rows_goesOn_52 rfl (by decide) ?_
          have hB1 : B ≤ n := hR.1
          have hf : (B = 0 ∧ (G 36 6).toInt = (n : Int) + 1) ∨ (0 < B ∧ (G 36 6).toInt = (B : Int)) := by
            rcases hR.2.1 with ⟨h1, h2⟩ | ⟨h1, h2⟩
            · exact Or.inl ⟨h1, by rw [h2, nI_toInt (by omega)]; omega⟩
            · exact Or.inr ⟨h1, by rw [h2, nI_toInt (by have := hR.1; omega)]⟩
          have hov : (bst.toInt = -1 ∧ B = 0 ∧ (G 36 7).toInt = -1000) ∨ (¬ bst.toInt = -1 ∧ (G 36 7).toInt = hi.toInt) := by
            rcases hR.2.2 with ⟨h1, h2, h3⟩ | ⟨h1, h3, _⟩
            · exact Or.inl ⟨h1, h2, by rw [h3]; decide⟩
            · exact Or.inr ⟨h1, by rw [h3]⟩
          have sA : (T 2 - T 0).toInt = (T 2).toInt - (T 0).toInt := toI_sub (by omega) (by omega) (by omega) (by omega)
          have e2 : G 45 2 = T 2 := hx.2.2.2.2.2.1.2.2.1
          have e0 : G 45 0 = T 0 := hx.2.2.2.2.2.1.1
          have el : G 36 5 = nI n := hx.2.2.1
          have sA2 : (G 45 2 - G 45 0).toInt = (T 2).toInt - (T 0).toInt := by rw [e2, e0]; exact sA
          have nl : (G 36 5).toInt = (n : Int) := by rw [el]; exact nI_toInt (by omega)
          have h5 : T 5 = 1 := by
            have h9 := c7
            subst ev38 ev36 ev34 ev6 ev5 ev4 ev3 ev1
            rw [hx.2.2.2.2.2.1.2.2.2.2.2.2.2] at h9
            exact hx.2.2.2.2.2.2.2.1.2.2.2.2.2.1.resolve_left h9
          exfalso
          exact (by (try clear hQ); (try subst ev38 ev36 ev34 ev6 ev5 ev4 ev3 ev1); ((try simp only [xb_eq, xb_ne, Int32.lt_iff_toInt_lt, Int32.le_iff_toInt_le] at *) <;> (try simp only [← Int32.toInt_inj, true_and, false_and, or_false, false_or, or_true, true_or, and_true, and_false] at *) <;> omega))
      · refine V2_iload_n (i := 3) d_Rows_canBeBetter_44 rfl rfl ?_
        refine V2_aload_n (i := 0) d_Rows_canBeBetter_45 rfl rfl ?_
        refine V2_get (v := G 36 5) d_Rows_canBeBetter_46 fl_Rows_37 (by decide) rfl (by decide) rfl rfl ?_
        refine V2_topi (fun v40 ev40 => ?_)
        refine V2_icmp_ne (tgt := 76) d_Rows_canBeBetter_49 rfl (fun c41 => ?_) (fun c41 => ?_)
        · refine V2_iconst (v := 0) d_Rows_canBeBetter_76 rfl ?_
          refine V2_istore (i := 6) (l' := [some (.ref 36), some (.int (2 : Int32)), some (.ref 45), some (.int (3 : Int32)), some (.int v5), some (.int (0 : Int32)), some (.int (0 : Int32))]) d_Rows_canBeBetter_77 (xst_i (Nat.le_of_ble_eq_true rfl) rfl rfl) ?_
          refine V2_iload (i := 5) d_Rows_canBeBetter_79 rfl ?_
          refine V2_if_eq (tgt := 89) d_Rows_canBeBetter_81 rfl (fun _ => ?_) (fun c => (by first | exact absurd c (by decide) | exact absurd (by decide) c))
          refine V2_iload (i := 5) d_Rows_canBeBetter_89 rfl ?_
          refine V2_if_ne (tgt := 99) d_Rows_canBeBetter_91 rfl (fun c => (by first | exact absurd c (by decide) | exact absurd (by decide) c)) (fun _ => ?_)
          refine V2_iload (i := 6) d_Rows_canBeBetter_94 rfl ?_
          refine V2_if_eq (tgt := 110) d_Rows_canBeBetter_96 rfl (fun _ => ?_) (fun c => (by first | exact absurd c (by decide) | exact absurd (by decide) c))
          refine V2_iload_n (i := 3) d_Rows_canBeBetter_110 rfl rfl ?_
          refine V2_iconst (v := 1) d_Rows_canBeBetter_111 rfl ?_
          refine V2_iadd d_Rows_canBeBetter_112 ?_
          refine V2_lit (v := 4) (by decide) ?_
          refine V2_aload_n (i := 0) d_Rows_canBeBetter_113 rfl rfl ?_
          refine V2_get (v := G 36 6) d_Rows_canBeBetter_114 fl_Rows_40 (by decide) rfl (by decide) rfl rfl ?_
          refine V2_topi (fun v42 ev42 => ?_)
          refine V2_icmp_ge (tgt := 124) d_Rows_canBeBetter_117 rfl (fun c43 => ?_) (fun c43 => ?_)
          · refine V2_iconst (v := 0) d_Rows_canBeBetter_124 rfl ?_
            refine V2_zreturn d_Rows_canBeBetter_125 rfl (by decide) ?_
            refine V2.to (st' := [.int (0 : Int32)]) ?_ rfl rfl rfl rfl
            refine V2_zreturn d_Rows_goesOn_52 rfl (by decide) ?_
            have hB1 : B ≤ n := hR.1
            have hf : (B = 0 ∧ (G 36 6).toInt = (n : Int) + 1) ∨ (0 < B ∧ (G 36 6).toInt = (B : Int)) := by
              rcases hR.2.1 with ⟨h1, h2⟩ | ⟨h1, h2⟩
              · exact Or.inl ⟨h1, by rw [h2, nI_toInt (by omega)]; omega⟩
              · exact Or.inr ⟨h1, by rw [h2, nI_toInt (by have := hR.1; omega)]⟩
            have hov : (bst.toInt = -1 ∧ B = 0 ∧ (G 36 7).toInt = -1000) ∨ (¬ bst.toInt = -1 ∧ (G 36 7).toInt = hi.toInt) := by
              rcases hR.2.2 with ⟨h1, h2, h3⟩ | ⟨h1, h3, _⟩
              · exact Or.inl ⟨h1, h2, by rw [h3]; decide⟩
              · exact Or.inr ⟨h1, by rw [h3]⟩
            have sA : (T 2 - T 0).toInt = (T 2).toInt - (T 0).toInt := toI_sub (by omega) (by omega) (by omega) (by omega)
            have e2 : G 45 2 = T 2 := hx.2.2.2.2.2.1.2.2.1
            have e0 : G 45 0 = T 0 := hx.2.2.2.2.2.1.1
            have el : G 36 5 = nI n := hx.2.2.1
            have sA2 : (G 45 2 - G 45 0).toInt = (T 2).toInt - (T 0).toInt := by rw [e2, e0]; exact sA
            have nl : (G 36 5).toInt = (n : Int) := by rw [el]; exact nI_toInt (by omega)
            have h5 : T 5 = 1 := by
              have h9 := c7
              subst ev42 ev40 ev36 ev34 ev6 ev5 ev4 ev3 ev1
              rw [hx.2.2.2.2.2.1.2.2.2.2.2.2.2] at h9
              exact hx.2.2.2.2.2.2.2.1.2.2.2.2.2.1.resolve_left h9
            exfalso
            exact (by (try clear hQ); (try subst ev42 ev40 ev36 ev34 ev6 ev5 ev4 ev3 ev1); ((try simp only [xb_eq, xb_ne, Int32.lt_iff_toInt_lt, Int32.le_iff_toInt_le] at *) <;> (try simp only [← Int32.toInt_inj, true_and, false_and, or_false, false_or, or_true, true_or, and_true, and_false] at *) <;> omega))
          · refine V2_iconst (v := 1) d_Rows_canBeBetter_120 rfl ?_
            refine V2_goto (tgt := 125) d_Rows_canBeBetter_121 rfl ?_
            refine V2_zreturn d_Rows_canBeBetter_125 rfl (by decide) ?_
            refine V2.to (st' := [.int (1 : Int32)]) ?_ rfl rfl rfl rfl
            refine V2_zreturn d_Rows_goesOn_52 rfl (by decide) ?_
            have hB1 : B ≤ n := hR.1
            have hf : (B = 0 ∧ (G 36 6).toInt = (n : Int) + 1) ∨ (0 < B ∧ (G 36 6).toInt = (B : Int)) := by
              rcases hR.2.1 with ⟨h1, h2⟩ | ⟨h1, h2⟩
              · exact Or.inl ⟨h1, by rw [h2, nI_toInt (by omega)]; omega⟩
              · exact Or.inr ⟨h1, by rw [h2, nI_toInt (by have := hR.1; omega)]⟩
            have hov : (bst.toInt = -1 ∧ B = 0 ∧ (G 36 7).toInt = -1000) ∨ (¬ bst.toInt = -1 ∧ (G 36 7).toInt = hi.toInt) := by
              rcases hR.2.2 with ⟨h1, h2, h3⟩ | ⟨h1, h3, _⟩
              · exact Or.inl ⟨h1, h2, by rw [h3]; decide⟩
              · exact Or.inr ⟨h1, by rw [h3]⟩
            have sA : (T 2 - T 0).toInt = (T 2).toInt - (T 0).toInt := toI_sub (by omega) (by omega) (by omega) (by omega)
            have e2 : G 45 2 = T 2 := hx.2.2.2.2.2.1.2.2.1
            have e0 : G 45 0 = T 0 := hx.2.2.2.2.2.1.1
            have el : G 36 5 = nI n := hx.2.2.1
            have sA2 : (G 45 2 - G 45 0).toInt = (T 2).toInt - (T 0).toInt := by rw [e2, e0]; exact sA
            have nl : (G 36 5).toInt = (n : Int) := by rw [el]; exact nI_toInt (by omega)
            have h5 : T 5 = 1 := by
              have h9 := c7
              subst ev42 ev40 ev36 ev34 ev6 ev5 ev4 ev3 ev1
              rw [hx.2.2.2.2.2.1.2.2.2.2.2.2.2] at h9
              exact hx.2.2.2.2.2.2.2.1.2.2.2.2.2.1.resolve_left h9
            exfalso
            exact (by (try clear hQ); (try subst ev42 ev40 ev36 ev34 ev6 ev5 ev4 ev3 ev1); ((try simp only [xb_eq, xb_ne, Int32.lt_iff_toInt_lt, Int32.le_iff_toInt_le] at *) <;> (try simp only [← Int32.toInt_inj, true_and, false_and, or_false, false_or, or_true, true_or, and_true, and_false] at *) <;> omega))
        · refine V2_aload_n (i := 0) d_Rows_canBeBetter_52 rfl rfl ?_
          refine V2_get (v := G 36 6) d_Rows_canBeBetter_53 fl_Rows_40 (by decide) rfl (by decide) rfl rfl ?_
          refine V2_topi (fun v44 ev44 => ?_)
          refine V2_aload_n (i := 0) d_Rows_canBeBetter_56 rfl rfl ?_
          refine V2_get (v := G 36 5) d_Rows_canBeBetter_57 fl_Rows_37 (by decide) rfl (by decide) rfl rfl ?_
          refine V2_topi (fun v45 ev45 => ?_)
          refine V2_icmp_le (tgt := 76) d_Rows_canBeBetter_60 rfl (fun c46 => ?_) (fun c46 => ?_)
          · refine V2_iconst (v := 0) d_Rows_canBeBetter_76 rfl ?_
            refine V2_istore (i := 6) (l' := [some (.ref 36), some (.int (2 : Int32)), some (.ref 45), some (.int (3 : Int32)), some (.int v5), some (.int (0 : Int32)), some (.int (0 : Int32))]) d_Rows_canBeBetter_77 (xst_i (Nat.le_of_ble_eq_true rfl) rfl rfl) ?_
            refine V2_iload (i := 5) d_Rows_canBeBetter_79 rfl ?_
            refine V2_if_eq (tgt := 89) d_Rows_canBeBetter_81 rfl (fun _ => ?_) (fun c => (by first | exact absurd c (by decide) | exact absurd (by decide) c))
            refine V2_iload (i := 5) d_Rows_canBeBetter_89 rfl ?_
            refine V2_if_ne (tgt := 99) d_Rows_canBeBetter_91 rfl (fun c => (by first | exact absurd c (by decide) | exact absurd (by decide) c)) (fun _ => ?_)
            refine V2_iload (i := 6) d_Rows_canBeBetter_94 rfl ?_
            refine V2_if_eq (tgt := 110) d_Rows_canBeBetter_96 rfl (fun _ => ?_) (fun c => (by first | exact absurd c (by decide) | exact absurd (by decide) c))
            refine V2_iload_n (i := 3) d_Rows_canBeBetter_110 rfl rfl ?_
            refine V2_iconst (v := 1) d_Rows_canBeBetter_111 rfl ?_
            refine V2_iadd d_Rows_canBeBetter_112 ?_
            refine V2_lit (v := 4) (by decide) ?_
            refine V2_aload_n (i := 0) d_Rows_canBeBetter_113 rfl rfl ?_
            refine V2_get (v := G 36 6) d_Rows_canBeBetter_114 fl_Rows_40 (by decide) rfl (by decide) rfl rfl ?_
            refine V2_topi (fun v47 ev47 => ?_)
            refine V2_icmp_ge (tgt := 124) d_Rows_canBeBetter_117 rfl (fun c48 => ?_) (fun c48 => ?_)
            · refine V2_iconst (v := 0) d_Rows_canBeBetter_124 rfl ?_
              refine V2_zreturn d_Rows_canBeBetter_125 rfl (by decide) ?_
              refine V2.to (st' := [.int (0 : Int32)]) ?_ rfl rfl rfl rfl
              refine V2_zreturn d_Rows_goesOn_52 rfl (by decide) ?_
              have hB1 : B ≤ n := hR.1
              have hf : (B = 0 ∧ (G 36 6).toInt = (n : Int) + 1) ∨ (0 < B ∧ (G 36 6).toInt = (B : Int)) := by
                rcases hR.2.1 with ⟨h1, h2⟩ | ⟨h1, h2⟩
                · exact Or.inl ⟨h1, by rw [h2, nI_toInt (by omega)]; omega⟩
                · exact Or.inr ⟨h1, by rw [h2, nI_toInt (by have := hR.1; omega)]⟩
              have hov : (bst.toInt = -1 ∧ B = 0 ∧ (G 36 7).toInt = -1000) ∨ (¬ bst.toInt = -1 ∧ (G 36 7).toInt = hi.toInt) := by
                rcases hR.2.2 with ⟨h1, h2, h3⟩ | ⟨h1, h3, _⟩
                · exact Or.inl ⟨h1, h2, by rw [h3]; decide⟩
                · exact Or.inr ⟨h1, by rw [h3]⟩
              have sA : (T 2 - T 0).toInt = (T 2).toInt - (T 0).toInt := toI_sub (by omega) (by omega) (by omega) (by omega)
              have e2 : G 45 2 = T 2 := hx.2.2.2.2.2.1.2.2.1
              have e0 : G 45 0 = T 0 := hx.2.2.2.2.2.1.1
              have el : G 36 5 = nI n := hx.2.2.1
              have sA2 : (G 45 2 - G 45 0).toInt = (T 2).toInt - (T 0).toInt := by rw [e2, e0]; exact sA
              have nl : (G 36 5).toInt = (n : Int) := by rw [el]; exact nI_toInt (by omega)
              have h5 : T 5 = 1 := by
                have h9 := c7
                subst ev47 ev45 ev44 ev40 ev36 ev34 ev6 ev5 ev4 ev3 ev1
                rw [hx.2.2.2.2.2.1.2.2.2.2.2.2.2] at h9
                exact hx.2.2.2.2.2.2.2.1.2.2.2.2.2.1.resolve_left h9
              exfalso
              exact (by (try clear hQ); (try subst ev47 ev45 ev44 ev40 ev36 ev34 ev6 ev5 ev4 ev3 ev1); ((try simp only [xb_eq, xb_ne, Int32.lt_iff_toInt_lt, Int32.le_iff_toInt_le] at *) <;> (try simp only [← Int32.toInt_inj, true_and, false_and, or_false, false_or, or_true, true_or, and_true, and_false] at *) <;> omega))
            · refine V2_iconst (v := 1) d_Rows_canBeBetter_120 rfl ?_
              refine V2_goto (tgt := 125) d_Rows_canBeBetter_121 rfl ?_
              refine V2_zreturn d_Rows_canBeBetter_125 rfl (by decide) ?_
              refine V2.to (st' := [.int (1 : Int32)]) ?_ rfl rfl rfl rfl
              refine V2_zreturn d_Rows_goesOn_52 rfl (by decide) ?_
              have hB1 : B ≤ n := hR.1
              have hf : (B = 0 ∧ (G 36 6).toInt = (n : Int) + 1) ∨ (0 < B ∧ (G 36 6).toInt = (B : Int)) := by
                rcases hR.2.1 with ⟨h1, h2⟩ | ⟨h1, h2⟩
                · exact Or.inl ⟨h1, by rw [h2, nI_toInt (by omega)]; omega⟩
                · exact Or.inr ⟨h1, by rw [h2, nI_toInt (by have := hR.1; omega)]⟩
              have hov : (bst.toInt = -1 ∧ B = 0 ∧ (G 36 7).toInt = -1000) ∨ (¬ bst.toInt = -1 ∧ (G 36 7).toInt = hi.toInt) := by
                rcases hR.2.2 with ⟨h1, h2, h3⟩ | ⟨h1, h3, _⟩
                · exact Or.inl ⟨h1, h2, by rw [h3]; decide⟩
                · exact Or.inr ⟨h1, by rw [h3]⟩
              have sA : (T 2 - T 0).toInt = (T 2).toInt - (T 0).toInt := toI_sub (by omega) (by omega) (by omega) (by omega)
              have e2 : G 45 2 = T 2 := hx.2.2.2.2.2.1.2.2.1
              have e0 : G 45 0 = T 0 := hx.2.2.2.2.2.1.1
              have el : G 36 5 = nI n := hx.2.2.1
              have sA2 : (G 45 2 - G 45 0).toInt = (T 2).toInt - (T 0).toInt := by rw [e2, e0]; exact sA
              have nl : (G 36 5).toInt = (n : Int) := by rw [el]; exact nI_toInt (by omega)
              have h5 : T 5 = 1 := by
                have h9 := c7
                subst ev47 ev45 ev44 ev40 ev36 ev34 ev6 ev5 ev4 ev3 ev1
                rw [hx.2.2.2.2.2.1.2.2.2.2.2.2.2] at h9
                exact hx.2.2.2.2.2.2.2.1.2.2.2.2.2.1.resolve_left h9
              exfalso
              exact (by (try clear hQ); (try subst ev47 ev45 ev44 ev40 ev36 ev34 ev6 ev5 ev4 ev3 ev1); ((try simp only [xb_eq, xb_ne, Int32.lt_iff_toInt_lt, Int32.le_iff_toInt_le] at *) <;> (try simp only [← Int32.toInt_inj, true_and, false_and, or_false, false_or, or_true, true_or, and_true, and_false] at *) <;> omega))
          · refine V2_iload (i := 4) d_Rows_canBeBetter_63 rfl ?_
            refine V2_aload_n (i := 0) d_Rows_canBeBetter_65 rfl rfl ?_
            refine V2_get (v := G 36 7) d_Rows_canBeBetter_66 fl_Rows_43 (by decide) rfl (by decide) rfl rfl ?_
            refine V2_topi (fun v49 ev49 => ?_)
            refine V2_icmp_le (tgt := 76) d_Rows_canBeBetter_69 rfl (fun c50 => ?_) (fun c50 => ?_)
            · refine V2_iconst (v := 0) d_Rows_canBeBetter_76 rfl ?_
              refine V2_istore (i := 6) (l' := [some (.ref 36), some (.int (2 : Int32)), some (.ref 45), some (.int (3 : Int32)), some (.int v5), some (.int (0 : Int32)), some (.int (0 : Int32))]) d_Rows_canBeBetter_77 (xst_i (Nat.le_of_ble_eq_true rfl) rfl rfl) ?_
              refine V2_iload (i := 5) d_Rows_canBeBetter_79 rfl ?_
              refine V2_if_eq (tgt := 89) d_Rows_canBeBetter_81 rfl (fun _ => ?_) (fun c => (by first | exact absurd c (by decide) | exact absurd (by decide) c))
              refine V2_iload (i := 5) d_Rows_canBeBetter_89 rfl ?_
              refine V2_if_ne (tgt := 99) d_Rows_canBeBetter_91 rfl (fun c => (by first | exact absurd c (by decide) | exact absurd (by decide) c)) (fun _ => ?_)
              refine V2_iload (i := 6) d_Rows_canBeBetter_94 rfl ?_
              refine V2_if_eq (tgt := 110) d_Rows_canBeBetter_96 rfl (fun _ => ?_) (fun c => (by first | exact absurd c (by decide) | exact absurd (by decide) c))
              refine V2_iload_n (i := 3) d_Rows_canBeBetter_110 rfl rfl ?_
              refine V2_iconst (v := 1) d_Rows_canBeBetter_111 rfl ?_
              refine V2_iadd d_Rows_canBeBetter_112 ?_
              refine V2_lit (v := 4) (by decide) ?_
              refine V2_aload_n (i := 0) d_Rows_canBeBetter_113 rfl rfl ?_
              refine V2_get (v := G 36 6) d_Rows_canBeBetter_114 fl_Rows_40 (by decide) rfl (by decide) rfl rfl ?_
              refine V2_topi (fun v51 ev51 => ?_)
              refine V2_icmp_ge (tgt := 124) d_Rows_canBeBetter_117 rfl (fun c52 => ?_) (fun c52 => ?_)
              · refine V2_iconst (v := 0) d_Rows_canBeBetter_124 rfl ?_
                refine V2_zreturn d_Rows_canBeBetter_125 rfl (by decide) ?_
                refine V2.to (st' := [.int (0 : Int32)]) ?_ rfl rfl rfl rfl
                refine V2_zreturn d_Rows_goesOn_52 rfl (by decide) ?_
                have hB1 : B ≤ n := hR.1
                have hf : (B = 0 ∧ (G 36 6).toInt = (n : Int) + 1) ∨ (0 < B ∧ (G 36 6).toInt = (B : Int)) := by
                  rcases hR.2.1 with ⟨h1, h2⟩ | ⟨h1, h2⟩
                  · exact Or.inl ⟨h1, by rw [h2, nI_toInt (by omega)]; omega⟩
                  · exact Or.inr ⟨h1, by rw [h2, nI_toInt (by have := hR.1; omega)]⟩
                have hov : (bst.toInt = -1 ∧ B = 0 ∧ (G 36 7).toInt = -1000) ∨ (¬ bst.toInt = -1 ∧ (G 36 7).toInt = hi.toInt) := by
                  rcases hR.2.2 with ⟨h1, h2, h3⟩ | ⟨h1, h3, _⟩
                  · exact Or.inl ⟨h1, h2, by rw [h3]; decide⟩
                  · exact Or.inr ⟨h1, by rw [h3]⟩
                have sA : (T 2 - T 0).toInt = (T 2).toInt - (T 0).toInt := toI_sub (by omega) (by omega) (by omega) (by omega)
                have e2 : G 45 2 = T 2 := hx.2.2.2.2.2.1.2.2.1
                have e0 : G 45 0 = T 0 := hx.2.2.2.2.2.1.1
                have el : G 36 5 = nI n := hx.2.2.1
                have sA2 : (G 45 2 - G 45 0).toInt = (T 2).toInt - (T 0).toInt := by rw [e2, e0]; exact sA
                have nl : (G 36 5).toInt = (n : Int) := by rw [el]; exact nI_toInt (by omega)
                have h5 : T 5 = 1 := by
                  have h9 := c7
                  subst ev51 ev49 ev45 ev44 ev40 ev36 ev34 ev6 ev5 ev4 ev3 ev1
                  rw [hx.2.2.2.2.2.1.2.2.2.2.2.2.2] at h9
                  exact hx.2.2.2.2.2.2.2.1.2.2.2.2.2.1.resolve_left h9
                exfalso
                exact (by (try clear hQ); (try subst ev51 ev49 ev45 ev44 ev40 ev36 ev34 ev6 ev5 ev4 ev3 ev1); ((try simp only [xb_eq, xb_ne, Int32.lt_iff_toInt_lt, Int32.le_iff_toInt_le] at *) <;> (try simp only [← Int32.toInt_inj, true_and, false_and, or_false, false_or, or_true, true_or, and_true, and_false] at *) <;> omega))
              · refine V2_iconst (v := 1) d_Rows_canBeBetter_120 rfl ?_
                refine V2_goto (tgt := 125) d_Rows_canBeBetter_121 rfl ?_
                refine V2_zreturn d_Rows_canBeBetter_125 rfl (by decide) ?_
                refine V2.to (st' := [.int (1 : Int32)]) ?_ rfl rfl rfl rfl
                refine V2_zreturn d_Rows_goesOn_52 rfl (by decide) ?_
                have hB1 : B ≤ n := hR.1
                have hf : (B = 0 ∧ (G 36 6).toInt = (n : Int) + 1) ∨ (0 < B ∧ (G 36 6).toInt = (B : Int)) := by
                  rcases hR.2.1 with ⟨h1, h2⟩ | ⟨h1, h2⟩
                  · exact Or.inl ⟨h1, by rw [h2, nI_toInt (by omega)]; omega⟩
                  · exact Or.inr ⟨h1, by rw [h2, nI_toInt (by have := hR.1; omega)]⟩
                have hov : (bst.toInt = -1 ∧ B = 0 ∧ (G 36 7).toInt = -1000) ∨ (¬ bst.toInt = -1 ∧ (G 36 7).toInt = hi.toInt) := by
                  rcases hR.2.2 with ⟨h1, h2, h3⟩ | ⟨h1, h3, _⟩
                  · exact Or.inl ⟨h1, h2, by rw [h3]; decide⟩
                  · exact Or.inr ⟨h1, by rw [h3]⟩
                have sA : (T 2 - T 0).toInt = (T 2).toInt - (T 0).toInt := toI_sub (by omega) (by omega) (by omega) (by omega)
                have e2 : G 45 2 = T 2 := hx.2.2.2.2.2.1.2.2.1
                have e0 : G 45 0 = T 0 := hx.2.2.2.2.2.1.1
                have el : G 36 5 = nI n := hx.2.2.1
                have sA2 : (G 45 2 - G 45 0).toInt = (T 2).toInt - (T 0).toInt := by rw [e2, e0]; exact sA
                have nl : (G 36 5).toInt = (n : Int) := by rw [el]; exact nI_toInt (by omega)
                have h5 : T 5 = 1 := by
                  have h9 := c7
                  subst ev51 ev49 ev45 ev44 ev40 ev36 ev34 ev6 ev5 ev4 ev3 ev1
                  rw [hx.2.2.2.2.2.1.2.2.2.2.2.2.2] at h9
                  exact hx.2.2.2.2.2.2.2.1.2.2.2.2.2.1.resolve_left h9
                exfalso
                exact (by (try clear hQ); (try subst ev51 ev49 ev45 ev44 ev40 ev36 ev34 ev6 ev5 ev4 ev3 ev1); ((try simp only [xb_eq, xb_ne, Int32.lt_iff_toInt_lt, Int32.le_iff_toInt_le] at *) <;> (try simp only [← Int32.toInt_inj, true_and, false_and, or_false, false_or, or_true, true_or, and_true, and_false] at *) <;> omega))
            · refine V2_iconst (v := 1) d_Rows_canBeBetter_72 rfl ?_
              refine V2_goto (tgt := 77) d_Rows_canBeBetter_73 rfl ?_
              refine V2_istore (i := 6) (l' := [some (.ref 36), some (.int (2 : Int32)), some (.ref 45), some (.int (3 : Int32)), some (.int v5), some (.int (0 : Int32)), some (.int (1 : Int32))]) d_Rows_canBeBetter_77 (xst_i (Nat.le_of_ble_eq_true rfl) rfl rfl) ?_
              refine V2_iload (i := 5) d_Rows_canBeBetter_79 rfl ?_
              refine V2_if_eq (tgt := 89) d_Rows_canBeBetter_81 rfl (fun _ => ?_) (fun c => (by first | exact absurd c (by decide) | exact absurd (by decide) c))
              refine V2_iload (i := 5) d_Rows_canBeBetter_89 rfl ?_
              refine V2_if_ne (tgt := 99) d_Rows_canBeBetter_91 rfl (fun c => (by first | exact absurd c (by decide) | exact absurd (by decide) c)) (fun _ => ?_)
              refine V2_iload (i := 6) d_Rows_canBeBetter_94 rfl ?_
              refine V2_if_eq (tgt := 110) d_Rows_canBeBetter_96 rfl (fun c => (by first | exact absurd c (by decide) | exact absurd (by decide) c)) (fun _ => ?_)
              refine V2_aload_n (i := 0) d_Rows_canBeBetter_99 rfl rfl ?_
              refine V2_iload (i := 4) d_Rows_canBeBetter_100 rfl ?_
              refine V2_put d_Rows_canBeBetter_102 fl_Rows_43 (by decide) rfl (by decide) rfl ?_
              refine V2_aload_n (i := 0) d_Rows_canBeBetter_105 rfl rfl ?_
              refine V2_iload_n (i := 1) d_Rows_canBeBetter_106 rfl rfl ?_
              refine V2_callV [.int (2 : Int32)] d_Rows_canBeBetter_107 rfl rfl lk_Rows_132 mo_Rows_keep (by decide) rfl rfl rfl (Nat.le_of_ble_eq_true rfl) (Nat.le_of_ble_eq_true rfl) ?_
              refine V2.to (l' := [some (.ref 36), some (.int (2 : Int32)), none]) ?_ rfl rfl rfl rfl
              refine V2_iconst (v := 0) d_Rows_keep_0 rfl ?_
              refine V2_istore_n (i := 2) (l' := [some (.ref 36), some (.int (2 : Int32)), some (.int (0 : Int32))]) d_Rows_keep_1 rfl (xst_i (Nat.le_of_ble_eq_true rfl) rfl rfl) ?_
              refine V2_iload_n (i := 2) d_Rows_keep_2 rfl rfl ?_
              refine V2_aload_n (i := 0) d_Rows_keep_3 rfl rfl ?_
              refine V2_getr (a := 40) d_Rows_keep_4 fl_Rows_26 (by decide) rfl (by decide) rfl ?_
              refine V2_alen (t := 0) (v := 4) d_Rows_keep_7 (by decide) rfl (by decide) rfl ?_
              refine V2_icmp_ge (tgt := 47) d_Rows_keep_8 rfl (fun c => (by first | exact absurd c (by decide) | exact absurd (by decide) c)) (fun _ => ?_)
              refine V2_iload_n (i := 2) d_Rows_keep_11 rfl rfl ?_
              refine V2_aload_n (i := 0) d_Rows_keep_12 rfl rfl ?_
              refine V2_getr (a := 41) d_Rows_keep_13 fl_Rows_30 (by decide) rfl (by decide) rfl ?_
              refine V2_alen (t := 0) (v := 4) d_Rows_keep_16 (by decide) rfl (by decide) rfl ?_
              refine V2_icmp_ge (tgt := 47) d_Rows_keep_17 rfl (fun c => (by first | exact absurd c (by decide) | exact absurd (by decide) c)) (fun _ => ?_)
              refine V2_aload_n (i := 0) d_Rows_keep_20 rfl rfl ?_
              refine V2_getr (a := 41) d_Rows_keep_21 fl_Rows_30 (by decide) rfl (by decide) rfl ?_
              refine V2_iload_n (i := 2) d_Rows_keep_24 rfl rfl ?_
              refine V2_iload_n (i := 2) d_Rows_keep_25 rfl rfl ?_
              refine V2_iload_n (i := 1) d_Rows_keep_26 rfl rfl ?_
              refine V2_icmp_gt (tgt := 39) d_Rows_keep_27 rfl (fun c => (by first | exact absurd c (by decide) | exact absurd (by decide) c)) (fun _ => ?_)
              refine V2_aload_n (i := 0) d_Rows_keep_30 rfl rfl ?_
              refine V2_getr (a := 40) d_Rows_keep_31 fl_Rows_26 (by decide) rfl (by decide) rfl ?_
              refine V2_iload_n (i := 2) d_Rows_keep_34 rfl rfl ?_
              refine V2_iaload (v := G 40 0) d_Rows_keep_35 (by decide) rfl (xixA (n := 0) rfl (by decide) (by decide)) rfl ?_
              refine V2_topi (fun v53 ev53 => ?_)
              refine V2_goto (tgt := 40) d_Rows_keep_36 rfl ?_
              refine V2_iastore (j := 0) d_Rows_keep_40 (by decide) rfl (xixA (n := 0) rfl (by decide) (by decide)) rfl ?_
              refine V2_iinc (i := 2) (v := 1) (l' := [some (.ref 36), some (.int (2 : Int32)), some (.int (1 : Int32))]) d_Rows_keep_41 rfl (by decide) (xst_i (Nat.le_of_ble_eq_true rfl) rfl rfl) ?_
              refine V2_goto (tgt := 2) d_Rows_keep_44 rfl ?_
              refine V2_iload_n (i := 2) d_Rows_keep_2 rfl rfl ?_
              refine V2_aload_n (i := 0) d_Rows_keep_3 rfl rfl ?_
              refine V2_getr (a := 40) d_Rows_keep_4 fl_Rows_26 (by decide) rfl (by decide) rfl ?_
              refine V2_alen (t := 0) (v := 4) d_Rows_keep_7 (by decide) rfl (by decide) rfl ?_
              refine V2_icmp_ge (tgt := 47) d_Rows_keep_8 rfl (fun c => (by first | exact absurd c (by decide) | exact absurd (by decide) c)) (fun _ => ?_)
              refine V2_iload_n (i := 2) d_Rows_keep_11 rfl rfl ?_
              refine V2_aload_n (i := 0) d_Rows_keep_12 rfl rfl ?_
              refine V2_getr (a := 41) d_Rows_keep_13 fl_Rows_30 (by decide) rfl (by decide) rfl ?_
              refine V2_alen (t := 0) (v := 4) d_Rows_keep_16 (by decide) rfl (by decide) rfl ?_
              refine V2_icmp_ge (tgt := 47) d_Rows_keep_17 rfl (fun c => (by first | exact absurd c (by decide) | exact absurd (by decide) c)) (fun _ => ?_)
              refine V2_aload_n (i := 0) d_Rows_keep_20 rfl rfl ?_
              refine V2_getr (a := 41) d_Rows_keep_21 fl_Rows_30 (by decide) rfl (by decide) rfl ?_
              refine V2_iload_n (i := 2) d_Rows_keep_24 rfl rfl ?_
              refine V2_iload_n (i := 2) d_Rows_keep_25 rfl rfl ?_
              refine V2_iload_n (i := 1) d_Rows_keep_26 rfl rfl ?_
              refine V2_icmp_gt (tgt := 39) d_Rows_keep_27 rfl (fun c => (by first | exact absurd c (by decide) | exact absurd (by decide) c)) (fun _ => ?_)
              refine V2_aload_n (i := 0) d_Rows_keep_30 rfl rfl ?_
              refine V2_getr (a := 40) d_Rows_keep_31 fl_Rows_26 (by decide) rfl (by decide) rfl ?_
              refine V2_iload_n (i := 2) d_Rows_keep_34 rfl rfl ?_
              refine V2_iaload (v := G 40 1) d_Rows_keep_35 (by decide) rfl (xixA (n := 1) rfl (by decide) (by decide)) rfl ?_
              refine V2_topi (fun v55 ev55 => ?_)
              refine V2_goto (tgt := 40) d_Rows_keep_36 rfl ?_
              refine V2_iastore (j := 1) d_Rows_keep_40 (by decide) rfl (xixA (n := 1) rfl (by decide) (by decide)) rfl ?_
              refine V2_iinc (i := 2) (v := 2) (l' := [some (.ref 36), some (.int (2 : Int32)), some (.int (2 : Int32))]) d_Rows_keep_41 rfl (by decide) (xst_i (Nat.le_of_ble_eq_true rfl) rfl rfl) ?_
              refine V2_goto (tgt := 2) d_Rows_keep_44 rfl ?_
              refine V2_iload_n (i := 2) d_Rows_keep_2 rfl rfl ?_
              refine V2_aload_n (i := 0) d_Rows_keep_3 rfl rfl ?_
              refine V2_getr (a := 40) d_Rows_keep_4 fl_Rows_26 (by decide) rfl (by decide) rfl ?_
              refine V2_alen (t := 0) (v := 4) d_Rows_keep_7 (by decide) rfl (by decide) rfl ?_
              refine V2_icmp_ge (tgt := 47) d_Rows_keep_8 rfl (fun c => (by first | exact absurd c (by decide) | exact absurd (by decide) c)) (fun _ => ?_)
              refine V2_iload_n (i := 2) d_Rows_keep_11 rfl rfl ?_
              refine V2_aload_n (i := 0) d_Rows_keep_12 rfl rfl ?_
              refine V2_getr (a := 41) d_Rows_keep_13 fl_Rows_30 (by decide) rfl (by decide) rfl ?_
              refine V2_alen (t := 0) (v := 4) d_Rows_keep_16 (by decide) rfl (by decide) rfl ?_
              refine V2_icmp_ge (tgt := 47) d_Rows_keep_17 rfl (fun c => (by first | exact absurd c (by decide) | exact absurd (by decide) c)) (fun _ => ?_)
              refine V2_aload_n (i := 0) d_Rows_keep_20 rfl rfl ?_
              refine V2_getr (a := 41) d_Rows_keep_21 fl_Rows_30 (by decide) rfl (by decide) rfl ?_
              refine V2_iload_n (i := 2) d_Rows_keep_24 rfl rfl ?_
              refine V2_iload_n (i := 2) d_Rows_keep_25 rfl rfl ?_
              refine V2_iload_n (i := 1) d_Rows_keep_26 rfl rfl ?_
              refine V2_icmp_gt (tgt := 39) d_Rows_keep_27 rfl (fun c => (by first | exact absurd c (by decide) | exact absurd (by decide) c)) (fun _ => ?_)
              refine V2_aload_n (i := 0) d_Rows_keep_30 rfl rfl ?_
              refine V2_getr (a := 40) d_Rows_keep_31 fl_Rows_26 (by decide) rfl (by decide) rfl ?_
              refine V2_iload_n (i := 2) d_Rows_keep_34 rfl rfl ?_
              refine V2_iaload (v := G 40 2) d_Rows_keep_35 (by decide) rfl (xixA (n := 2) rfl (by decide) (by decide)) rfl ?_
              refine V2_topi (fun v57 ev57 => ?_)
              refine V2_goto (tgt := 40) d_Rows_keep_36 rfl ?_
              refine V2_iastore (j := 2) d_Rows_keep_40 (by decide) rfl (xixA (n := 2) rfl (by decide) (by decide)) rfl ?_
              refine V2_iinc (i := 2) (v := 3) (l' := [some (.ref 36), some (.int (2 : Int32)), some (.int (3 : Int32))]) d_Rows_keep_41 rfl (by decide) (xst_i (Nat.le_of_ble_eq_true rfl) rfl rfl) ?_
              refine V2_goto (tgt := 2) d_Rows_keep_44 rfl ?_
              refine V2_iload_n (i := 2) d_Rows_keep_2 rfl rfl ?_
              refine V2_aload_n (i := 0) d_Rows_keep_3 rfl rfl ?_
              refine V2_getr (a := 40) d_Rows_keep_4 fl_Rows_26 (by decide) rfl (by decide) rfl ?_
              refine V2_alen (t := 0) (v := 4) d_Rows_keep_7 (by decide) rfl (by decide) rfl ?_
              refine V2_icmp_ge (tgt := 47) d_Rows_keep_8 rfl (fun c => (by first | exact absurd c (by decide) | exact absurd (by decide) c)) (fun _ => ?_)
              refine V2_iload_n (i := 2) d_Rows_keep_11 rfl rfl ?_
              refine V2_aload_n (i := 0) d_Rows_keep_12 rfl rfl ?_
              refine V2_getr (a := 41) d_Rows_keep_13 fl_Rows_30 (by decide) rfl (by decide) rfl ?_
              refine V2_alen (t := 0) (v := 4) d_Rows_keep_16 (by decide) rfl (by decide) rfl ?_
              refine V2_icmp_ge (tgt := 47) d_Rows_keep_17 rfl (fun c => (by first | exact absurd c (by decide) | exact absurd (by decide) c)) (fun _ => ?_)
              refine V2_aload_n (i := 0) d_Rows_keep_20 rfl rfl ?_
              refine V2_getr (a := 41) d_Rows_keep_21 fl_Rows_30 (by decide) rfl (by decide) rfl ?_
              refine V2_iload_n (i := 2) d_Rows_keep_24 rfl rfl ?_
              refine V2_iload_n (i := 2) d_Rows_keep_25 rfl rfl ?_
              refine V2_iload_n (i := 1) d_Rows_keep_26 rfl rfl ?_
              refine V2_icmp_gt (tgt := 39) d_Rows_keep_27 rfl (fun _ => ?_) (fun c => (by first | exact absurd c (by decide) | exact absurd (by decide) c))
              refine V2_iconst (v := 0) d_Rows_keep_39 rfl ?_
              refine V2_iastore (j := 3) d_Rows_keep_40 (by decide) rfl (xixA (n := 3) rfl (by decide) (by decide)) rfl ?_
              refine V2_iinc (i := 2) (v := 4) (l' := [some (.ref 36), some (.int (2 : Int32)), some (.int (4 : Int32))]) d_Rows_keep_41 rfl (by decide) (xst_i (Nat.le_of_ble_eq_true rfl) rfl rfl) ?_
              refine V2_goto (tgt := 2) d_Rows_keep_44 rfl ?_
              refine V2_iload_n (i := 2) d_Rows_keep_2 rfl rfl ?_
              refine V2_aload_n (i := 0) d_Rows_keep_3 rfl rfl ?_
              refine V2_getr (a := 40) d_Rows_keep_4 fl_Rows_26 (by decide) rfl (by decide) rfl ?_
              refine V2_alen (t := 0) (v := 4) d_Rows_keep_7 (by decide) rfl (by decide) rfl ?_
              refine V2_icmp_ge (tgt := 47) d_Rows_keep_8 rfl (fun _ => ?_) (fun c => (by first | exact absurd c (by decide) | exact absurd (by decide) c))
              refine V2_return d_Rows_keep_47 rfl ?_
              refine V2.to (st' := []) ?_ rfl rfl rfl rfl
              refine V2_iload_n (i := 3) d_Rows_canBeBetter_110 rfl rfl ?_
              refine V2_iconst (v := 1) d_Rows_canBeBetter_111 rfl ?_
              refine V2_iadd d_Rows_canBeBetter_112 ?_
              refine V2_lit (v := 4) (by decide) ?_
              refine V2_aload_n (i := 0) d_Rows_canBeBetter_113 rfl rfl ?_
              refine V2_get (v := G 36 6) d_Rows_canBeBetter_114 fl_Rows_40 (by decide) rfl (by decide) rfl rfl ?_
              refine V2_topi (fun v60 ev60 => ?_)
              refine V2_icmp_ge (tgt := 124) d_Rows_canBeBetter_117 rfl (fun c61 => ?_) (fun c61 => ?_)
              · refine V2_iconst (v := 0) d_Rows_canBeBetter_124 rfl ?_
                refine V2_zreturn d_Rows_canBeBetter_125 rfl (by decide) ?_
                refine V2.to (st' := [.int (0 : Int32)]) ?_ rfl rfl rfl rfl
                refine V2_zreturn d_Rows_goesOn_52 rfl (by decide) ?_
                have hB1 : B ≤ n := hR.1
                have hf : (B = 0 ∧ (G 36 6).toInt = (n : Int) + 1) ∨ (0 < B ∧ (G 36 6).toInt = (B : Int)) := by
                  rcases hR.2.1 with ⟨h1, h2⟩ | ⟨h1, h2⟩
                  · exact Or.inl ⟨h1, by rw [h2, nI_toInt (by omega)]; omega⟩
                  · exact Or.inr ⟨h1, by rw [h2, nI_toInt (by have := hR.1; omega)]⟩
                have hov : (bst.toInt = -1 ∧ B = 0 ∧ (G 36 7).toInt = -1000) ∨ (¬ bst.toInt = -1 ∧ (G 36 7).toInt = hi.toInt) := by
                  rcases hR.2.2 with ⟨h1, h2, h3⟩ | ⟨h1, h3, _⟩
                  · exact Or.inl ⟨h1, h2, by rw [h3]; decide⟩
                  · exact Or.inr ⟨h1, by rw [h3]⟩
                have sA : (T 2 - T 0).toInt = (T 2).toInt - (T 0).toInt := toI_sub (by omega) (by omega) (by omega) (by omega)
                have e2 : G 45 2 = T 2 := hx.2.2.2.2.2.1.2.2.1
                have e0 : G 45 0 = T 0 := hx.2.2.2.2.2.1.1
                have el : G 36 5 = nI n := hx.2.2.1
                have sA2 : (G 45 2 - G 45 0).toInt = (T 2).toInt - (T 0).toInt := by rw [e2, e0]; exact sA
                have nl : (G 36 5).toInt = (n : Int) := by rw [el]; exact nI_toInt (by omega)
                have h5 : T 5 = 1 := by
                  have h9 := c7
                  subst ev60 ev57 ev55 ev53 ev49 ev45 ev44 ev40 ev36 ev34 ev6 ev5 ev4 ev3 ev1
                  rw [hx.2.2.2.2.2.1.2.2.2.2.2.2.2] at h9
                  exact hx.2.2.2.2.2.2.2.1.2.2.2.2.2.1.resolve_left h9
                exfalso
                exact (by (try clear hQ); (try subst ev60 ev57 ev55 ev53 ev49 ev45 ev44 ev40 ev36 ev34 ev6 ev5 ev4 ev3 ev1); ((try simp only [xb_eq, xb_ne, Int32.lt_iff_toInt_lt, Int32.le_iff_toInt_le] at *) <;> (try simp only [← Int32.toInt_inj, true_and, false_and, or_false, false_or, or_true, true_or, and_true, and_false] at *) <;> omega))
              · refine V2_iconst (v := 1) d_Rows_canBeBetter_120 rfl ?_
                refine V2_goto (tgt := 125) d_Rows_canBeBetter_121 rfl ?_
                refine V2_zreturn d_Rows_canBeBetter_125 rfl (by decide) ?_
                refine V2.to (st' := [.int (1 : Int32)]) ?_ rfl rfl rfl rfl
                refine V2_zreturn d_Rows_goesOn_52 rfl (by decide) ?_
                have hB1 : B ≤ n := hR.1
                have hf : (B = 0 ∧ (G 36 6).toInt = (n : Int) + 1) ∨ (0 < B ∧ (G 36 6).toInt = (B : Int)) := by
                  rcases hR.2.1 with ⟨h1, h2⟩ | ⟨h1, h2⟩
                  · exact Or.inl ⟨h1, by rw [h2, nI_toInt (by omega)]; omega⟩
                  · exact Or.inr ⟨h1, by rw [h2, nI_toInt (by have := hR.1; omega)]⟩
                have hov : (bst.toInt = -1 ∧ B = 0 ∧ (G 36 7).toInt = -1000) ∨ (¬ bst.toInt = -1 ∧ (G 36 7).toInt = hi.toInt) := by
                  rcases hR.2.2 with ⟨h1, h2, h3⟩ | ⟨h1, h3, _⟩
                  · exact Or.inl ⟨h1, h2, by rw [h3]; decide⟩
                  · exact Or.inr ⟨h1, by rw [h3]⟩
                have sA : (T 2 - T 0).toInt = (T 2).toInt - (T 0).toInt := toI_sub (by omega) (by omega) (by omega) (by omega)
                have e2 : G 45 2 = T 2 := hx.2.2.2.2.2.1.2.2.1
                have e0 : G 45 0 = T 0 := hx.2.2.2.2.2.1.1
                have el : G 36 5 = nI n := hx.2.2.1
                have sA2 : (G 45 2 - G 45 0).toInt = (T 2).toInt - (T 0).toInt := by rw [e2, e0]; exact sA
                have nl : (G 36 5).toInt = (n : Int) := by rw [el]; exact nI_toInt (by omega)
                have h5 : T 5 = 1 := by
                  have h9 := c7
                  subst ev60 ev57 ev55 ev53 ev49 ev45 ev44 ev40 ev36 ev34 ev6 ev5 ev4 ev3 ev1
                  rw [hx.2.2.2.2.2.1.2.2.2.2.2.2.2] at h9
                  exact hx.2.2.2.2.2.2.2.1.2.2.2.2.2.1.resolve_left h9
                exfalso
                exact (by (try clear hQ); (try subst ev60 ev57 ev55 ev53 ev49 ev45 ev44 ev40 ev36 ev34 ev6 ev5 ev4 ev3 ev1); ((try simp only [xb_eq, xb_ne, Int32.lt_iff_toInt_lt, Int32.le_iff_toInt_le] at *) <;> (try simp only [← Int32.toInt_inj, true_and, false_and, or_false, false_or, or_true, true_or, and_true, and_false] at *) <;> omega))
    · refine V2_iconst (v := 1) d_Rows_canBeBetter_30 rfl ?_
      refine V2_goto (tgt := 35) d_Rows_canBeBetter_31 rfl ?_
      refine V2_istore (i := 5) (l' := [some (.ref 36), some (.int (2 : Int32)), some (.ref 45), some (.int (3 : Int32)), some (.int v5), some (.int (1 : Int32)), none]) d_Rows_canBeBetter_35 (xst_i (Nat.le_of_ble_eq_true rfl) rfl rfl) ?_
      refine V2_aload_n (i := 2) d_Rows_canBeBetter_37 rfl rfl ?_
      refine V2_get (v := G 45 7) d_Rows_canBeBetter_38 fl_Rows_80 (by decide) rfl (by decide) rfl rfl ?_
      refine V2_topi (fun v62 ev62 => ?_)
      refine V2_if_ne (tgt := 76) d_Rows_canBeBetter_41 rfl (fun c63 => ?_) (fun c63 => ?_)
      · refine V2_iconst (v := 0) d_Rows_canBeBetter_76 rfl ?_
        refine V2_istore (i := 6) (l' := [some (.ref 36), some (.int (2 : Int32)), some (.ref 45), some (.int (3 : Int32)), some (.int v5), some (.int (1 : Int32)), some (.int (0 : Int32))]) d_Rows_canBeBetter_77 (xst_i (Nat.le_of_ble_eq_true rfl) rfl rfl) ?_
        refine V2_iload (i := 5) d_Rows_canBeBetter_79 rfl ?_
        refine V2_if_eq (tgt := 89) d_Rows_canBeBetter_81 rfl (fun c => (by first | exact absurd c (by decide) | exact absurd (by decide) c)) (fun _ => ?_)
        refine V2_aload_n (i := 0) d_Rows_canBeBetter_84 rfl rfl ?_
        refine V2_iload_n (i := 3) d_Rows_canBeBetter_85 rfl rfl ?_
        refine V2_put d_Rows_canBeBetter_86 fl_Rows_40 (by decide) rfl (by decide) rfl ?_
        refine V2_iload (i := 5) d_Rows_canBeBetter_89 rfl ?_
        refine V2_if_ne (tgt := 99) d_Rows_canBeBetter_91 rfl (fun _ => ?_) (fun c => (by first | exact absurd c (by decide) | exact absurd (by decide) c))
        refine V2_aload_n (i := 0) d_Rows_canBeBetter_99 rfl rfl ?_
        refine V2_iload (i := 4) d_Rows_canBeBetter_100 rfl ?_
        refine V2_put d_Rows_canBeBetter_102 fl_Rows_43 (by decide) rfl (by decide) rfl ?_
        refine V2_aload_n (i := 0) d_Rows_canBeBetter_105 rfl rfl ?_
        refine V2_iload_n (i := 1) d_Rows_canBeBetter_106 rfl rfl ?_
        refine V2_callV [.int (2 : Int32)] d_Rows_canBeBetter_107 rfl rfl lk_Rows_132 mo_Rows_keep (by decide) rfl rfl rfl (Nat.le_of_ble_eq_true rfl) (Nat.le_of_ble_eq_true rfl) ?_
        refine V2.to (l' := [some (.ref 36), some (.int (2 : Int32)), none]) ?_ rfl rfl rfl rfl
        refine V2_iconst (v := 0) d_Rows_keep_0 rfl ?_
        refine V2_istore_n (i := 2) (l' := [some (.ref 36), some (.int (2 : Int32)), some (.int (0 : Int32))]) d_Rows_keep_1 rfl (xst_i (Nat.le_of_ble_eq_true rfl) rfl rfl) ?_
        refine V2_iload_n (i := 2) d_Rows_keep_2 rfl rfl ?_
        refine V2_aload_n (i := 0) d_Rows_keep_3 rfl rfl ?_
        refine V2_getr (a := 40) d_Rows_keep_4 fl_Rows_26 (by decide) rfl (by decide) rfl ?_
        refine V2_alen (t := 0) (v := 4) d_Rows_keep_7 (by decide) rfl (by decide) rfl ?_
        refine V2_icmp_ge (tgt := 47) d_Rows_keep_8 rfl (fun c => (by first | exact absurd c (by decide) | exact absurd (by decide) c)) (fun _ => ?_)
        refine V2_iload_n (i := 2) d_Rows_keep_11 rfl rfl ?_
        refine V2_aload_n (i := 0) d_Rows_keep_12 rfl rfl ?_
        refine V2_getr (a := 41) d_Rows_keep_13 fl_Rows_30 (by decide) rfl (by decide) rfl ?_
        refine V2_alen (t := 0) (v := 4) d_Rows_keep_16 (by decide) rfl (by decide) rfl ?_
        refine V2_icmp_ge (tgt := 47) d_Rows_keep_17 rfl (fun c => (by first | exact absurd c (by decide) | exact absurd (by decide) c)) (fun _ => ?_)
        refine V2_aload_n (i := 0) d_Rows_keep_20 rfl rfl ?_
        refine V2_getr (a := 41) d_Rows_keep_21 fl_Rows_30 (by decide) rfl (by decide) rfl ?_
        refine V2_iload_n (i := 2) d_Rows_keep_24 rfl rfl ?_
        refine V2_iload_n (i := 2) d_Rows_keep_25 rfl rfl ?_
        refine V2_iload_n (i := 1) d_Rows_keep_26 rfl rfl ?_
        refine V2_icmp_gt (tgt := 39) d_Rows_keep_27 rfl (fun c => (by first | exact absurd c (by decide) | exact absurd (by decide) c)) (fun _ => ?_)
        refine V2_aload_n (i := 0) d_Rows_keep_30 rfl rfl ?_
        refine V2_getr (a := 40) d_Rows_keep_31 fl_Rows_26 (by decide) rfl (by decide) rfl ?_
        refine V2_iload_n (i := 2) d_Rows_keep_34 rfl rfl ?_
        refine V2_iaload (v := G 40 0) d_Rows_keep_35 (by decide) rfl (xixA (n := 0) rfl (by decide) (by decide)) rfl ?_
        refine V2_topi (fun v64 ev64 => ?_)
        refine V2_goto (tgt := 40) d_Rows_keep_36 rfl ?_
        refine V2_iastore (j := 0) d_Rows_keep_40 (by decide) rfl (xixA (n := 0) rfl (by decide) (by decide)) rfl ?_
        refine V2_iinc (i := 2) (v := 1) (l' := [some (.ref 36), some (.int (2 : Int32)), some (.int (1 : Int32))]) d_Rows_keep_41 rfl (by decide) (xst_i (Nat.le_of_ble_eq_true rfl) rfl rfl) ?_
        refine V2_goto (tgt := 2) d_Rows_keep_44 rfl ?_
        refine V2_iload_n (i := 2) d_Rows_keep_2 rfl rfl ?_
        refine V2_aload_n (i := 0) d_Rows_keep_3 rfl rfl ?_
        refine V2_getr (a := 40) d_Rows_keep_4 fl_Rows_26 (by decide) rfl (by decide) rfl ?_
        refine V2_alen (t := 0) (v := 4) d_Rows_keep_7 (by decide) rfl (by decide) rfl ?_
        refine V2_icmp_ge (tgt := 47) d_Rows_keep_8 rfl (fun c => (by first | exact absurd c (by decide) | exact absurd (by decide) c)) (fun _ => ?_)
        refine V2_iload_n (i := 2) d_Rows_keep_11 rfl rfl ?_
        refine V2_aload_n (i := 0) d_Rows_keep_12 rfl rfl ?_
        refine V2_getr (a := 41) d_Rows_keep_13 fl_Rows_30 (by decide) rfl (by decide) rfl ?_
        refine V2_alen (t := 0) (v := 4) d_Rows_keep_16 (by decide) rfl (by decide) rfl ?_
        refine V2_icmp_ge (tgt := 47) d_Rows_keep_17 rfl (fun c => (by first | exact absurd c (by decide) | exact absurd (by decide) c)) (fun _ => ?_)
        refine V2_aload_n (i := 0) d_Rows_keep_20 rfl rfl ?_
        refine V2_getr (a := 41) d_Rows_keep_21 fl_Rows_30 (by decide) rfl (by decide) rfl ?_
        refine V2_iload_n (i := 2) d_Rows_keep_24 rfl rfl ?_
        refine V2_iload_n (i := 2) d_Rows_keep_25 rfl rfl ?_
        refine V2_iload_n (i := 1) d_Rows_keep_26 rfl rfl ?_
        refine V2_icmp_gt (tgt := 39) d_Rows_keep_27 rfl (fun c => (by first | exact absurd c (by decide) | exact absurd (by decide) c)) (fun _ => ?_)
        refine V2_aload_n (i := 0) d_Rows_keep_30 rfl rfl ?_
        refine V2_getr (a := 40) d_Rows_keep_31 fl_Rows_26 (by decide) rfl (by decide) rfl ?_
        refine V2_iload_n (i := 2) d_Rows_keep_34 rfl rfl ?_
        refine V2_iaload (v := G 40 1) d_Rows_keep_35 (by decide) rfl (xixA (n := 1) rfl (by decide) (by decide)) rfl ?_
        refine V2_topi (fun v66 ev66 => ?_)
        refine V2_goto (tgt := 40) d_Rows_keep_36 rfl ?_
        refine V2_iastore (j := 1) d_Rows_keep_40 (by decide) rfl (xixA (n := 1) rfl (by decide) (by decide)) rfl ?_
        refine V2_iinc (i := 2) (v := 2) (l' := [some (.ref 36), some (.int (2 : Int32)), some (.int (2 : Int32))]) d_Rows_keep_41 rfl (by decide) (xst_i (Nat.le_of_ble_eq_true rfl) rfl rfl) ?_
        refine V2_goto (tgt := 2) d_Rows_keep_44 rfl ?_
        refine V2_iload_n (i := 2) d_Rows_keep_2 rfl rfl ?_
        refine V2_aload_n (i := 0) d_Rows_keep_3 rfl rfl ?_
        refine V2_getr (a := 40) d_Rows_keep_4 fl_Rows_26 (by decide) rfl (by decide) rfl ?_
        refine V2_alen (t := 0) (v := 4) d_Rows_keep_7 (by decide) rfl (by decide) rfl ?_
        refine V2_icmp_ge (tgt := 47) d_Rows_keep_8 rfl (fun c => (by first | exact absurd c (by decide) | exact absurd (by decide) c)) (fun _ => ?_)
        refine V2_iload_n (i := 2) d_Rows_keep_11 rfl rfl ?_
        refine V2_aload_n (i := 0) d_Rows_keep_12 rfl rfl ?_
        refine V2_getr (a := 41) d_Rows_keep_13 fl_Rows_30 (by decide) rfl (by decide) rfl ?_
        refine V2_alen (t := 0) (v := 4) d_Rows_keep_16 (by decide) rfl (by decide) rfl ?_
        refine V2_icmp_ge (tgt := 47) d_Rows_keep_17 rfl (fun c => (by first | exact absurd c (by decide) | exact absurd (by decide) c)) (fun _ => ?_)
        refine V2_aload_n (i := 0) d_Rows_keep_20 rfl rfl ?_
        refine V2_getr (a := 41) d_Rows_keep_21 fl_Rows_30 (by decide) rfl (by decide) rfl ?_
        refine V2_iload_n (i := 2) d_Rows_keep_24 rfl rfl ?_
        refine V2_iload_n (i := 2) d_Rows_keep_25 rfl rfl ?_
        refine V2_iload_n (i := 1) d_Rows_keep_26 rfl rfl ?_
        refine V2_icmp_gt (tgt := 39) d_Rows_keep_27 rfl (fun c => (by first | exact absurd c (by decide) | exact absurd (by decide) c)) (fun _ => ?_)
        refine V2_aload_n (i := 0) d_Rows_keep_30 rfl rfl ?_
        refine V2_getr (a := 40) d_Rows_keep_31 fl_Rows_26 (by decide) rfl (by decide) rfl ?_
        refine V2_iload_n (i := 2) d_Rows_keep_34 rfl rfl ?_
        refine V2_iaload (v := G 40 2) d_Rows_keep_35 (by decide) rfl (xixA (n := 2) rfl (by decide) (by decide)) rfl ?_
        refine V2_topi (fun v68 ev68 => ?_)
        refine V2_goto (tgt := 40) d_Rows_keep_36 rfl ?_
        refine V2_iastore (j := 2) d_Rows_keep_40 (by decide) rfl (xixA (n := 2) rfl (by decide) (by decide)) rfl ?_
        refine V2_iinc (i := 2) (v := 3) (l' := [some (.ref 36), some (.int (2 : Int32)), some (.int (3 : Int32))]) d_Rows_keep_41 rfl (by decide) (xst_i (Nat.le_of_ble_eq_true rfl) rfl rfl) ?_
        refine V2_goto (tgt := 2) d_Rows_keep_44 rfl ?_
        refine V2_iload_n (i := 2) d_Rows_keep_2 rfl rfl ?_
        refine V2_aload_n (i := 0) d_Rows_keep_3 rfl rfl ?_
        refine V2_getr (a := 40) d_Rows_keep_4 fl_Rows_26 (by decide) rfl (by decide) rfl ?_
        refine V2_alen (t := 0) (v := 4) d_Rows_keep_7 (by decide) rfl (by decide) rfl ?_
        refine V2_icmp_ge (tgt := 47) d_Rows_keep_8 rfl (fun c => (by first | exact absurd c (by decide) | exact absurd (by decide) c)) (fun _ => ?_)
        refine V2_iload_n (i := 2) d_Rows_keep_11 rfl rfl ?_
        refine V2_aload_n (i := 0) d_Rows_keep_12 rfl rfl ?_
        refine V2_getr (a := 41) d_Rows_keep_13 fl_Rows_30 (by decide) rfl (by decide) rfl ?_
        refine V2_alen (t := 0) (v := 4) d_Rows_keep_16 (by decide) rfl (by decide) rfl ?_
        refine V2_icmp_ge (tgt := 47) d_Rows_keep_17 rfl (fun c => (by first | exact absurd c (by decide) | exact absurd (by decide) c)) (fun _ => ?_)
        refine V2_aload_n (i := 0) d_Rows_keep_20 rfl rfl ?_
        refine V2_getr (a := 41) d_Rows_keep_21 fl_Rows_30 (by decide) rfl (by decide) rfl ?_
        refine V2_iload_n (i := 2) d_Rows_keep_24 rfl rfl ?_
        refine V2_iload_n (i := 2) d_Rows_keep_25 rfl rfl ?_
        refine V2_iload_n (i := 1) d_Rows_keep_26 rfl rfl ?_
        refine V2_icmp_gt (tgt := 39) d_Rows_keep_27 rfl (fun _ => ?_) (fun c => (by first | exact absurd c (by decide) | exact absurd (by decide) c))
        refine V2_iconst (v := 0) d_Rows_keep_39 rfl ?_
        refine V2_iastore (j := 3) d_Rows_keep_40 (by decide) rfl (xixA (n := 3) rfl (by decide) (by decide)) rfl ?_
        refine V2_iinc (i := 2) (v := 4) (l' := [some (.ref 36), some (.int (2 : Int32)), some (.int (4 : Int32))]) d_Rows_keep_41 rfl (by decide) (xst_i (Nat.le_of_ble_eq_true rfl) rfl rfl) ?_
        refine V2_goto (tgt := 2) d_Rows_keep_44 rfl ?_
        refine V2_iload_n (i := 2) d_Rows_keep_2 rfl rfl ?_
        refine V2_aload_n (i := 0) d_Rows_keep_3 rfl rfl ?_
        refine V2_getr (a := 40) d_Rows_keep_4 fl_Rows_26 (by decide) rfl (by decide) rfl ?_
        refine V2_alen (t := 0) (v := 4) d_Rows_keep_7 (by decide) rfl (by decide) rfl ?_
        refine V2_icmp_ge (tgt := 47) d_Rows_keep_8 rfl (fun _ => ?_) (fun c => (by first | exact absurd c (by decide) | exact absurd (by decide) c))
        refine V2_return d_Rows_keep_47 rfl ?_
        refine V2.to (st' := []) ?_ rfl rfl rfl rfl
        refine V2_iload_n (i := 3) d_Rows_canBeBetter_110 rfl rfl ?_
        refine V2_iconst (v := 1) d_Rows_canBeBetter_111 rfl ?_
        refine V2_iadd d_Rows_canBeBetter_112 ?_
        refine V2_lit (v := 4) (by decide) ?_
        refine V2_aload_n (i := 0) d_Rows_canBeBetter_113 rfl rfl ?_
        refine V2_get (v := (3 : Int32)) d_Rows_canBeBetter_114 fl_Rows_40 (by decide) rfl (by decide) rfl rfl ?_
        refine V2_icmp_ge (tgt := 124) d_Rows_canBeBetter_117 rfl (fun _ => ?_) (fun c => (by first | exact absurd c (by decide) | exact absurd (by decide) c))
        refine V2_iconst (v := 0) d_Rows_canBeBetter_124 rfl ?_
        refine V2_zreturn d_Rows_canBeBetter_125 rfl (by decide) ?_
        refine V2.to (st' := [.int (0 : Int32)]) ?_ rfl rfl rfl rfl
        refine V2_zreturn d_Rows_goesOn_52 rfl (by decide) ?_
        have hB1 : B ≤ n := hR.1
        have hf : (B = 0 ∧ (G 36 6).toInt = (n : Int) + 1) ∨ (0 < B ∧ (G 36 6).toInt = (B : Int)) := by
          rcases hR.2.1 with ⟨h1, h2⟩ | ⟨h1, h2⟩
          · exact Or.inl ⟨h1, by rw [h2, nI_toInt (by omega)]; omega⟩
          · exact Or.inr ⟨h1, by rw [h2, nI_toInt (by have := hR.1; omega)]⟩
        have hov : (bst.toInt = -1 ∧ B = 0 ∧ (G 36 7).toInt = -1000) ∨ (¬ bst.toInt = -1 ∧ (G 36 7).toInt = hi.toInt) := by
          rcases hR.2.2 with ⟨h1, h2, h3⟩ | ⟨h1, h3, _⟩
          · exact Or.inl ⟨h1, h2, by rw [h3]; decide⟩
          · exact Or.inr ⟨h1, by rw [h3]⟩
        have sA : (T 2 - T 0).toInt = (T 2).toInt - (T 0).toInt := toI_sub (by omega) (by omega) (by omega) (by omega)
        have e2 : G 45 2 = T 2 := hx.2.2.2.2.2.1.2.2.1
        have e0 : G 45 0 = T 0 := hx.2.2.2.2.2.1.1
        have el : G 36 5 = nI n := hx.2.2.1
        have sA2 : (G 45 2 - G 45 0).toInt = (T 2).toInt - (T 0).toInt := by rw [e2, e0]; exact sA
        have nl : (G 36 5).toInt = (n : Int) := by rw [el]; exact nI_toInt (by omega)
        have h5 : T 5 = 1 := by
          have h9 := c7
          subst ev68 ev66 ev64 ev62 ev34 ev6 ev5 ev4 ev3 ev1
          rw [hx.2.2.2.2.2.1.2.2.2.2.2.2.2] at h9
          exact hx.2.2.2.2.2.2.2.1.2.2.2.2.2.1.resolve_left h9
        have hrow : ∀ i, pre * 10 ^ (n - (2 + 1)) ≤ i → i < pre * 10 ^ (n - (2 + 1)) + 10 ^ (n - (2 + 1)) → trN (PN S) n i S = ((trN (PN S) (n - (2 + 1)) (i - pre * 10 ^ (n - (2 + 1))) T).1.map (fun j => j + (2 + 1)), (trN (PN S) (n - (2 + 1)) (i - pre * 10 ^ (n - (2 + 1))) T).2) := by
          intro i h1 h2
          have hs := hx.2.2.2.2.2.2.2.2 (i - pre * 10 ^ (n - (2 + 1))) (by omega)
          rw [show pre * 10 ^ (n - (2 + 1)) + (i - pre * 10 ^ (n - (2 + 1))) = i by omega] at hs
          exact hs
        have hlB : B = 0 ∨ 2 + 1 < B := (by (try clear hQ); (try subst ev68 ev66 ev64 ev62 ev34 ev6 ev5 ev4 ev3 ev1); ((try simp only [xb_eq, xb_ne, Int32.lt_iff_toInt_lt, Int32.le_iff_toInt_le] at *) <;> (try simp only [← Int32.toInt_inj, true_and, false_and, or_false, false_or, or_true, true_or, and_true, and_false] at *) <;> omega))
        have hbig := fit_lt (n := n) (l := 2) (by omega) hx.2.2.2.2.1
        have hp4 := pow4 hn
        subst ev68 ev66 ev64 ev62 ev34 ev6 ev5 ev4 ev3 ev1
        refine hQ _ 0 ⟨fun a h1 h2 => ?_, rfl, rfl⟩ (Or.inr ⟨Or.inl rfl, ?_⟩)
        · repeat (first | rw [xp_row_ne h1] | rw [xp_row_ne h2])
          try rfl
        · have ef : procP n S (pre * 10 ^ (n - (2 + 1))) (bst, B, hi) = (nI (pre * 10 ^ (n - (2 + 1))), 2 + 1, T 2 - T 0) := by
            have e1 := hrow (pre * 10 ^ (n - (2 + 1))) (Nat.le_refl _) (by have : 0 < 10 ^ (n - (2 + 1)) := Nat.pow_pos (by decide); omega)
            rw [tr_1 h5] at e1
            refine (pP_t e1 ?_).trans ?_
            · refine Or.inr (Or.inl ⟨by show 0 < 0 + (2 + 1); omega, ?_⟩)
              show B = 0 ∨ 0 + (2 + 1) < B
              omega
            · show (nI _, 0 + (2 + 1), T 2 - T 0) = _
              rw [Nat.zero_add]
          rw [blk_first (procP n S) (Nat.pow_pos (by decide)) ef (fun i h1 h2 => ?_)]
          · refine ⟨by show 2 + 1 ≤ n; omega, Or.inr ⟨Nat.succ_pos _, rfl⟩, Or.inr ⟨nI_nn1 (by omega), ?_, pre * 10 ^ (n - (2 + 1)), rfl, hbig, fun i hi9 => ?_⟩⟩
            · show _ = T 2 - T 0
              rw [← e2, ← e0]
              rfl
            rcases (show i = 0 ∨ i = 1 ∨ i = 2 ∨ i = 3 by omega) with h9 | h9 | h9 | h9
            · subst h9
              rw [(dig_pad (pre := pre) (r := (n - (2 + 1))) (l := 2) (n := n) (i := 0) (by omega)).1 (by omega)]
              exact hx.2.2.2.1 0 (by omega)
            · subst h9
              rw [(dig_pad (pre := pre) (r := (n - (2 + 1))) (l := 2) (n := n) (i := 1) (by omega)).1 (by omega)]
              exact hx.2.2.2.1 1 (by omega)
            · subst h9
              rw [(dig_pad (pre := pre) (r := (n - (2 + 1))) (l := 2) (n := n) (i := 2) (by omega)).1 (by omega)]
              exact hx.2.2.2.1 2 (by omega)
            · subst h9
              rw [(dig_pad (pre := pre) (r := (n - (2 + 1))) (l := 2) (n := n) (i := 3) (by omega)).2 (by omega) hi9]
              exact rfl
          · have e1 := hrow i (by omega) h2
            rw [tr_1 h5] at e1
            refine pP_f e1 ?_
            show ¬ ((nI _).toInt = -1 ∨ (0 < 0 + (2 + 1) ∧ (2 + 1 = 0 ∨ 0 + (2 + 1) < 2 + 1)) ∨ (0 + (2 + 1) = 0 ∧ _))
            have := nI_nn1 (k := pre * 10 ^ (n - (2 + 1))) (by omega)
            omega
      · refine V2_iload_n (i := 3) d_Rows_canBeBetter_44 rfl rfl ?_
        refine V2_aload_n (i := 0) d_Rows_canBeBetter_45 rfl rfl ?_
        refine V2_get (v := G 36 5) d_Rows_canBeBetter_46 fl_Rows_37 (by decide) rfl (by decide) rfl rfl ?_
        refine V2_topi (fun v71 ev71 => ?_)
        refine V2_icmp_ne (tgt := 76) d_Rows_canBeBetter_49 rfl (fun c72 => ?_) (fun c72 => ?_)
        · refine V2_iconst (v := 0) d_Rows_canBeBetter_76 rfl ?_
          refine V2_istore (i := 6) (l' := [some (.ref 36), some (.int (2 : Int32)), some (.ref 45), some (.int (3 : Int32)), some (.int v5), some (.int (1 : Int32)), some (.int (0 : Int32))]) d_Rows_canBeBetter_77 (xst_i (Nat.le_of_ble_eq_true rfl) rfl rfl) ?_
          refine V2_iload (i := 5) d_Rows_canBeBetter_79 rfl ?_
          refine V2_if_eq (tgt := 89) d_Rows_canBeBetter_81 rfl (fun c => (by first | exact absurd c (by decide) | exact absurd (by decide) c)) (fun _ => ?_)
          refine V2_aload_n (i := 0) d_Rows_canBeBetter_84 rfl rfl ?_
          refine V2_iload_n (i := 3) d_Rows_canBeBetter_85 rfl rfl ?_
          refine V2_put d_Rows_canBeBetter_86 fl_Rows_40 (by decide) rfl (by decide) rfl ?_
          refine V2_iload (i := 5) d_Rows_canBeBetter_89 rfl ?_
          refine V2_if_ne (tgt := 99) d_Rows_canBeBetter_91 rfl (fun _ => ?_) (fun c => (by first | exact absurd c (by decide) | exact absurd (by decide) c))
          refine V2_aload_n (i := 0) d_Rows_canBeBetter_99 rfl rfl ?_
          refine V2_iload (i := 4) d_Rows_canBeBetter_100 rfl ?_
          refine V2_put d_Rows_canBeBetter_102 fl_Rows_43 (by decide) rfl (by decide) rfl ?_
          refine V2_aload_n (i := 0) d_Rows_canBeBetter_105 rfl rfl ?_
          refine V2_iload_n (i := 1) d_Rows_canBeBetter_106 rfl rfl ?_
          refine V2_callV [.int (2 : Int32)] d_Rows_canBeBetter_107 rfl rfl lk_Rows_132 mo_Rows_keep (by decide) rfl rfl rfl (Nat.le_of_ble_eq_true rfl) (Nat.le_of_ble_eq_true rfl) ?_
          refine V2.to (l' := [some (.ref 36), some (.int (2 : Int32)), none]) ?_ rfl rfl rfl rfl
          refine V2_iconst (v := 0) d_Rows_keep_0 rfl ?_
          refine V2_istore_n (i := 2) (l' := [some (.ref 36), some (.int (2 : Int32)), some (.int (0 : Int32))]) d_Rows_keep_1 rfl (xst_i (Nat.le_of_ble_eq_true rfl) rfl rfl) ?_
          refine V2_iload_n (i := 2) d_Rows_keep_2 rfl rfl ?_
          refine V2_aload_n (i := 0) d_Rows_keep_3 rfl rfl ?_
          refine V2_getr (a := 40) d_Rows_keep_4 fl_Rows_26 (by decide) rfl (by decide) rfl ?_
          refine V2_alen (t := 0) (v := 4) d_Rows_keep_7 (by decide) rfl (by decide) rfl ?_
          refine V2_icmp_ge (tgt := 47) d_Rows_keep_8 rfl (fun c => (by first | exact absurd c (by decide) | exact absurd (by decide) c)) (fun _ => ?_)
          refine V2_iload_n (i := 2) d_Rows_keep_11 rfl rfl ?_
          refine V2_aload_n (i := 0) d_Rows_keep_12 rfl rfl ?_
          refine V2_getr (a := 41) d_Rows_keep_13 fl_Rows_30 (by decide) rfl (by decide) rfl ?_
          refine V2_alen (t := 0) (v := 4) d_Rows_keep_16 (by decide) rfl (by decide) rfl ?_
          refine V2_icmp_ge (tgt := 47) d_Rows_keep_17 rfl (fun c => (by first | exact absurd c (by decide) | exact absurd (by decide) c)) (fun _ => ?_)
          refine V2_aload_n (i := 0) d_Rows_keep_20 rfl rfl ?_
          refine V2_getr (a := 41) d_Rows_keep_21 fl_Rows_30 (by decide) rfl (by decide) rfl ?_
          refine V2_iload_n (i := 2) d_Rows_keep_24 rfl rfl ?_
          refine V2_iload_n (i := 2) d_Rows_keep_25 rfl rfl ?_
          refine V2_iload_n (i := 1) d_Rows_keep_26 rfl rfl ?_
          refine V2_icmp_gt (tgt := 39) d_Rows_keep_27 rfl (fun c => (by first | exact absurd c (by decide) | exact absurd (by decide) c)) (fun _ => ?_)
          refine V2_aload_n (i := 0) d_Rows_keep_30 rfl rfl ?_
          refine V2_getr (a := 40) d_Rows_keep_31 fl_Rows_26 (by decide) rfl (by decide) rfl ?_
          refine V2_iload_n (i := 2) d_Rows_keep_34 rfl rfl ?_
          refine V2_iaload (v := G 40 0) d_Rows_keep_35 (by decide) rfl (xixA (n := 0) rfl (by decide) (by decide)) rfl ?_
          refine V2_topi (fun v73 ev73 => ?_)
          refine V2_goto (tgt := 40) d_Rows_keep_36 rfl ?_
          refine V2_iastore (j := 0) d_Rows_keep_40 (by decide) rfl (xixA (n := 0) rfl (by decide) (by decide)) rfl ?_
          refine V2_iinc (i := 2) (v := 1) (l' := [some (.ref 36), some (.int (2 : Int32)), some (.int (1 : Int32))]) d_Rows_keep_41 rfl (by decide) (xst_i (Nat.le_of_ble_eq_true rfl) rfl rfl) ?_
          refine V2_goto (tgt := 2) d_Rows_keep_44 rfl ?_
          refine V2_iload_n (i := 2) d_Rows_keep_2 rfl rfl ?_
          refine V2_aload_n (i := 0) d_Rows_keep_3 rfl rfl ?_
          refine V2_getr (a := 40) d_Rows_keep_4 fl_Rows_26 (by decide) rfl (by decide) rfl ?_
          refine V2_alen (t := 0) (v := 4) d_Rows_keep_7 (by decide) rfl (by decide) rfl ?_
          refine V2_icmp_ge (tgt := 47) d_Rows_keep_8 rfl (fun c => (by first | exact absurd c (by decide) | exact absurd (by decide) c)) (fun _ => ?_)
          refine V2_iload_n (i := 2) d_Rows_keep_11 rfl rfl ?_
          refine V2_aload_n (i := 0) d_Rows_keep_12 rfl rfl ?_
          refine V2_getr (a := 41) d_Rows_keep_13 fl_Rows_30 (by decide) rfl (by decide) rfl ?_
          refine V2_alen (t := 0) (v := 4) d_Rows_keep_16 (by decide) rfl (by decide) rfl ?_
          refine V2_icmp_ge (tgt := 47) d_Rows_keep_17 rfl (fun c => (by first | exact absurd c (by decide) | exact absurd (by decide) c)) (fun _ => ?_)
          refine V2_aload_n (i := 0) d_Rows_keep_20 rfl rfl ?_
          refine V2_getr (a := 41) d_Rows_keep_21 fl_Rows_30 (by decide) rfl (by decide) rfl ?_
          refine V2_iload_n (i := 2) d_Rows_keep_24 rfl rfl ?_
          refine V2_iload_n (i := 2) d_Rows_keep_25 rfl rfl ?_
          refine V2_iload_n (i := 1) d_Rows_keep_26 rfl rfl ?_
          refine V2_icmp_gt (tgt := 39) d_Rows_keep_27 rfl (fun c => (by first | exact absurd c (by decide) | exact absurd (by decide) c)) (fun _ => ?_)
          refine V2_aload_n (i := 0) d_Rows_keep_30 rfl rfl ?_
          refine V2_getr (a := 40) d_Rows_keep_31 fl_Rows_26 (by decide) rfl (by decide) rfl ?_
          refine V2_iload_n (i := 2) d_Rows_keep_34 rfl rfl ?_
          refine V2_iaload (v := G 40 1) d_Rows_keep_35 (by decide) rfl (xixA (n := 1) rfl (by decide) (by decide)) rfl ?_
          refine V2_topi (fun v75 ev75 => ?_)
          refine V2_goto (tgt := 40) d_Rows_keep_36 rfl ?_
          refine V2_iastore (j := 1) d_Rows_keep_40 (by decide) rfl (xixA (n := 1) rfl (by decide) (by decide)) rfl ?_
          refine V2_iinc (i := 2) (v := 2) (l' := [some (.ref 36), some (.int (2 : Int32)), some (.int (2 : Int32))]) d_Rows_keep_41 rfl (by decide) (xst_i (Nat.le_of_ble_eq_true rfl) rfl rfl) ?_
          refine V2_goto (tgt := 2) d_Rows_keep_44 rfl ?_
          refine V2_iload_n (i := 2) d_Rows_keep_2 rfl rfl ?_
          refine V2_aload_n (i := 0) d_Rows_keep_3 rfl rfl ?_
          refine V2_getr (a := 40) d_Rows_keep_4 fl_Rows_26 (by decide) rfl (by decide) rfl ?_
          refine V2_alen (t := 0) (v := 4) d_Rows_keep_7 (by decide) rfl (by decide) rfl ?_
          refine V2_icmp_ge (tgt := 47) d_Rows_keep_8 rfl (fun c => (by first | exact absurd c (by decide) | exact absurd (by decide) c)) (fun _ => ?_)
          refine V2_iload_n (i := 2) d_Rows_keep_11 rfl rfl ?_
          refine V2_aload_n (i := 0) d_Rows_keep_12 rfl rfl ?_
          refine V2_getr (a := 41) d_Rows_keep_13 fl_Rows_30 (by decide) rfl (by decide) rfl ?_
          refine V2_alen (t := 0) (v := 4) d_Rows_keep_16 (by decide) rfl (by decide) rfl ?_
          refine V2_icmp_ge (tgt := 47) d_Rows_keep_17 rfl (fun c => (by first | exact absurd c (by decide) | exact absurd (by decide) c)) (fun _ => ?_)
          refine V2_aload_n (i := 0) d_Rows_keep_20 rfl rfl ?_
          refine V2_getr (a := 41) d_Rows_keep_21 fl_Rows_30 (by decide) rfl (by decide) rfl ?_
          refine V2_iload_n (i := 2) d_Rows_keep_24 rfl rfl ?_
          refine V2_iload_n (i := 2) d_Rows_keep_25 rfl rfl ?_
          refine V2_iload_n (i := 1) d_Rows_keep_26 rfl rfl ?_
          refine V2_icmp_gt (tgt := 39) d_Rows_keep_27 rfl (fun c => (by first | exact absurd c (by decide) | exact absurd (by decide) c)) (fun _ => ?_)
          refine V2_aload_n (i := 0) d_Rows_keep_30 rfl rfl ?_
          refine V2_getr (a := 40) d_Rows_keep_31 fl_Rows_26 (by decide) rfl (by decide) rfl ?_
          refine V2_iload_n (i := 2) d_Rows_keep_34 rfl rfl ?_
          refine V2_iaload (v := G 40 2) d_Rows_keep_35 (by decide) rfl (xixA (n := 2) rfl (by decide) (by decide)) rfl ?_
          refine V2_topi (fun v77 ev77 => ?_)
          refine V2_goto (tgt := 40) d_Rows_keep_36 rfl ?_
          refine V2_iastore (j := 2) d_Rows_keep_40 (by decide) rfl (xixA (n := 2) rfl (by decide) (by decide)) rfl ?_
          refine V2_iinc (i := 2) (v := 3) (l' := [some (.ref 36), some (.int (2 : Int32)), some (.int (3 : Int32))]) d_Rows_keep_41 rfl (by decide) (xst_i (Nat.le_of_ble_eq_true rfl) rfl rfl) ?_
          refine V2_goto (tgt := 2) d_Rows_keep_44 rfl ?_
          refine V2_iload_n (i := 2) d_Rows_keep_2 rfl rfl ?_
          refine V2_aload_n (i := 0) d_Rows_keep_3 rfl rfl ?_
          refine V2_getr (a := 40) d_Rows_keep_4 fl_Rows_26 (by decide) rfl (by decide) rfl ?_
          refine V2_alen (t := 0) (v := 4) d_Rows_keep_7 (by decide) rfl (by decide) rfl ?_
          refine V2_icmp_ge (tgt := 47) d_Rows_keep_8 rfl (fun c => (by first | exact absurd c (by decide) | exact absurd (by decide) c)) (fun _ => ?_)
          refine V2_iload_n (i := 2) d_Rows_keep_11 rfl rfl ?_
          refine V2_aload_n (i := 0) d_Rows_keep_12 rfl rfl ?_
          refine V2_getr (a := 41) d_Rows_keep_13 fl_Rows_30 (by decide) rfl (by decide) rfl ?_
          refine V2_alen (t := 0) (v := 4) d_Rows_keep_16 (by decide) rfl (by decide) rfl ?_
          refine V2_icmp_ge (tgt := 47) d_Rows_keep_17 rfl (fun c => (by first | exact absurd c (by decide) | exact absurd (by decide) c)) (fun _ => ?_)
          refine V2_aload_n (i := 0) d_Rows_keep_20 rfl rfl ?_
          refine V2_getr (a := 41) d_Rows_keep_21 fl_Rows_30 (by decide) rfl (by decide) rfl ?_
          refine V2_iload_n (i := 2) d_Rows_keep_24 rfl rfl ?_
          refine V2_iload_n (i := 2) d_Rows_keep_25 rfl rfl ?_
          refine V2_iload_n (i := 1) d_Rows_keep_26 rfl rfl ?_
          refine V2_icmp_gt (tgt := 39) d_Rows_keep_27 rfl (fun _ => ?_) (fun c => (by first | exact absurd c (by decide) | exact absurd (by decide) c))
          refine V2_iconst (v := 0) d_Rows_keep_39 rfl ?_
          refine V2_iastore (j := 3) d_Rows_keep_40 (by decide) rfl (xixA (n := 3) rfl (by decide) (by decide)) rfl ?_
          refine V2_iinc (i := 2) (v := 4) (l' := [some (.ref 36), some (.int (2 : Int32)), some (.int (4 : Int32))]) d_Rows_keep_41 rfl (by decide) (xst_i (Nat.le_of_ble_eq_true rfl) rfl rfl) ?_
          refine V2_goto (tgt := 2) d_Rows_keep_44 rfl ?_
          refine V2_iload_n (i := 2) d_Rows_keep_2 rfl rfl ?_
          refine V2_aload_n (i := 0) d_Rows_keep_3 rfl rfl ?_
          refine V2_getr (a := 40) d_Rows_keep_4 fl_Rows_26 (by decide) rfl (by decide) rfl ?_
          refine V2_alen (t := 0) (v := 4) d_Rows_keep_7 (by decide) rfl (by decide) rfl ?_
          refine V2_icmp_ge (tgt := 47) d_Rows_keep_8 rfl (fun _ => ?_) (fun c => (by first | exact absurd c (by decide) | exact absurd (by decide) c))
          refine V2_return d_Rows_keep_47 rfl ?_
          refine V2.to (st' := []) ?_ rfl rfl rfl rfl
          refine V2_iload_n (i := 3) d_Rows_canBeBetter_110 rfl rfl ?_
          refine V2_iconst (v := 1) d_Rows_canBeBetter_111 rfl ?_
          refine V2_iadd d_Rows_canBeBetter_112 ?_
          refine V2_lit (v := 4) (by decide) ?_
          refine V2_aload_n (i := 0) d_Rows_canBeBetter_113 rfl rfl ?_
          refine V2_get (v := (3 : Int32)) d_Rows_canBeBetter_114 fl_Rows_40 (by decide) rfl (by decide) rfl rfl ?_
          refine V2_icmp_ge (tgt := 124) d_Rows_canBeBetter_117 rfl (fun _ => ?_) (fun c => (by first | exact absurd c (by decide) | exact absurd (by decide) c))
          refine V2_iconst (v := 0) d_Rows_canBeBetter_124 rfl ?_
          refine V2_zreturn d_Rows_canBeBetter_125 rfl (by decide) ?_
          refine V2.to (st' := [.int (0 : Int32)]) ?_ rfl rfl rfl rfl
          refine V2_zreturn d_Rows_goesOn_52 rfl (by decide) ?_
          have hB1 : B ≤ n := hR.1
          have hf : (B = 0 ∧ (G 36 6).toInt = (n : Int) + 1) ∨ (0 < B ∧ (G 36 6).toInt = (B : Int)) := by
            rcases hR.2.1 with ⟨h1, h2⟩ | ⟨h1, h2⟩
            · exact Or.inl ⟨h1, by rw [h2, nI_toInt (by omega)]; omega⟩
            · exact Or.inr ⟨h1, by rw [h2, nI_toInt (by have := hR.1; omega)]⟩
          have hov : (bst.toInt = -1 ∧ B = 0 ∧ (G 36 7).toInt = -1000) ∨ (¬ bst.toInt = -1 ∧ (G 36 7).toInt = hi.toInt) := by
            rcases hR.2.2 with ⟨h1, h2, h3⟩ | ⟨h1, h3, _⟩
            · exact Or.inl ⟨h1, h2, by rw [h3]; decide⟩
            · exact Or.inr ⟨h1, by rw [h3]⟩
          have sA : (T 2 - T 0).toInt = (T 2).toInt - (T 0).toInt := toI_sub (by omega) (by omega) (by omega) (by omega)
          have e2 : G 45 2 = T 2 := hx.2.2.2.2.2.1.2.2.1
          have e0 : G 45 0 = T 0 := hx.2.2.2.2.2.1.1
          have el : G 36 5 = nI n := hx.2.2.1
          have sA2 : (G 45 2 - G 45 0).toInt = (T 2).toInt - (T 0).toInt := by rw [e2, e0]; exact sA
          have nl : (G 36 5).toInt = (n : Int) := by rw [el]; exact nI_toInt (by omega)
          have h5 : T 5 = 1 := by
            have h9 := c7
            subst ev77 ev75 ev73 ev71 ev62 ev34 ev6 ev5 ev4 ev3 ev1
            rw [hx.2.2.2.2.2.1.2.2.2.2.2.2.2] at h9
            exact hx.2.2.2.2.2.2.2.1.2.2.2.2.2.1.resolve_left h9
          exfalso
          exact (by (try clear hQ); (try subst ev77 ev75 ev73 ev71 ev62 ev34 ev6 ev5 ev4 ev3 ev1); ((try simp only [xb_eq, xb_ne, Int32.lt_iff_toInt_lt, Int32.le_iff_toInt_le] at *) <;> (try simp only [← Int32.toInt_inj, true_and, false_and, or_false, false_or, or_true, true_or, and_true, and_false] at *) <;> omega))
        · refine V2_aload_n (i := 0) d_Rows_canBeBetter_52 rfl rfl ?_
          refine V2_get (v := G 36 6) d_Rows_canBeBetter_53 fl_Rows_40 (by decide) rfl (by decide) rfl rfl ?_
          refine V2_topi (fun v80 ev80 => ?_)
          refine V2_aload_n (i := 0) d_Rows_canBeBetter_56 rfl rfl ?_
          refine V2_get (v := G 36 5) d_Rows_canBeBetter_57 fl_Rows_37 (by decide) rfl (by decide) rfl rfl ?_
          refine V2_topi (fun v81 ev81 => ?_)
          refine V2_icmp_le (tgt := 76) d_Rows_canBeBetter_60 rfl (fun c82 => ?_) (fun c82 => ?_)
          · refine V2_iconst (v := 0) d_Rows_canBeBetter_76 rfl ?_
            refine V2_istore (i := 6) (l' := [some (.ref 36), some (.int (2 : Int32)), some (.ref 45), some (.int (3 : Int32)), some (.int v5), some (.int (1 : Int32)), some (.int (0 : Int32))]) d_Rows_canBeBetter_77 (xst_i (Nat.le_of_ble_eq_true rfl) rfl rfl) ?_
            refine V2_iload (i := 5) d_Rows_canBeBetter_79 rfl ?_
            refine V2_if_eq (tgt := 89) d_Rows_canBeBetter_81 rfl (fun c => (by first | exact absurd c (by decide) | exact absurd (by decide) c)) (fun _ => ?_)
            refine V2_aload_n (i := 0) d_Rows_canBeBetter_84 rfl rfl ?_
            refine V2_iload_n (i := 3) d_Rows_canBeBetter_85 rfl rfl ?_
            refine V2_put d_Rows_canBeBetter_86 fl_Rows_40 (by decide) rfl (by decide) rfl ?_
            refine V2_iload (i := 5) d_Rows_canBeBetter_89 rfl ?_
            refine V2_if_ne (tgt := 99) d_Rows_canBeBetter_91 rfl (fun _ => ?_) (fun c => (by first | exact absurd c (by decide) | exact absurd (by decide) c))
            refine V2_aload_n (i := 0) d_Rows_canBeBetter_99 rfl rfl ?_
            refine V2_iload (i := 4) d_Rows_canBeBetter_100 rfl ?_
            refine V2_put d_Rows_canBeBetter_102 fl_Rows_43 (by decide) rfl (by decide) rfl ?_
            refine V2_aload_n (i := 0) d_Rows_canBeBetter_105 rfl rfl ?_
            refine V2_iload_n (i := 1) d_Rows_canBeBetter_106 rfl rfl ?_
            refine V2_callV [.int (2 : Int32)] d_Rows_canBeBetter_107 rfl rfl lk_Rows_132 mo_Rows_keep (by decide) rfl rfl rfl (Nat.le_of_ble_eq_true rfl) (Nat.le_of_ble_eq_true rfl) ?_
            refine V2.to (l' := [some (.ref 36), some (.int (2 : Int32)), none]) ?_ rfl rfl rfl rfl
            refine V2_iconst (v := 0) d_Rows_keep_0 rfl ?_
            refine V2_istore_n (i := 2) (l' := [some (.ref 36), some (.int (2 : Int32)), some (.int (0 : Int32))]) d_Rows_keep_1 rfl (xst_i (Nat.le_of_ble_eq_true rfl) rfl rfl) ?_
            refine V2_iload_n (i := 2) d_Rows_keep_2 rfl rfl ?_
            refine V2_aload_n (i := 0) d_Rows_keep_3 rfl rfl ?_
            refine V2_getr (a := 40) d_Rows_keep_4 fl_Rows_26 (by decide) rfl (by decide) rfl ?_
            refine V2_alen (t := 0) (v := 4) d_Rows_keep_7 (by decide) rfl (by decide) rfl ?_
            refine V2_icmp_ge (tgt := 47) d_Rows_keep_8 rfl (fun c => (by first | exact absurd c (by decide) | exact absurd (by decide) c)) (fun _ => ?_)
            refine V2_iload_n (i := 2) d_Rows_keep_11 rfl rfl ?_
            refine V2_aload_n (i := 0) d_Rows_keep_12 rfl rfl ?_
            refine V2_getr (a := 41) d_Rows_keep_13 fl_Rows_30 (by decide) rfl (by decide) rfl ?_
            refine V2_alen (t := 0) (v := 4) d_Rows_keep_16 (by decide) rfl (by decide) rfl ?_
            refine V2_icmp_ge (tgt := 47) d_Rows_keep_17 rfl (fun c => (by first | exact absurd c (by decide) | exact absurd (by decide) c)) (fun _ => ?_)
            refine V2_aload_n (i := 0) d_Rows_keep_20 rfl rfl ?_
            refine V2_getr (a := 41) d_Rows_keep_21 fl_Rows_30 (by decide) rfl (by decide) rfl ?_
            refine V2_iload_n (i := 2) d_Rows_keep_24 rfl rfl ?_
            refine V2_iload_n (i := 2) d_Rows_keep_25 rfl rfl ?_
            refine V2_iload_n (i := 1) d_Rows_keep_26 rfl rfl ?_
            refine V2_icmp_gt (tgt := 39) d_Rows_keep_27 rfl (fun c => (by first | exact absurd c (by decide) | exact absurd (by decide) c)) (fun _ => ?_)
            refine V2_aload_n (i := 0) d_Rows_keep_30 rfl rfl ?_
            refine V2_getr (a := 40) d_Rows_keep_31 fl_Rows_26 (by decide) rfl (by decide) rfl ?_
            refine V2_iload_n (i := 2) d_Rows_keep_34 rfl rfl ?_
            refine V2_iaload (v := G 40 0) d_Rows_keep_35 (by decide) rfl (xixA (n := 0) rfl (by decide) (by decide)) rfl ?_
            refine V2_topi (fun v83 ev83 => ?_)
            refine V2_goto (tgt := 40) d_Rows_keep_36 rfl ?_
            refine V2_iastore (j := 0) d_Rows_keep_40 (by decide) rfl (xixA (n := 0) rfl (by decide) (by decide)) rfl ?_
            refine V2_iinc (i := 2) (v := 1) (l' := [some (.ref 36), some (.int (2 : Int32)), some (.int (1 : Int32))]) d_Rows_keep_41 rfl (by decide) (xst_i (Nat.le_of_ble_eq_true rfl) rfl rfl) ?_
            refine V2_goto (tgt := 2) d_Rows_keep_44 rfl ?_
            refine V2_iload_n (i := 2) d_Rows_keep_2 rfl rfl ?_
            refine V2_aload_n (i := 0) d_Rows_keep_3 rfl rfl ?_
            refine V2_getr (a := 40) d_Rows_keep_4 fl_Rows_26 (by decide) rfl (by decide) rfl ?_
            refine V2_alen (t := 0) (v := 4) d_Rows_keep_7 (by decide) rfl (by decide) rfl ?_
            refine V2_icmp_ge (tgt := 47) d_Rows_keep_8 rfl (fun c => (by first | exact absurd c (by decide) | exact absurd (by decide) c)) (fun _ => ?_)
            refine V2_iload_n (i := 2) d_Rows_keep_11 rfl rfl ?_
            refine V2_aload_n (i := 0) d_Rows_keep_12 rfl rfl ?_
            refine V2_getr (a := 41) d_Rows_keep_13 fl_Rows_30 (by decide) rfl (by decide) rfl ?_
            refine V2_alen (t := 0) (v := 4) d_Rows_keep_16 (by decide) rfl (by decide) rfl ?_
            refine V2_icmp_ge (tgt := 47) d_Rows_keep_17 rfl (fun c => (by first | exact absurd c (by decide) | exact absurd (by decide) c)) (fun _ => ?_)
            refine V2_aload_n (i := 0) d_Rows_keep_20 rfl rfl ?_
            refine V2_getr (a := 41) d_Rows_keep_21 fl_Rows_30 (by decide) rfl (by decide) rfl ?_
            refine V2_iload_n (i := 2) d_Rows_keep_24 rfl rfl ?_
            refine V2_iload_n (i := 2) d_Rows_keep_25 rfl rfl ?_
            refine V2_iload_n (i := 1) d_Rows_keep_26 rfl rfl ?_
            refine V2_icmp_gt (tgt := 39) d_Rows_keep_27 rfl (fun c => (by first | exact absurd c (by decide) | exact absurd (by decide) c)) (fun _ => ?_)
            refine V2_aload_n (i := 0) d_Rows_keep_30 rfl rfl ?_
            refine V2_getr (a := 40) d_Rows_keep_31 fl_Rows_26 (by decide) rfl (by decide) rfl ?_
            refine V2_iload_n (i := 2) d_Rows_keep_34 rfl rfl ?_
            refine V2_iaload (v := G 40 1) d_Rows_keep_35 (by decide) rfl (xixA (n := 1) rfl (by decide) (by decide)) rfl ?_
            refine V2_topi (fun v85 ev85 => ?_)
            refine V2_goto (tgt := 40) d_Rows_keep_36 rfl ?_
            refine V2_iastore (j := 1) d_Rows_keep_40 (by decide) rfl (xixA (n := 1) rfl (by decide) (by decide)) rfl ?_
            refine V2_iinc (i := 2) (v := 2) (l' := [some (.ref 36), some (.int (2 : Int32)), some (.int (2 : Int32))]) d_Rows_keep_41 rfl (by decide) (xst_i (Nat.le_of_ble_eq_true rfl) rfl rfl) ?_
            refine V2_goto (tgt := 2) d_Rows_keep_44 rfl ?_
            refine V2_iload_n (i := 2) d_Rows_keep_2 rfl rfl ?_
            refine V2_aload_n (i := 0) d_Rows_keep_3 rfl rfl ?_
            refine V2_getr (a := 40) d_Rows_keep_4 fl_Rows_26 (by decide) rfl (by decide) rfl ?_
            refine V2_alen (t := 0) (v := 4) d_Rows_keep_7 (by decide) rfl (by decide) rfl ?_
            refine V2_icmp_ge (tgt := 47) d_Rows_keep_8 rfl (fun c => (by first | exact absurd c (by decide) | exact absurd (by decide) c)) (fun _ => ?_)
            refine V2_iload_n (i := 2) d_Rows_keep_11 rfl rfl ?_
            refine V2_aload_n (i := 0) d_Rows_keep_12 rfl rfl ?_
            refine V2_getr (a := 41) d_Rows_keep_13 fl_Rows_30 (by decide) rfl (by decide) rfl ?_
            refine V2_alen (t := 0) (v := 4) d_Rows_keep_16 (by decide) rfl (by decide) rfl ?_
            refine V2_icmp_ge (tgt := 47) d_Rows_keep_17 rfl (fun c => (by first | exact absurd c (by decide) | exact absurd (by decide) c)) (fun _ => ?_)
            refine V2_aload_n (i := 0) d_Rows_keep_20 rfl rfl ?_
            refine V2_getr (a := 41) d_Rows_keep_21 fl_Rows_30 (by decide) rfl (by decide) rfl ?_
            refine V2_iload_n (i := 2) d_Rows_keep_24 rfl rfl ?_
            refine V2_iload_n (i := 2) d_Rows_keep_25 rfl rfl ?_
            refine V2_iload_n (i := 1) d_Rows_keep_26 rfl rfl ?_
            refine V2_icmp_gt (tgt := 39) d_Rows_keep_27 rfl (fun c => (by first | exact absurd c (by decide) | exact absurd (by decide) c)) (fun _ => ?_)
            refine V2_aload_n (i := 0) d_Rows_keep_30 rfl rfl ?_
            refine V2_getr (a := 40) d_Rows_keep_31 fl_Rows_26 (by decide) rfl (by decide) rfl ?_
            refine V2_iload_n (i := 2) d_Rows_keep_34 rfl rfl ?_
            refine V2_iaload (v := G 40 2) d_Rows_keep_35 (by decide) rfl (xixA (n := 2) rfl (by decide) (by decide)) rfl ?_
            refine V2_topi (fun v87 ev87 => ?_)
            refine V2_goto (tgt := 40) d_Rows_keep_36 rfl ?_
            refine V2_iastore (j := 2) d_Rows_keep_40 (by decide) rfl (xixA (n := 2) rfl (by decide) (by decide)) rfl ?_
            refine V2_iinc (i := 2) (v := 3) (l' := [some (.ref 36), some (.int (2 : Int32)), some (.int (3 : Int32))]) d_Rows_keep_41 rfl (by decide) (xst_i (Nat.le_of_ble_eq_true rfl) rfl rfl) ?_
            refine V2_goto (tgt := 2) d_Rows_keep_44 rfl ?_
            refine V2_iload_n (i := 2) d_Rows_keep_2 rfl rfl ?_
            refine V2_aload_n (i := 0) d_Rows_keep_3 rfl rfl ?_
            refine V2_getr (a := 40) d_Rows_keep_4 fl_Rows_26 (by decide) rfl (by decide) rfl ?_
            refine V2_alen (t := 0) (v := 4) d_Rows_keep_7 (by decide) rfl (by decide) rfl ?_
            refine V2_icmp_ge (tgt := 47) d_Rows_keep_8 rfl (fun c => (by first | exact absurd c (by decide) | exact absurd (by decide) c)) (fun _ => ?_)
            refine V2_iload_n (i := 2) d_Rows_keep_11 rfl rfl ?_
            refine V2_aload_n (i := 0) d_Rows_keep_12 rfl rfl ?_
            refine V2_getr (a := 41) d_Rows_keep_13 fl_Rows_30 (by decide) rfl (by decide) rfl ?_
            refine V2_alen (t := 0) (v := 4) d_Rows_keep_16 (by decide) rfl (by decide) rfl ?_
            refine V2_icmp_ge (tgt := 47) d_Rows_keep_17 rfl (fun c => (by first | exact absurd c (by decide) | exact absurd (by decide) c)) (fun _ => ?_)
            refine V2_aload_n (i := 0) d_Rows_keep_20 rfl rfl ?_
            refine V2_getr (a := 41) d_Rows_keep_21 fl_Rows_30 (by decide) rfl (by decide) rfl ?_
            refine V2_iload_n (i := 2) d_Rows_keep_24 rfl rfl ?_
            refine V2_iload_n (i := 2) d_Rows_keep_25 rfl rfl ?_
            refine V2_iload_n (i := 1) d_Rows_keep_26 rfl rfl ?_
            refine V2_icmp_gt (tgt := 39) d_Rows_keep_27 rfl (fun _ => ?_) (fun c => (by first | exact absurd c (by decide) | exact absurd (by decide) c))
            refine V2_iconst (v := 0) d_Rows_keep_39 rfl ?_
            refine V2_iastore (j := 3) d_Rows_keep_40 (by decide) rfl (xixA (n := 3) rfl (by decide) (by decide)) rfl ?_
            refine V2_iinc (i := 2) (v := 4) (l' := [some (.ref 36), some (.int (2 : Int32)), some (.int (4 : Int32))]) d_Rows_keep_41 rfl (by decide) (xst_i (Nat.le_of_ble_eq_true rfl) rfl rfl) ?_
            refine V2_goto (tgt := 2) d_Rows_keep_44 rfl ?_
            refine V2_iload_n (i := 2) d_Rows_keep_2 rfl rfl ?_
            refine V2_aload_n (i := 0) d_Rows_keep_3 rfl rfl ?_
            refine V2_getr (a := 40) d_Rows_keep_4 fl_Rows_26 (by decide) rfl (by decide) rfl ?_
            refine V2_alen (t := 0) (v := 4) d_Rows_keep_7 (by decide) rfl (by decide) rfl ?_
            refine V2_icmp_ge (tgt := 47) d_Rows_keep_8 rfl (fun _ => ?_) (fun c => (by first | exact absurd c (by decide) | exact absurd (by decide) c))
            refine V2_return d_Rows_keep_47 rfl ?_
            refine V2.to (st' := []) ?_ rfl rfl rfl rfl
            refine V2_iload_n (i := 3) d_Rows_canBeBetter_110 rfl rfl ?_
            refine V2_iconst (v := 1) d_Rows_canBeBetter_111 rfl ?_
            refine V2_iadd d_Rows_canBeBetter_112 ?_
            refine V2_lit (v := 4) (by decide) ?_
            refine V2_aload_n (i := 0) d_Rows_canBeBetter_113 rfl rfl ?_
            refine V2_get (v := (3 : Int32)) d_Rows_canBeBetter_114 fl_Rows_40 (by decide) rfl (by decide) rfl rfl ?_
            refine V2_icmp_ge (tgt := 124) d_Rows_canBeBetter_117 rfl (fun _ => ?_) (fun c => (by first | exact absurd c (by decide) | exact absurd (by decide) c))
            refine V2_iconst (v := 0) d_Rows_canBeBetter_124 rfl ?_
            refine V2_zreturn d_Rows_canBeBetter_125 rfl (by decide) ?_
            refine V2.to (st' := [.int (0 : Int32)]) ?_ rfl rfl rfl rfl
            refine V2_zreturn d_Rows_goesOn_52 rfl (by decide) ?_
            have hB1 : B ≤ n := hR.1
            have hf : (B = 0 ∧ (G 36 6).toInt = (n : Int) + 1) ∨ (0 < B ∧ (G 36 6).toInt = (B : Int)) := by
              rcases hR.2.1 with ⟨h1, h2⟩ | ⟨h1, h2⟩
              · exact Or.inl ⟨h1, by rw [h2, nI_toInt (by omega)]; omega⟩
              · exact Or.inr ⟨h1, by rw [h2, nI_toInt (by have := hR.1; omega)]⟩
            have hov : (bst.toInt = -1 ∧ B = 0 ∧ (G 36 7).toInt = -1000) ∨ (¬ bst.toInt = -1 ∧ (G 36 7).toInt = hi.toInt) := by
              rcases hR.2.2 with ⟨h1, h2, h3⟩ | ⟨h1, h3, _⟩
              · exact Or.inl ⟨h1, h2, by rw [h3]; decide⟩
              · exact Or.inr ⟨h1, by rw [h3]⟩
            have sA : (T 2 - T 0).toInt = (T 2).toInt - (T 0).toInt := toI_sub (by omega) (by omega) (by omega) (by omega)
            have e2 : G 45 2 = T 2 := hx.2.2.2.2.2.1.2.2.1
            have e0 : G 45 0 = T 0 := hx.2.2.2.2.2.1.1
            have el : G 36 5 = nI n := hx.2.2.1
            have sA2 : (G 45 2 - G 45 0).toInt = (T 2).toInt - (T 0).toInt := by rw [e2, e0]; exact sA
            have nl : (G 36 5).toInt = (n : Int) := by rw [el]; exact nI_toInt (by omega)
            have h5 : T 5 = 1 := by
              have h9 := c7
              subst ev87 ev85 ev83 ev81 ev80 ev71 ev62 ev34 ev6 ev5 ev4 ev3 ev1
              rw [hx.2.2.2.2.2.1.2.2.2.2.2.2.2] at h9
              exact hx.2.2.2.2.2.2.2.1.2.2.2.2.2.1.resolve_left h9
            exfalso
            exact (by (try clear hQ); (try subst ev87 ev85 ev83 ev81 ev80 ev71 ev62 ev34 ev6 ev5 ev4 ev3 ev1); ((try simp only [xb_eq, xb_ne, Int32.lt_iff_toInt_lt, Int32.le_iff_toInt_le] at *) <;> (try simp only [← Int32.toInt_inj, true_and, false_and, or_false, false_or, or_true, true_or, and_true, and_false] at *) <;> omega))
          · refine V2_iload (i := 4) d_Rows_canBeBetter_63 rfl ?_
            refine V2_aload_n (i := 0) d_Rows_canBeBetter_65 rfl rfl ?_
            refine V2_get (v := G 36 7) d_Rows_canBeBetter_66 fl_Rows_43 (by decide) rfl (by decide) rfl rfl ?_
            refine V2_topi (fun v90 ev90 => ?_)
            refine V2_icmp_le (tgt := 76) d_Rows_canBeBetter_69 rfl (fun c91 => ?_) (fun c91 => ?_)
            · refine V2_iconst (v := 0) d_Rows_canBeBetter_76 rfl ?_
              refine V2_istore (i := 6) (l' := [some (.ref 36), some (.int (2 : Int32)), some (.ref 45), some (.int (3 : Int32)), some (.int v5), some (.int (1 : Int32)), some (.int (0 : Int32))]) d_Rows_canBeBetter_77 (xst_i (Nat.le_of_ble_eq_true rfl) rfl rfl) ?_
              refine V2_iload (i := 5) d_Rows_canBeBetter_79 rfl ?_
              refine V2_if_eq (tgt := 89) d_Rows_canBeBetter_81 rfl (fun c => (by first | exact absurd c (by decide) | exact absurd (by decide) c)) (fun _ => ?_)
              refine V2_aload_n (i := 0) d_Rows_canBeBetter_84 rfl rfl ?_
              refine V2_iload_n (i := 3) d_Rows_canBeBetter_85 rfl rfl ?_
              refine V2_put d_Rows_canBeBetter_86 fl_Rows_40 (by decide) rfl (by decide) rfl ?_
              refine V2_iload (i := 5) d_Rows_canBeBetter_89 rfl ?_
              refine V2_if_ne (tgt := 99) d_Rows_canBeBetter_91 rfl (fun _ => ?_) (fun c => (by first | exact absurd c (by decide) | exact absurd (by decide) c))
              refine V2_aload_n (i := 0) d_Rows_canBeBetter_99 rfl rfl ?_
              refine V2_iload (i := 4) d_Rows_canBeBetter_100 rfl ?_
              refine V2_put d_Rows_canBeBetter_102 fl_Rows_43 (by decide) rfl (by decide) rfl ?_
              refine V2_aload_n (i := 0) d_Rows_canBeBetter_105 rfl rfl ?_
              refine V2_iload_n (i := 1) d_Rows_canBeBetter_106 rfl rfl ?_
              refine V2_callV [.int (2 : Int32)] d_Rows_canBeBetter_107 rfl rfl lk_Rows_132 mo_Rows_keep (by decide) rfl rfl rfl (Nat.le_of_ble_eq_true rfl) (Nat.le_of_ble_eq_true rfl) ?_
              refine V2.to (l' := [some (.ref 36), some (.int (2 : Int32)), none]) ?_ rfl rfl rfl rfl
              refine V2_iconst (v := 0) d_Rows_keep_0 rfl ?_
              refine V2_istore_n (i := 2) (l' := [some (.ref 36), some (.int (2 : Int32)), some (.int (0 : Int32))]) d_Rows_keep_1 rfl (xst_i (Nat.le_of_ble_eq_true rfl) rfl rfl) ?_
              refine V2_iload_n (i := 2) d_Rows_keep_2 rfl rfl ?_
              refine V2_aload_n (i := 0) d_Rows_keep_3 rfl rfl ?_
              refine V2_getr (a := 40) d_Rows_keep_4 fl_Rows_26 (by decide) rfl (by decide) rfl ?_
              refine V2_alen (t := 0) (v := 4) d_Rows_keep_7 (by decide) rfl (by decide) rfl ?_
              refine V2_icmp_ge (tgt := 47) d_Rows_keep_8 rfl (fun c => (by first | exact absurd c (by decide) | exact absurd (by decide) c)) (fun _ => ?_)
              refine V2_iload_n (i := 2) d_Rows_keep_11 rfl rfl ?_
              refine V2_aload_n (i := 0) d_Rows_keep_12 rfl rfl ?_
              refine V2_getr (a := 41) d_Rows_keep_13 fl_Rows_30 (by decide) rfl (by decide) rfl ?_
              refine V2_alen (t := 0) (v := 4) d_Rows_keep_16 (by decide) rfl (by decide) rfl ?_
              refine V2_icmp_ge (tgt := 47) d_Rows_keep_17 rfl (fun c => (by first | exact absurd c (by decide) | exact absurd (by decide) c)) (fun _ => ?_)
              refine V2_aload_n (i := 0) d_Rows_keep_20 rfl rfl ?_
              refine V2_getr (a := 41) d_Rows_keep_21 fl_Rows_30 (by decide) rfl (by decide) rfl ?_
              refine V2_iload_n (i := 2) d_Rows_keep_24 rfl rfl ?_
              refine V2_iload_n (i := 2) d_Rows_keep_25 rfl rfl ?_
              refine V2_iload_n (i := 1) d_Rows_keep_26 rfl rfl ?_
              refine V2_icmp_gt (tgt := 39) d_Rows_keep_27 rfl (fun c => (by first | exact absurd c (by decide) | exact absurd (by decide) c)) (fun _ => ?_)
              refine V2_aload_n (i := 0) d_Rows_keep_30 rfl rfl ?_
              refine V2_getr (a := 40) d_Rows_keep_31 fl_Rows_26 (by decide) rfl (by decide) rfl ?_
              refine V2_iload_n (i := 2) d_Rows_keep_34 rfl rfl ?_
              refine V2_iaload (v := G 40 0) d_Rows_keep_35 (by decide) rfl (xixA (n := 0) rfl (by decide) (by decide)) rfl ?_
              refine V2_topi (fun v92 ev92 => ?_)
              refine V2_goto (tgt := 40) d_Rows_keep_36 rfl ?_
              refine V2_iastore (j := 0) d_Rows_keep_40 (by decide) rfl (xixA (n := 0) rfl (by decide) (by decide)) rfl ?_
              refine V2_iinc (i := 2) (v := 1) (l' := [some (.ref 36), some (.int (2 : Int32)), some (.int (1 : Int32))]) d_Rows_keep_41 rfl (by decide) (xst_i (Nat.le_of_ble_eq_true rfl) rfl rfl) ?_
              refine V2_goto (tgt := 2) d_Rows_keep_44 rfl ?_
              refine V2_iload_n (i := 2) d_Rows_keep_2 rfl rfl ?_
              refine V2_aload_n (i := 0) d_Rows_keep_3 rfl rfl ?_
              refine V2_getr (a := 40) d_Rows_keep_4 fl_Rows_26 (by decide) rfl (by decide) rfl ?_
              refine V2_alen (t := 0) (v := 4) d_Rows_keep_7 (by decide) rfl (by decide) rfl ?_
              refine V2_icmp_ge (tgt := 47) d_Rows_keep_8 rfl (fun c => (by first | exact absurd c (by decide) | exact absurd (by decide) c)) (fun _ => ?_)
              refine V2_iload_n (i := 2) d_Rows_keep_11 rfl rfl ?_
              refine V2_aload_n (i := 0) d_Rows_keep_12 rfl rfl ?_
              refine V2_getr (a := 41) d_Rows_keep_13 fl_Rows_30 (by decide) rfl (by decide) rfl ?_
              refine V2_alen (t := 0) (v := 4) d_Rows_keep_16 (by decide) rfl (by decide) rfl ?_
              refine V2_icmp_ge (tgt := 47) d_Rows_keep_17 rfl (fun c => (by first | exact absurd c (by decide) | exact absurd (by decide) c)) (fun _ => ?_)
              refine V2_aload_n (i := 0) d_Rows_keep_20 rfl rfl ?_
              refine V2_getr (a := 41) d_Rows_keep_21 fl_Rows_30 (by decide) rfl (by decide) rfl ?_
              refine V2_iload_n (i := 2) d_Rows_keep_24 rfl rfl ?_
              refine V2_iload_n (i := 2) d_Rows_keep_25 rfl rfl ?_
              refine V2_iload_n (i := 1) d_Rows_keep_26 rfl rfl ?_
              refine V2_icmp_gt (tgt := 39) d_Rows_keep_27 rfl (fun c => (by first | exact absurd c (by decide) | exact absurd (by decide) c)) (fun _ => ?_)
              refine V2_aload_n (i := 0) d_Rows_keep_30 rfl rfl ?_
              refine V2_getr (a := 40) d_Rows_keep_31 fl_Rows_26 (by decide) rfl (by decide) rfl ?_
              refine V2_iload_n (i := 2) d_Rows_keep_34 rfl rfl ?_
              refine V2_iaload (v := G 40 1) d_Rows_keep_35 (by decide) rfl (xixA (n := 1) rfl (by decide) (by decide)) rfl ?_
              refine V2_topi (fun v94 ev94 => ?_)
              refine V2_goto (tgt := 40) d_Rows_keep_36 rfl ?_
              refine V2_iastore (j := 1) d_Rows_keep_40 (by decide) rfl (xixA (n := 1) rfl (by decide) (by decide)) rfl ?_
              refine V2_iinc (i := 2) (v := 2) (l' := [some (.ref 36), some (.int (2 : Int32)), some (.int (2 : Int32))]) d_Rows_keep_41 rfl (by decide) (xst_i (Nat.le_of_ble_eq_true rfl) rfl rfl) ?_
              refine V2_goto (tgt := 2) d_Rows_keep_44 rfl ?_
              refine V2_iload_n (i := 2) d_Rows_keep_2 rfl rfl ?_
              refine V2_aload_n (i := 0) d_Rows_keep_3 rfl rfl ?_
              refine V2_getr (a := 40) d_Rows_keep_4 fl_Rows_26 (by decide) rfl (by decide) rfl ?_
              refine V2_alen (t := 0) (v := 4) d_Rows_keep_7 (by decide) rfl (by decide) rfl ?_
              refine V2_icmp_ge (tgt := 47) d_Rows_keep_8 rfl (fun c => (by first | exact absurd c (by decide) | exact absurd (by decide) c)) (fun _ => ?_)
              refine V2_iload_n (i := 2) d_Rows_keep_11 rfl rfl ?_
              refine V2_aload_n (i := 0) d_Rows_keep_12 rfl rfl ?_
              refine V2_getr (a := 41) d_Rows_keep_13 fl_Rows_30 (by decide) rfl (by decide) rfl ?_
              refine V2_alen (t := 0) (v := 4) d_Rows_keep_16 (by decide) rfl (by decide) rfl ?_
              refine V2_icmp_ge (tgt := 47) d_Rows_keep_17 rfl (fun c => (by first | exact absurd c (by decide) | exact absurd (by decide) c)) (fun _ => ?_)
              refine V2_aload_n (i := 0) d_Rows_keep_20 rfl rfl ?_
              refine V2_getr (a := 41) d_Rows_keep_21 fl_Rows_30 (by decide) rfl (by decide) rfl ?_
              refine V2_iload_n (i := 2) d_Rows_keep_24 rfl rfl ?_
              refine V2_iload_n (i := 2) d_Rows_keep_25 rfl rfl ?_
              refine V2_iload_n (i := 1) d_Rows_keep_26 rfl rfl ?_
              refine V2_icmp_gt (tgt := 39) d_Rows_keep_27 rfl (fun c => (by first | exact absurd c (by decide) | exact absurd (by decide) c)) (fun _ => ?_)
              refine V2_aload_n (i := 0) d_Rows_keep_30 rfl rfl ?_
              refine V2_getr (a := 40) d_Rows_keep_31 fl_Rows_26 (by decide) rfl (by decide) rfl ?_
              refine V2_iload_n (i := 2) d_Rows_keep_34 rfl rfl ?_
              refine V2_iaload (v := G 40 2) d_Rows_keep_35 (by decide) rfl (xixA (n := 2) rfl (by decide) (by decide)) rfl ?_
              refine V2_topi (fun v96 ev96 => ?_)
              refine V2_goto (tgt := 40) d_Rows_keep_36 rfl ?_
              refine V2_iastore (j := 2) d_Rows_keep_40 (by decide) rfl (xixA (n := 2) rfl (by decide) (by decide)) rfl ?_
              refine V2_iinc (i := 2) (v := 3) (l' := [some (.ref 36), some (.int (2 : Int32)), some (.int (3 : Int32))]) d_Rows_keep_41 rfl (by decide) (xst_i (Nat.le_of_ble_eq_true rfl) rfl rfl) ?_
              refine V2_goto (tgt := 2) d_Rows_keep_44 rfl ?_
              refine V2_iload_n (i := 2) d_Rows_keep_2 rfl rfl ?_
              refine V2_aload_n (i := 0) d_Rows_keep_3 rfl rfl ?_
              refine V2_getr (a := 40) d_Rows_keep_4 fl_Rows_26 (by decide) rfl (by decide) rfl ?_
              refine V2_alen (t := 0) (v := 4) d_Rows_keep_7 (by decide) rfl (by decide) rfl ?_
              refine V2_icmp_ge (tgt := 47) d_Rows_keep_8 rfl (fun c => (by first | exact absurd c (by decide) | exact absurd (by decide) c)) (fun _ => ?_)
              refine V2_iload_n (i := 2) d_Rows_keep_11 rfl rfl ?_
              refine V2_aload_n (i := 0) d_Rows_keep_12 rfl rfl ?_
              refine V2_getr (a := 41) d_Rows_keep_13 fl_Rows_30 (by decide) rfl (by decide) rfl ?_
              refine V2_alen (t := 0) (v := 4) d_Rows_keep_16 (by decide) rfl (by decide) rfl ?_
              refine V2_icmp_ge (tgt := 47) d_Rows_keep_17 rfl (fun c => (by first | exact absurd c (by decide) | exact absurd (by decide) c)) (fun _ => ?_)
              refine V2_aload_n (i := 0) d_Rows_keep_20 rfl rfl ?_
              refine V2_getr (a := 41) d_Rows_keep_21 fl_Rows_30 (by decide) rfl (by decide) rfl ?_
              refine V2_iload_n (i := 2) d_Rows_keep_24 rfl rfl ?_
              refine V2_iload_n (i := 2) d_Rows_keep_25 rfl rfl ?_
              refine V2_iload_n (i := 1) d_Rows_keep_26 rfl rfl ?_
              refine V2_icmp_gt (tgt := 39) d_Rows_keep_27 rfl (fun _ => ?_) (fun c => (by first | exact absurd c (by decide) | exact absurd (by decide) c))
              refine V2_iconst (v := 0) d_Rows_keep_39 rfl ?_
              refine V2_iastore (j := 3) d_Rows_keep_40 (by decide) rfl (xixA (n := 3) rfl (by decide) (by decide)) rfl ?_
              refine V2_iinc (i := 2) (v := 4) (l' := [some (.ref 36), some (.int (2 : Int32)), some (.int (4 : Int32))]) d_Rows_keep_41 rfl (by decide) (xst_i (Nat.le_of_ble_eq_true rfl) rfl rfl) ?_
              refine V2_goto (tgt := 2) d_Rows_keep_44 rfl ?_
              refine V2_iload_n (i := 2) d_Rows_keep_2 rfl rfl ?_
              refine V2_aload_n (i := 0) d_Rows_keep_3 rfl rfl ?_
              refine V2_getr (a := 40) d_Rows_keep_4 fl_Rows_26 (by decide) rfl (by decide) rfl ?_
              refine V2_alen (t := 0) (v := 4) d_Rows_keep_7 (by decide) rfl (by decide) rfl ?_
              refine V2_icmp_ge (tgt := 47) d_Rows_keep_8 rfl (fun _ => ?_) (fun c => (by first | exact absurd c (by decide) | exact absurd (by decide) c))
              refine V2_return d_Rows_keep_47 rfl ?_
              refine V2.to (st' := []) ?_ rfl rfl rfl rfl
              refine V2_iload_n (i := 3) d_Rows_canBeBetter_110 rfl rfl ?_
              refine V2_iconst (v := 1) d_Rows_canBeBetter_111 rfl ?_
              refine V2_iadd d_Rows_canBeBetter_112 ?_
              refine V2_lit (v := 4) (by decide) ?_
              refine V2_aload_n (i := 0) d_Rows_canBeBetter_113 rfl rfl ?_
              refine V2_get (v := (3 : Int32)) d_Rows_canBeBetter_114 fl_Rows_40 (by decide) rfl (by decide) rfl rfl ?_
              refine V2_icmp_ge (tgt := 124) d_Rows_canBeBetter_117 rfl (fun _ => ?_) (fun c => (by first | exact absurd c (by decide) | exact absurd (by decide) c))
              refine V2_iconst (v := 0) d_Rows_canBeBetter_124 rfl ?_
              refine V2_zreturn d_Rows_canBeBetter_125 rfl (by decide) ?_
              refine V2.to (st' := [.int (0 : Int32)]) ?_ rfl rfl rfl rfl
              refine V2_zreturn d_Rows_goesOn_52 rfl (by decide) ?_
              have hB1 : B ≤ n := hR.1
              have hf : (B = 0 ∧ (G 36 6).toInt = (n : Int) + 1) ∨ (0 < B ∧ (G 36 6).toInt = (B : Int)) := by
                rcases hR.2.1 with ⟨h1, h2⟩ | ⟨h1, h2⟩
                · exact Or.inl ⟨h1, by rw [h2, nI_toInt (by omega)]; omega⟩
                · exact Or.inr ⟨h1, by rw [h2, nI_toInt (by have := hR.1; omega)]⟩
              have hov : (bst.toInt = -1 ∧ B = 0 ∧ (G 36 7).toInt = -1000) ∨ (¬ bst.toInt = -1 ∧ (G 36 7).toInt = hi.toInt) := by
                rcases hR.2.2 with ⟨h1, h2, h3⟩ | ⟨h1, h3, _⟩
                · exact Or.inl ⟨h1, h2, by rw [h3]; decide⟩
                · exact Or.inr ⟨h1, by rw [h3]⟩
              have sA : (T 2 - T 0).toInt = (T 2).toInt - (T 0).toInt := toI_sub (by omega) (by omega) (by omega) (by omega)
              have e2 : G 45 2 = T 2 := hx.2.2.2.2.2.1.2.2.1
              have e0 : G 45 0 = T 0 := hx.2.2.2.2.2.1.1
              have el : G 36 5 = nI n := hx.2.2.1
              have sA2 : (G 45 2 - G 45 0).toInt = (T 2).toInt - (T 0).toInt := by rw [e2, e0]; exact sA
              have nl : (G 36 5).toInt = (n : Int) := by rw [el]; exact nI_toInt (by omega)
              have h5 : T 5 = 1 := by
                have h9 := c7
                subst ev96 ev94 ev92 ev90 ev81 ev80 ev71 ev62 ev34 ev6 ev5 ev4 ev3 ev1
                rw [hx.2.2.2.2.2.1.2.2.2.2.2.2.2] at h9
                exact hx.2.2.2.2.2.2.2.1.2.2.2.2.2.1.resolve_left h9
              exfalso
              exact (by (try clear hQ); (try subst ev96 ev94 ev92 ev90 ev81 ev80 ev71 ev62 ev34 ev6 ev5 ev4 ev3 ev1); ((try simp only [xb_eq, xb_ne, Int32.lt_iff_toInt_lt, Int32.le_iff_toInt_le] at *) <;> (try simp only [← Int32.toInt_inj, true_and, false_and, or_false, false_or, or_true, true_or, and_true, and_false] at *) <;> omega))
            · refine V2_iconst (v := 1) d_Rows_canBeBetter_72 rfl ?_
              refine V2_goto (tgt := 77) d_Rows_canBeBetter_73 rfl ?_
              refine V2_istore (i := 6) (l' := [some (.ref 36), some (.int (2 : Int32)), some (.ref 45), some (.int (3 : Int32)), some (.int v5), some (.int (1 : Int32)), some (.int (1 : Int32))]) d_Rows_canBeBetter_77 (xst_i (Nat.le_of_ble_eq_true rfl) rfl rfl) ?_
              refine V2_iload (i := 5) d_Rows_canBeBetter_79 rfl ?_
              refine V2_if_eq (tgt := 89) d_Rows_canBeBetter_81 rfl (fun c => (by first | exact absurd c (by decide) | exact absurd (by decide) c)) (fun _ => ?_)
              refine V2_aload_n (i := 0) d_Rows_canBeBetter_84 rfl rfl ?_
              refine V2_iload_n (i := 3) d_Rows_canBeBetter_85 rfl rfl ?_
              refine V2_put d_Rows_canBeBetter_86 fl_Rows_40 (by decide) rfl (by decide) rfl ?_
              refine V2_iload (i := 5) d_Rows_canBeBetter_89 rfl ?_
              refine V2_if_ne (tgt := 99) d_Rows_canBeBetter_91 rfl (fun _ => ?_) (fun c => (by first | exact absurd c (by decide) | exact absurd (by decide) c))
              refine V2_aload_n (i := 0) d_Rows_canBeBetter_99 rfl rfl ?_
              refine V2_iload (i := 4) d_Rows_canBeBetter_100 rfl ?_
              refine V2_put d_Rows_canBeBetter_102 fl_Rows_43 (by decide) rfl (by decide) rfl ?_
              refine V2_aload_n (i := 0) d_Rows_canBeBetter_105 rfl rfl ?_
              refine V2_iload_n (i := 1) d_Rows_canBeBetter_106 rfl rfl ?_
              refine V2_callV [.int (2 : Int32)] d_Rows_canBeBetter_107 rfl rfl lk_Rows_132 mo_Rows_keep (by decide) rfl rfl rfl (Nat.le_of_ble_eq_true rfl) (Nat.le_of_ble_eq_true rfl) ?_
              refine V2.to (l' := [some (.ref 36), some (.int (2 : Int32)), none]) ?_ rfl rfl rfl rfl
              refine V2_iconst (v := 0) d_Rows_keep_0 rfl ?_
              refine V2_istore_n (i := 2) (l' := [some (.ref 36), some (.int (2 : Int32)), some (.int (0 : Int32))]) d_Rows_keep_1 rfl (xst_i (Nat.le_of_ble_eq_true rfl) rfl rfl) ?_
              refine V2_iload_n (i := 2) d_Rows_keep_2 rfl rfl ?_
              refine V2_aload_n (i := 0) d_Rows_keep_3 rfl rfl ?_
              refine V2_getr (a := 40) d_Rows_keep_4 fl_Rows_26 (by decide) rfl (by decide) rfl ?_
              refine V2_alen (t := 0) (v := 4) d_Rows_keep_7 (by decide) rfl (by decide) rfl ?_
              refine V2_icmp_ge (tgt := 47) d_Rows_keep_8 rfl (fun c => (by first | exact absurd c (by decide) | exact absurd (by decide) c)) (fun _ => ?_)
              refine V2_iload_n (i := 2) d_Rows_keep_11 rfl rfl ?_
              refine V2_aload_n (i := 0) d_Rows_keep_12 rfl rfl ?_
              refine V2_getr (a := 41) d_Rows_keep_13 fl_Rows_30 (by decide) rfl (by decide) rfl ?_
              refine V2_alen (t := 0) (v := 4) d_Rows_keep_16 (by decide) rfl (by decide) rfl ?_
              refine V2_icmp_ge (tgt := 47) d_Rows_keep_17 rfl (fun c => (by first | exact absurd c (by decide) | exact absurd (by decide) c)) (fun _ => ?_)
              refine V2_aload_n (i := 0) d_Rows_keep_20 rfl rfl ?_
              refine V2_getr (a := 41) d_Rows_keep_21 fl_Rows_30 (by decide) rfl (by decide) rfl ?_
              refine V2_iload_n (i := 2) d_Rows_keep_24 rfl rfl ?_
              refine V2_iload_n (i := 2) d_Rows_keep_25 rfl rfl ?_
              refine V2_iload_n (i := 1) d_Rows_keep_26 rfl rfl ?_
              refine V2_icmp_gt (tgt := 39) d_Rows_keep_27 rfl (fun c => (by first | exact absurd c (by decide) | exact absurd (by decide) c)) (fun _ => ?_)
              refine V2_aload_n (i := 0) d_Rows_keep_30 rfl rfl ?_
              refine V2_getr (a := 40) d_Rows_keep_31 fl_Rows_26 (by decide) rfl (by decide) rfl ?_
              refine V2_iload_n (i := 2) d_Rows_keep_34 rfl rfl ?_
              refine V2_iaload (v := G 40 0) d_Rows_keep_35 (by decide) rfl (xixA (n := 0) rfl (by decide) (by decide)) rfl ?_
              refine V2_topi (fun v99 ev99 => ?_)
              refine V2_goto (tgt := 40) d_Rows_keep_36 rfl ?_
              refine V2_iastore (j := 0) d_Rows_keep_40 (by decide) rfl (xixA (n := 0) rfl (by decide) (by decide)) rfl ?_
              refine V2_iinc (i := 2) (v := 1) (l' := [some (.ref 36), some (.int (2 : Int32)), some (.int (1 : Int32))]) d_Rows_keep_41 rfl (by decide) (xst_i (Nat.le_of_ble_eq_true rfl) rfl rfl) ?_
              refine V2_goto (tgt := 2) d_Rows_keep_44 rfl ?_
              refine V2_iload_n (i := 2) d_Rows_keep_2 rfl rfl ?_
              refine V2_aload_n (i := 0) d_Rows_keep_3 rfl rfl ?_
              refine V2_getr (a := 40) d_Rows_keep_4 fl_Rows_26 (by decide) rfl (by decide) rfl ?_
              refine V2_alen (t := 0) (v := 4) d_Rows_keep_7 (by decide) rfl (by decide) rfl ?_
              refine V2_icmp_ge (tgt := 47) d_Rows_keep_8 rfl (fun c => (by first | exact absurd c (by decide) | exact absurd (by decide) c)) (fun _ => ?_)
              refine V2_iload_n (i := 2) d_Rows_keep_11 rfl rfl ?_
              refine V2_aload_n (i := 0) d_Rows_keep_12 rfl rfl ?_
              refine V2_getr (a := 41) d_Rows_keep_13 fl_Rows_30 (by decide) rfl (by decide) rfl ?_
              refine V2_alen (t := 0) (v := 4) d_Rows_keep_16 (by decide) rfl (by decide) rfl ?_
              refine V2_icmp_ge (tgt := 47) d_Rows_keep_17 rfl (fun c => (by first | exact absurd c (by decide) | exact absurd (by decide) c)) (fun _ => ?_)
              refine V2_aload_n (i := 0) d_Rows_keep_20 rfl rfl ?_
              refine V2_getr (a := 41) d_Rows_keep_21 fl_Rows_30 (by decide) rfl (by decide) rfl ?_
              refine V2_iload_n (i := 2) d_Rows_keep_24 rfl rfl ?_
              refine V2_iload_n (i := 2) d_Rows_keep_25 rfl rfl ?_
              refine V2_iload_n (i := 1) d_Rows_keep_26 rfl rfl ?_
              refine V2_icmp_gt (tgt := 39) d_Rows_keep_27 rfl (fun c => (by first | exact absurd c (by decide) | exact absurd (by decide) c)) (fun _ => ?_)
              refine V2_aload_n (i := 0) d_Rows_keep_30 rfl rfl ?_
              refine V2_getr (a := 40) d_Rows_keep_31 fl_Rows_26 (by decide) rfl (by decide) rfl ?_
              refine V2_iload_n (i := 2) d_Rows_keep_34 rfl rfl ?_
              refine V2_iaload (v := G 40 1) d_Rows_keep_35 (by decide) rfl (xixA (n := 1) rfl (by decide) (by decide)) rfl ?_
              refine V2_topi (fun v101 ev101 => ?_)
              refine V2_goto (tgt := 40) d_Rows_keep_36 rfl ?_
              refine V2_iastore (j := 1) d_Rows_keep_40 (by decide) rfl (xixA (n := 1) rfl (by decide) (by decide)) rfl ?_
              refine V2_iinc (i := 2) (v := 2) (l' := [some (.ref 36), some (.int (2 : Int32)), some (.int (2 : Int32))]) d_Rows_keep_41 rfl (by decide) (xst_i (Nat.le_of_ble_eq_true rfl) rfl rfl) ?_
              refine V2_goto (tgt := 2) d_Rows_keep_44 rfl ?_
              refine V2_iload_n (i := 2) d_Rows_keep_2 rfl rfl ?_
              refine V2_aload_n (i := 0) d_Rows_keep_3 rfl rfl ?_
              refine V2_getr (a := 40) d_Rows_keep_4 fl_Rows_26 (by decide) rfl (by decide) rfl ?_
              refine V2_alen (t := 0) (v := 4) d_Rows_keep_7 (by decide) rfl (by decide) rfl ?_
              refine V2_icmp_ge (tgt := 47) d_Rows_keep_8 rfl (fun c => (by first | exact absurd c (by decide) | exact absurd (by decide) c)) (fun _ => ?_)
              refine V2_iload_n (i := 2) d_Rows_keep_11 rfl rfl ?_
              refine V2_aload_n (i := 0) d_Rows_keep_12 rfl rfl ?_
              refine V2_getr (a := 41) d_Rows_keep_13 fl_Rows_30 (by decide) rfl (by decide) rfl ?_
              refine V2_alen (t := 0) (v := 4) d_Rows_keep_16 (by decide) rfl (by decide) rfl ?_
              refine V2_icmp_ge (tgt := 47) d_Rows_keep_17 rfl (fun c => (by first | exact absurd c (by decide) | exact absurd (by decide) c)) (fun _ => ?_)
              refine V2_aload_n (i := 0) d_Rows_keep_20 rfl rfl ?_
              refine V2_getr (a := 41) d_Rows_keep_21 fl_Rows_30 (by decide) rfl (by decide) rfl ?_
              refine V2_iload_n (i := 2) d_Rows_keep_24 rfl rfl ?_
              refine V2_iload_n (i := 2) d_Rows_keep_25 rfl rfl ?_
              refine V2_iload_n (i := 1) d_Rows_keep_26 rfl rfl ?_
              refine V2_icmp_gt (tgt := 39) d_Rows_keep_27 rfl (fun c => (by first | exact absurd c (by decide) | exact absurd (by decide) c)) (fun _ => ?_)
              refine V2_aload_n (i := 0) d_Rows_keep_30 rfl rfl ?_
              refine V2_getr (a := 40) d_Rows_keep_31 fl_Rows_26 (by decide) rfl (by decide) rfl ?_
              refine V2_iload_n (i := 2) d_Rows_keep_34 rfl rfl ?_
              refine V2_iaload (v := G 40 2) d_Rows_keep_35 (by decide) rfl (xixA (n := 2) rfl (by decide) (by decide)) rfl ?_
              refine V2_topi (fun v103 ev103 => ?_)
              refine V2_goto (tgt := 40) d_Rows_keep_36 rfl ?_
              refine V2_iastore (j := 2) d_Rows_keep_40 (by decide) rfl (xixA (n := 2) rfl (by decide) (by decide)) rfl ?_
              refine V2_iinc (i := 2) (v := 3) (l' := [some (.ref 36), some (.int (2 : Int32)), some (.int (3 : Int32))]) d_Rows_keep_41 rfl (by decide) (xst_i (Nat.le_of_ble_eq_true rfl) rfl rfl) ?_
              refine V2_goto (tgt := 2) d_Rows_keep_44 rfl ?_
              refine V2_iload_n (i := 2) d_Rows_keep_2 rfl rfl ?_
              refine V2_aload_n (i := 0) d_Rows_keep_3 rfl rfl ?_
              refine V2_getr (a := 40) d_Rows_keep_4 fl_Rows_26 (by decide) rfl (by decide) rfl ?_
              refine V2_alen (t := 0) (v := 4) d_Rows_keep_7 (by decide) rfl (by decide) rfl ?_
              refine V2_icmp_ge (tgt := 47) d_Rows_keep_8 rfl (fun c => (by first | exact absurd c (by decide) | exact absurd (by decide) c)) (fun _ => ?_)
              refine V2_iload_n (i := 2) d_Rows_keep_11 rfl rfl ?_
              refine V2_aload_n (i := 0) d_Rows_keep_12 rfl rfl ?_
              refine V2_getr (a := 41) d_Rows_keep_13 fl_Rows_30 (by decide) rfl (by decide) rfl ?_
              refine V2_alen (t := 0) (v := 4) d_Rows_keep_16 (by decide) rfl (by decide) rfl ?_
              refine V2_icmp_ge (tgt := 47) d_Rows_keep_17 rfl (fun c => (by first | exact absurd c (by decide) | exact absurd (by decide) c)) (fun _ => ?_)
              refine V2_aload_n (i := 0) d_Rows_keep_20 rfl rfl ?_
              refine V2_getr (a := 41) d_Rows_keep_21 fl_Rows_30 (by decide) rfl (by decide) rfl ?_
              refine V2_iload_n (i := 2) d_Rows_keep_24 rfl rfl ?_
              refine V2_iload_n (i := 2) d_Rows_keep_25 rfl rfl ?_
              refine V2_iload_n (i := 1) d_Rows_keep_26 rfl rfl ?_
              refine V2_icmp_gt (tgt := 39) d_Rows_keep_27 rfl (fun _ => ?_) (fun c => (by first | exact absurd c (by decide) | exact absurd (by decide) c))
              refine V2_iconst (v := 0) d_Rows_keep_39 rfl ?_
              refine V2_iastore (j := 3) d_Rows_keep_40 (by decide) rfl (xixA (n := 3) rfl (by decide) (by decide)) rfl ?_
              refine V2_iinc (i := 2) (v := 4) (l' := [some (.ref 36), some (.int (2 : Int32)), some (.int (4 : Int32))]) d_Rows_keep_41 rfl (by decide) (xst_i (Nat.le_of_ble_eq_true rfl) rfl rfl) ?_
              refine V2_goto (tgt := 2) d_Rows_keep_44 rfl ?_
              refine V2_iload_n (i := 2) d_Rows_keep_2 rfl rfl ?_
              refine V2_aload_n (i := 0) d_Rows_keep_3 rfl rfl ?_
              refine V2_getr (a := 40) d_Rows_keep_4 fl_Rows_26 (by decide) rfl (by decide) rfl ?_
              refine V2_alen (t := 0) (v := 4) d_Rows_keep_7 (by decide) rfl (by decide) rfl ?_
              refine V2_icmp_ge (tgt := 47) d_Rows_keep_8 rfl (fun _ => ?_) (fun c => (by first | exact absurd c (by decide) | exact absurd (by decide) c))
              refine V2_return d_Rows_keep_47 rfl ?_
              refine V2.to (st' := []) ?_ rfl rfl rfl rfl
              refine V2_iload_n (i := 3) d_Rows_canBeBetter_110 rfl rfl ?_
              refine V2_iconst (v := 1) d_Rows_canBeBetter_111 rfl ?_
              refine V2_iadd d_Rows_canBeBetter_112 ?_
              refine V2_lit (v := 4) (by decide) ?_
              refine V2_aload_n (i := 0) d_Rows_canBeBetter_113 rfl rfl ?_
              refine V2_get (v := (3 : Int32)) d_Rows_canBeBetter_114 fl_Rows_40 (by decide) rfl (by decide) rfl rfl ?_
              refine V2_icmp_ge (tgt := 124) d_Rows_canBeBetter_117 rfl (fun _ => ?_) (fun c => (by first | exact absurd c (by decide) | exact absurd (by decide) c))
              refine V2_iconst (v := 0) d_Rows_canBeBetter_124 rfl ?_
              refine V2_zreturn d_Rows_canBeBetter_125 rfl (by decide) ?_
              refine V2.to (st' := [.int (0 : Int32)]) ?_ rfl rfl rfl rfl
              refine V2_zreturn d_Rows_goesOn_52 rfl (by decide) ?_
              have hB1 : B ≤ n := hR.1
              have hf : (B = 0 ∧ (G 36 6).toInt = (n : Int) + 1) ∨ (0 < B ∧ (G 36 6).toInt = (B : Int)) := by
                rcases hR.2.1 with ⟨h1, h2⟩ | ⟨h1, h2⟩
                · exact Or.inl ⟨h1, by rw [h2, nI_toInt (by omega)]; omega⟩
                · exact Or.inr ⟨h1, by rw [h2, nI_toInt (by have := hR.1; omega)]⟩
              have hov : (bst.toInt = -1 ∧ B = 0 ∧ (G 36 7).toInt = -1000) ∨ (¬ bst.toInt = -1 ∧ (G 36 7).toInt = hi.toInt) := by
                rcases hR.2.2 with ⟨h1, h2, h3⟩ | ⟨h1, h3, _⟩
                · exact Or.inl ⟨h1, h2, by rw [h3]; decide⟩
                · exact Or.inr ⟨h1, by rw [h3]⟩
              have sA : (T 2 - T 0).toInt = (T 2).toInt - (T 0).toInt := toI_sub (by omega) (by omega) (by omega) (by omega)
              have e2 : G 45 2 = T 2 := hx.2.2.2.2.2.1.2.2.1
              have e0 : G 45 0 = T 0 := hx.2.2.2.2.2.1.1
              have el : G 36 5 = nI n := hx.2.2.1
              have sA2 : (G 45 2 - G 45 0).toInt = (T 2).toInt - (T 0).toInt := by rw [e2, e0]; exact sA
              have nl : (G 36 5).toInt = (n : Int) := by rw [el]; exact nI_toInt (by omega)
              have h5 : T 5 = 1 := by
                have h9 := c7
                subst ev103 ev101 ev99 ev90 ev81 ev80 ev71 ev62 ev34 ev6 ev5 ev4 ev3 ev1
                rw [hx.2.2.2.2.2.1.2.2.2.2.2.2.2] at h9
                exact hx.2.2.2.2.2.2.2.1.2.2.2.2.2.1.resolve_left h9
              exfalso
              exact (by (try clear hQ); (try subst ev103 ev101 ev99 ev90 ev81 ev80 ev71 ev62 ev34 ev6 ev5 ev4 ev3 ev1); ((try simp only [xb_eq, xb_ne, Int32.lt_iff_toInt_lt, Int32.le_iff_toInt_le] at *) <;> (try simp only [← Int32.toInt_inj, true_and, false_and, or_false, false_or, or_true, true_or, and_true, and_false] at *) <;> omega))
set_option maxHeartbeats 2000000 in
theorem c_visP_3 {L : Nat} {xs : Nat → Int32} {d : Nat} {Q : Option Value → xF → Prop} {F G : xF} {S T : Nat → Int32} {n pre B : Nat} {bst hi : Int32} (hn : n ≤ 4) (hl : 3 < n) (hx : ctxV F G S T 0 n (3 + 1) pre 46) (hR : planR n G (bst, B, hi)) (hQ : ∀ (G2 : xF) (b : Int32), frV G G2 → ((b = 1 ∧ ¬ T 5 = 1 ∧ 3 + 1 < n ∧ True ∧ planR n G2 (bst, B, hi)) ∨ ((b = 0 ∨ b = 1 ∧ (T 5 = 1 ∨ 3 + 1 = n)) ∧ planR n G2 (blk (procP n S) (pre * 10 ^ (n - (3 + 1))) (10 ^ (n - (3 + 1))) (bst, B, hi)))) → Q (some (.int b)) G2) : V2 L xs (d + 4) m_Rows_goesOn 0 (xEntry [.ref 36, .int (3 : Int32), .ref 46] 3) [] G Q := by
  have q0 : (0 : Int32).toInt = 0 := by decide
  have q1 : (1 : Int32).toInt = 1 := by decide
  have q2 : (2 : Int32).toInt = 2 := by decide
  have q3 : (3 : Int32).toInt = 3 := by decide
  have q4 : (4 : Int32).toInt = 4 := by decide
  have q5 : (5 : Int32).toInt = 5 := by decide
  have q6 : (6 : Int32).toInt = 6 := by decide
  have q7 : (7 : Int32).toInt = 7 := by decide
  have q8 : (8 : Int32).toInt = 8 := by decide
  have q9 : (9 : Int32).toInt = 9 := by decide
  have q10 : (10 : Int32).toInt = 10 := by decide
  have q12 : (12 : Int32).toInt = 12 := by decide
  have q16 : (16 : Int32).toInt = 16 := by decide
  have q20 : (20 : Int32).toInt = 20 := by decide
  have q24 : (24 : Int32).toInt = 24 := by decide
  have q30 : (30 : Int32).toInt = 30 := by decide
  have q32 : (32 : Int32).toInt = 32 := by decide
  have q40 : (40 : Int32).toInt = 40 := by decide
  have q60 : (60 : Int32).toInt = 60 := by decide
  have q69 : (69 : Int32).toInt = 69 := by decide
  have q99 : (99 : Int32).toInt = 99 := by decide
  have q9999 : (9999 : Int32).toInt = 9999 := by decide
  have q274 : (274 : Int32).toInt = 274 := by decide
  have q334 : (334 : Int32).toInt = 334 := by decide
  have hT0 := hx.2.2.2.2.2.2.2.1.1
  have hT2 := hx.2.2.2.2.2.2.2.1.2.2.1
  have s5T := hx.2.2.2.2.2.2.2.1.2.2.2.2.2.1
  have e57 : G 46 7 = T 5 := hx.2.2.2.2.2.1.2.2.2.2.2.2.2
  refine V2.to (l' := [some (.ref 36), some (.int (3 : Int32)), some (.ref 46)]) ?_ rfl rfl rfl rfl
  refine V2_aload_n (i := 0) d_Rows_goesOn_0 rfl rfl ?_
  refine V2_get (v := G 36 4) d_Rows_goesOn_1 fl_Rows_33 (by decide) rfl (by decide) rfl rfl ?_
  refine V2_topi (fun v1 ev1 => ?_)
  have c2 : v1 = 0 := (by subst ev1; exact hx.2.1)
  refine V2_lookup (tgt := 46) d_Rows_goesOn_4 (by decide) (by rw [c2]; first | done | rfl | decide +kernel) rfl ?_
  refine V2_aload_n (i := 0) d_Rows_goesOn_46 rfl rfl ?_
  refine V2_iload_n (i := 1) d_Rows_goesOn_47 rfl rfl ?_
  refine V2_aload_n (i := 2) d_Rows_goesOn_48 rfl rfl ?_
  refine V2_callV [.int (3 : Int32), .ref 46] d_Rows_goesOn_49 rfl rfl lk_Rows_123 mo_Rows_canBeBetter (by decide) rfl rfl rfl (Nat.le_of_ble_eq_true rfl) (Nat.le_of_ble_eq_true rfl) ?_
  refine V2.to (l' := [some (.ref 36), some (.int (3 : Int32)), some (.ref 46), none, none, none, none]) ?_ rfl rfl rfl rfl
  refine V2_iload_n (i := 1) d_Rows_canBeBetter_0 rfl rfl ?_
  refine V2_iconst (v := 1) d_Rows_canBeBetter_1 rfl ?_
  refine V2_iadd d_Rows_canBeBetter_2 ?_
  refine V2_lit (v := 4) (by decide) ?_
  refine V2_istore_n (i := 3) (l' := [some (.ref 36), some (.int (3 : Int32)), some (.ref 46), some (.int (4 : Int32)), none, none, none]) d_Rows_canBeBetter_3 rfl (xst_r (Nat.le_of_ble_eq_true rfl) rfl rfl) ?_
  refine V2_aload_n (i := 2) d_Rows_canBeBetter_4 rfl rfl ?_
  refine V2_get (v := G 46 2) d_Rows_canBeBetter_5 fl_Rows_126 (by decide) rfl (by decide) rfl rfl ?_
  refine V2_topi (fun v3 ev3 => ?_)
  refine V2_aload_n (i := 2) d_Rows_canBeBetter_8 rfl rfl ?_
  refine V2_get (v := G 46 0) d_Rows_canBeBetter_9 fl_Rows_129 (by decide) rfl (by decide) rfl rfl ?_
  refine V2_topi (fun v4 ev4 => ?_)
  refine V2_isub d_Rows_canBeBetter_12 ?_
  refine V2_topi (fun v5 ev5 => ?_)
  refine V2_istore (i := 4) (l' := [some (.ref 36), some (.int (3 : Int32)), some (.ref 46), some (.int (4 : Int32)), some (.int v5), none, none]) d_Rows_canBeBetter_13 (xst_i (Nat.le_of_ble_eq_true rfl) rfl rfl) ?_
  refine V2_aload_n (i := 2) d_Rows_canBeBetter_15 rfl rfl ?_
  refine V2_get (v := G 46 7) d_Rows_canBeBetter_16 fl_Rows_80 (by decide) rfl (by decide) rfl rfl ?_
  refine V2_topi (fun v6 ev6 => ?_)
  refine V2_if_eq (tgt := 34) d_Rows_canBeBetter_19 rfl (fun c7 => ?_) (fun c7 => ?_)
  · refine V2_iconst (v := 0) d_Rows_canBeBetter_34 rfl ?_
    refine V2_istore (i := 5) (l' := [some (.ref 36), some (.int (3 : Int32)), some (.ref 46), some (.int (4 : Int32)), some (.int v5), some (.int (0 : Int32)), none]) d_Rows_canBeBetter_35 (xst_i (Nat.le_of_ble_eq_true rfl) rfl rfl) ?_
    refine V2_aload_n (i := 2) d_Rows_canBeBetter_37 rfl rfl ?_
    refine V2_get (v := G 46 7) d_Rows_canBeBetter_38 fl_Rows_80 (by decide) rfl (by decide) rfl rfl ?_
    refine V2_topi (fun v8 ev8 => ?_)
    refine V2_if_ne (tgt := 76) d_Rows_canBeBetter_41 rfl (fun c9 => ?_) (fun c9 => ?_)
    · refine V2_iconst (v := 0) d_Rows_canBeBetter_76 rfl ?_
      refine V2_istore (i := 6) (l' := [some (.ref 36), some (.int (3 : Int32)), some (.ref 46), some (.int (4 : Int32)), some (.int v5), some (.int (0 : Int32)), some (.int (0 : Int32))]) d_Rows_canBeBetter_77 (xst_i (Nat.le_of_ble_eq_true rfl) rfl rfl) ?_
      refine V2_iload (i := 5) d_Rows_canBeBetter_79 rfl ?_
      refine V2_if_eq (tgt := 89) d_Rows_canBeBetter_81 rfl (fun _ => ?_) (fun c => (by first | exact absurd c (by decide) | exact absurd (by decide) c))
      refine V2_iload (i := 5) d_Rows_canBeBetter_89 rfl ?_
      refine V2_if_ne (tgt := 99) d_Rows_canBeBetter_91 rfl (fun c => (by first | exact absurd c (by decide) | exact absurd (by decide) c)) (fun _ => ?_)
      refine V2_iload (i := 6) d_Rows_canBeBetter_94 rfl ?_
      refine V2_if_eq (tgt := 110) d_Rows_canBeBetter_96 rfl (fun _ => ?_) (fun c => (by first | exact absurd c (by decide) | exact absurd (by decide) c))
      refine V2_iload_n (i := 3) d_Rows_canBeBetter_110 rfl rfl ?_
      refine V2_iconst (v := 1) d_Rows_canBeBetter_111 rfl ?_
      refine V2_iadd d_Rows_canBeBetter_112 ?_
      refine V2_lit (v := 5) (by decide) ?_
      refine V2_aload_n (i := 0) d_Rows_canBeBetter_113 rfl rfl ?_
      refine V2_get (v := G 36 6) d_Rows_canBeBetter_114 fl_Rows_40 (by decide) rfl (by decide) rfl rfl ?_
      refine V2_topi (fun v10 ev10 => ?_)
      refine V2_icmp_ge (tgt := 124) d_Rows_canBeBetter_117 rfl (fun c11 => ?_) (fun c11 => ?_)
      · refine V2_iconst (v := 0) d_Rows_canBeBetter_124 rfl ?_
        refine V2_zreturn d_Rows_canBeBetter_125 rfl (by decide) ?_
        refine V2.to (st' := [.int (0 : Int32)]) ?_ rfl rfl rfl rfl
        refine V2_zreturn d_Rows_goesOn_52 rfl (by decide) ?_
        have hB1 : B ≤ n := hR.1
        have hf : (B = 0 ∧ (G 36 6).toInt = (n : Int) + 1) ∨ (0 < B ∧ (G 36 6).toInt = (B : Int)) := by
          rcases hR.2.1 with ⟨h1, h2⟩ | ⟨h1, h2⟩
          · exact Or.inl ⟨h1, by rw [h2, nI_toInt (by omega)]; omega⟩
          · exact Or.inr ⟨h1, by rw [h2, nI_toInt (by have := hR.1; omega)]⟩
        have hov : (bst.toInt = -1 ∧ B = 0 ∧ (G 36 7).toInt = -1000) ∨ (¬ bst.toInt = -1 ∧ (G 36 7).toInt = hi.toInt) := by
          rcases hR.2.2 with ⟨h1, h2, h3⟩ | ⟨h1, h3, _⟩
          · exact Or.inl ⟨h1, h2, by rw [h3]; decide⟩
          · exact Or.inr ⟨h1, by rw [h3]⟩
        have sA : (T 2 - T 0).toInt = (T 2).toInt - (T 0).toInt := toI_sub (by omega) (by omega) (by omega) (by omega)
        have e2 : G 46 2 = T 2 := hx.2.2.2.2.2.1.2.2.1
        have e0 : G 46 0 = T 0 := hx.2.2.2.2.2.1.1
        have el : G 36 5 = nI n := hx.2.2.1
        have sA2 : (G 46 2 - G 46 0).toInt = (T 2).toInt - (T 0).toInt := by rw [e2, e0]; exact sA
        have nl : (G 36 5).toInt = (n : Int) := by rw [el]; exact nI_toInt (by omega)
        have h5 : ¬ T 5 = 1 := by
          intro h
          have h9 := c7
          subst ev10 ev8 ev6 ev5 ev4 ev3 ev1
          rw [hx.2.2.2.2.2.1.2.2.2.2.2.2.2, h] at h9
          exact absurd h9 (by decide)
        exfalso
        exact (by (try clear hQ); (try subst ev10 ev8 ev6 ev5 ev4 ev3 ev1); ((try simp only [xb_eq, xb_ne, Int32.lt_iff_toInt_lt, Int32.le_iff_toInt_le] at *) <;> (try simp only [← Int32.toInt_inj, true_and, false_and, or_false, false_or, or_true, true_or, and_true, and_false] at *) <;> omega))
      · refine V2_iconst (v := 1) d_Rows_canBeBetter_120 rfl ?_
        refine V2_goto (tgt := 125) d_Rows_canBeBetter_121 rfl ?_
        refine V2_zreturn d_Rows_canBeBetter_125 rfl (by decide) ?_
        refine V2.to (st' := [.int (1 : Int32)]) ?_ rfl rfl rfl rfl
        refine V2_zreturn d_Rows_goesOn_52 rfl (by decide) ?_
        have hB1 : B ≤ n := hR.1
        have hf : (B = 0 ∧ (G 36 6).toInt = (n : Int) + 1) ∨ (0 < B ∧ (G 36 6).toInt = (B : Int)) := by
          rcases hR.2.1 with ⟨h1, h2⟩ | ⟨h1, h2⟩
          · exact Or.inl ⟨h1, by rw [h2, nI_toInt (by omega)]; omega⟩
          · exact Or.inr ⟨h1, by rw [h2, nI_toInt (by have := hR.1; omega)]⟩
        have hov : (bst.toInt = -1 ∧ B = 0 ∧ (G 36 7).toInt = -1000) ∨ (¬ bst.toInt = -1 ∧ (G 36 7).toInt = hi.toInt) := by
          rcases hR.2.2 with ⟨h1, h2, h3⟩ | ⟨h1, h3, _⟩
          · exact Or.inl ⟨h1, h2, by rw [h3]; decide⟩
          · exact Or.inr ⟨h1, by rw [h3]⟩
        have sA : (T 2 - T 0).toInt = (T 2).toInt - (T 0).toInt := toI_sub (by omega) (by omega) (by omega) (by omega)
        have e2 : G 46 2 = T 2 := hx.2.2.2.2.2.1.2.2.1
        have e0 : G 46 0 = T 0 := hx.2.2.2.2.2.1.1
        have el : G 36 5 = nI n := hx.2.2.1
        have sA2 : (G 46 2 - G 46 0).toInt = (T 2).toInt - (T 0).toInt := by rw [e2, e0]; exact sA
        have nl : (G 36 5).toInt = (n : Int) := by rw [el]; exact nI_toInt (by omega)
        have h5 : ¬ T 5 = 1 := by
          intro h
          have h9 := c7
          subst ev10 ev8 ev6 ev5 ev4 ev3 ev1
          rw [hx.2.2.2.2.2.1.2.2.2.2.2.2.2, h] at h9
          exact absurd h9 (by decide)
        exfalso
        exact (by (try clear hQ); (try subst ev10 ev8 ev6 ev5 ev4 ev3 ev1); ((try simp only [xb_eq, xb_ne, Int32.lt_iff_toInt_lt, Int32.le_iff_toInt_le] at *) <;> (try simp only [← Int32.toInt_inj, true_and, false_and, or_false, false_or, or_true, true_or, and_true, and_false] at *) <;> omega))
    · refine V2_iload_n (i := 3) d_Rows_canBeBetter_44 rfl rfl ?_
      refine V2_aload_n (i := 0) d_Rows_canBeBetter_45 rfl rfl ?_
      refine V2_get (v := G 36 5) d_Rows_canBeBetter_46 fl_Rows_37 (by decide) rfl (by decide) rfl rfl ?_
      refine V2_topi (fun v12 ev12 => ?_)
      refine V2_icmp_ne (tgt := 76) d_Rows_canBeBetter_49 rfl (fun c13 => ?_) (fun c13 => ?_)
      · refine V2_iconst (v := 0) d_Rows_canBeBetter_76 rfl ?_
        refine V2_istore (i := 6) (l' := [some (.ref 36), some (.int (3 : Int32)), some (.ref 46), some (.int (4 : Int32)), some (.int v5), some (.int (0 : Int32)), some (.int (0 : Int32))]) d_Rows_canBeBetter_77 (xst_i (Nat.le_of_ble_eq_true rfl) rfl rfl) ?_
        refine V2_iload (i := 5) d_Rows_canBeBetter_79 rfl ?_
        refine V2_if_eq (tgt := 89) d_Rows_canBeBetter_81 rfl (fun _ => ?_) (fun c => (by first | exact absurd c (by decide) | exact absurd (by decide) c))
        refine V2_iload (i := 5) d_Rows_canBeBetter_89 rfl ?_
        refine V2_if_ne (tgt := 99) d_Rows_canBeBetter_91 rfl (fun c => (by first | exact absurd c (by decide) | exact absurd (by decide) c)) (fun _ => ?_)
        refine V2_iload (i := 6) d_Rows_canBeBetter_94 rfl ?_
        refine V2_if_eq (tgt := 110) d_Rows_canBeBetter_96 rfl (fun _ => ?_) (fun c => (by first | exact absurd c (by decide) | exact absurd (by decide) c))
        refine V2_iload_n (i := 3) d_Rows_canBeBetter_110 rfl rfl ?_
        refine V2_iconst (v := 1) d_Rows_canBeBetter_111 rfl ?_
        refine V2_iadd d_Rows_canBeBetter_112 ?_
        refine V2_lit (v := 5) (by decide) ?_
        refine V2_aload_n (i := 0) d_Rows_canBeBetter_113 rfl rfl ?_
        refine V2_get (v := G 36 6) d_Rows_canBeBetter_114 fl_Rows_40 (by decide) rfl (by decide) rfl rfl ?_
        refine V2_topi (fun v14 ev14 => ?_)
        refine V2_icmp_ge (tgt := 124) d_Rows_canBeBetter_117 rfl (fun c15 => ?_) (fun c15 => ?_)
        · refine V2_iconst (v := 0) d_Rows_canBeBetter_124 rfl ?_
          refine V2_zreturn d_Rows_canBeBetter_125 rfl (by decide) ?_
          refine V2.to (st' := [.int (0 : Int32)]) ?_ rfl rfl rfl rfl
          refine V2_zreturn d_Rows_goesOn_52 rfl (by decide) ?_
          have hB1 : B ≤ n := hR.1
          have hf : (B = 0 ∧ (G 36 6).toInt = (n : Int) + 1) ∨ (0 < B ∧ (G 36 6).toInt = (B : Int)) := by
            rcases hR.2.1 with ⟨h1, h2⟩ | ⟨h1, h2⟩
            · exact Or.inl ⟨h1, by rw [h2, nI_toInt (by omega)]; omega⟩
            · exact Or.inr ⟨h1, by rw [h2, nI_toInt (by have := hR.1; omega)]⟩
          have hov : (bst.toInt = -1 ∧ B = 0 ∧ (G 36 7).toInt = -1000) ∨ (¬ bst.toInt = -1 ∧ (G 36 7).toInt = hi.toInt) := by
            rcases hR.2.2 with ⟨h1, h2, h3⟩ | ⟨h1, h3, _⟩
            · exact Or.inl ⟨h1, h2, by rw [h3]; decide⟩
            · exact Or.inr ⟨h1, by rw [h3]⟩
          have sA : (T 2 - T 0).toInt = (T 2).toInt - (T 0).toInt := toI_sub (by omega) (by omega) (by omega) (by omega)
          have e2 : G 46 2 = T 2 := hx.2.2.2.2.2.1.2.2.1
          have e0 : G 46 0 = T 0 := hx.2.2.2.2.2.1.1
          have el : G 36 5 = nI n := hx.2.2.1
          have sA2 : (G 46 2 - G 46 0).toInt = (T 2).toInt - (T 0).toInt := by rw [e2, e0]; exact sA
          have nl : (G 36 5).toInt = (n : Int) := by rw [el]; exact nI_toInt (by omega)
          have h5 : ¬ T 5 = 1 := by
            intro h
            have h9 := c7
            subst ev14 ev12 ev8 ev6 ev5 ev4 ev3 ev1
            rw [hx.2.2.2.2.2.1.2.2.2.2.2.2.2, h] at h9
            exact absurd h9 (by decide)
          have hrow : ∀ i, pre * 10 ^ (n - (3 + 1)) ≤ i → i < pre * 10 ^ (n - (3 + 1)) + 10 ^ (n - (3 + 1)) → trN (PN S) n i S = ((trN (PN S) (n - (3 + 1)) (i - pre * 10 ^ (n - (3 + 1))) T).1.map (fun j => j + (3 + 1)), (trN (PN S) (n - (3 + 1)) (i - pre * 10 ^ (n - (3 + 1))) T).2) := by
            intro i h1 h2
            have hs := hx.2.2.2.2.2.2.2.2 (i - pre * 10 ^ (n - (3 + 1))) (by omega)
            rw [show pre * 10 ^ (n - (3 + 1)) + (i - pre * 10 ^ (n - (3 + 1))) = i by omega] at hs
            exact hs
          have hln : 3 + 1 < n := (by (try clear hQ); (try subst ev14 ev12 ev8 ev6 ev5 ev4 ev3 ev1); ((try simp only [xb_eq, xb_ne, Int32.lt_iff_toInt_lt, Int32.le_iff_toInt_le] at *) <;> (try simp only [← Int32.toInt_inj, true_and, false_and, or_false, false_or, or_true, true_or, and_true, and_false] at *) <;> omega))
          have hlB : 0 < B ∧ B ≤ 3 + 2 := (by (try clear hQ); (try subst ev14 ev12 ev8 ev6 ev5 ev4 ev3 ev1); ((try simp only [xb_eq, xb_ne, Int32.lt_iff_toInt_lt, Int32.le_iff_toInt_le] at *) <;> (try simp only [← Int32.toInt_inj, true_and, false_and, or_false, false_or, or_true, true_or, and_true, and_false] at *) <;> omega))
          subst ev14 ev12 ev8 ev6 ev5 ev4 ev3 ev1
          refine hQ _ 0 ⟨fun a h1 h2 => ?_, rfl, rfl⟩ (Or.inr ⟨Or.inl rfl, ?_⟩)
          · rfl
          · rw [blk_id _ _ _ _ (fun i h1 h2 => ?_)]
            · exact hR
            · have e1 := hrow i h1 h2
              refine pP_f e1 ?_
              cases eo : (trN (PN S) (n - (3 + 1)) (i - pre * 10 ^ (n - (3 + 1))) T).1 with
              | none =>
                show ¬ (bst.toInt = -1 ∨ (0 < 0 ∧ _) ∨ (0 = 0 ∧ B = 0 ∧ _))
                omega
              | some j =>
                have hj := tr_pos h5 eo
                show ¬ (bst.toInt = -1 ∨ (0 < j + (3 + 1) ∧ (B = 0 ∨ j + (3 + 1) < B)) ∨ (j + (3 + 1) = 0 ∧ _))
                omega
        · refine V2_iconst (v := 1) d_Rows_canBeBetter_120 rfl ?_
          refine V2_goto (tgt := 125) d_Rows_canBeBetter_121 rfl ?_
          refine V2_zreturn d_Rows_canBeBetter_125 rfl (by decide) ?_
          refine V2.to (st' := [.int (1 : Int32)]) ?_ rfl rfl rfl rfl
          refine V2_zreturn d_Rows_goesOn_52 rfl (by decide) ?_
          have hB1 : B ≤ n := hR.1
          have hf : (B = 0 ∧ (G 36 6).toInt = (n : Int) + 1) ∨ (0 < B ∧ (G 36 6).toInt = (B : Int)) := by
            rcases hR.2.1 with ⟨h1, h2⟩ | ⟨h1, h2⟩
            · exact Or.inl ⟨h1, by rw [h2, nI_toInt (by omega)]; omega⟩
            · exact Or.inr ⟨h1, by rw [h2, nI_toInt (by have := hR.1; omega)]⟩
          have hov : (bst.toInt = -1 ∧ B = 0 ∧ (G 36 7).toInt = -1000) ∨ (¬ bst.toInt = -1 ∧ (G 36 7).toInt = hi.toInt) := by
            rcases hR.2.2 with ⟨h1, h2, h3⟩ | ⟨h1, h3, _⟩
            · exact Or.inl ⟨h1, h2, by rw [h3]; decide⟩
            · exact Or.inr ⟨h1, by rw [h3]⟩
          have sA : (T 2 - T 0).toInt = (T 2).toInt - (T 0).toInt := toI_sub (by omega) (by omega) (by omega) (by omega)
          have e2 : G 46 2 = T 2 := hx.2.2.2.2.2.1.2.2.1
          have e0 : G 46 0 = T 0 := hx.2.2.2.2.2.1.1
          have el : G 36 5 = nI n := hx.2.2.1
          have sA2 : (G 46 2 - G 46 0).toInt = (T 2).toInt - (T 0).toInt := by rw [e2, e0]; exact sA
          have nl : (G 36 5).toInt = (n : Int) := by rw [el]; exact nI_toInt (by omega)
          have h5 : ¬ T 5 = 1 := by
            intro h
            have h9 := c7
            subst ev14 ev12 ev8 ev6 ev5 ev4 ev3 ev1
            rw [hx.2.2.2.2.2.1.2.2.2.2.2.2.2, h] at h9
            exact absurd h9 (by decide)
          have hln : 3 + 1 < n := (by (try clear hQ); (try subst ev14 ev12 ev8 ev6 ev5 ev4 ev3 ev1); ((try simp only [xb_eq, xb_ne, Int32.lt_iff_toInt_lt, Int32.le_iff_toInt_le] at *) <;> (try simp only [← Int32.toInt_inj, true_and, false_and, or_false, false_or, or_true, true_or, and_true, and_false] at *) <;> omega))
          subst ev14 ev12 ev8 ev6 ev5 ev4 ev3 ev1
          exact hQ G 1 (frV.refl G) (Or.inl ⟨rfl, h5, hln, trivial, hR⟩)
      · refine V2_aload_n (i := 0) d_Rows_canBeBetter_52 rfl rfl ?_
        refine V2_get (v := G 36 6) d_Rows_canBeBetter_53 fl_Rows_40 (by decide) rfl (by decide) rfl rfl ?_
        refine V2_topi (fun v16 ev16 => ?_)
        refine V2_aload_n (i := 0) d_Rows_canBeBetter_56 rfl rfl ?_
        refine V2_get (v := G 36 5) d_Rows_canBeBetter_57 fl_Rows_37 (by decide) rfl (by decide) rfl rfl ?_
        refine V2_topi (fun v17 ev17 => ?_)
        refine V2_icmp_le (tgt := 76) d_Rows_canBeBetter_60 rfl (fun c18 => ?_) (fun c18 => ?_)
        · refine V2_iconst (v := 0) d_Rows_canBeBetter_76 rfl ?_
          refine V2_istore (i := 6) (l' := [some (.ref 36), some (.int (3 : Int32)), some (.ref 46), some (.int (4 : Int32)), some (.int v5), some (.int (0 : Int32)), some (.int (0 : Int32))]) d_Rows_canBeBetter_77 (xst_i (Nat.le_of_ble_eq_true rfl) rfl rfl) ?_
          refine V2_iload (i := 5) d_Rows_canBeBetter_79 rfl ?_
          refine V2_if_eq (tgt := 89) d_Rows_canBeBetter_81 rfl (fun _ => ?_) (fun c => (by first | exact absurd c (by decide) | exact absurd (by decide) c))
          refine V2_iload (i := 5) d_Rows_canBeBetter_89 rfl ?_
          refine V2_if_ne (tgt := 99) d_Rows_canBeBetter_91 rfl (fun c => (by first | exact absurd c (by decide) | exact absurd (by decide) c)) (fun _ => ?_)
          refine V2_iload (i := 6) d_Rows_canBeBetter_94 rfl ?_
          refine V2_if_eq (tgt := 110) d_Rows_canBeBetter_96 rfl (fun _ => ?_) (fun c => (by first | exact absurd c (by decide) | exact absurd (by decide) c))
          refine V2_iload_n (i := 3) d_Rows_canBeBetter_110 rfl rfl ?_
          refine V2_iconst (v := 1) d_Rows_canBeBetter_111 rfl ?_
          refine V2_iadd d_Rows_canBeBetter_112 ?_
          refine V2_lit (v := 5) (by decide) ?_
          refine V2_aload_n (i := 0) d_Rows_canBeBetter_113 rfl rfl ?_
          refine V2_get (v := G 36 6) d_Rows_canBeBetter_114 fl_Rows_40 (by decide) rfl (by decide) rfl rfl ?_
          refine V2_topi (fun v19 ev19 => ?_)
          refine V2_icmp_ge (tgt := 124) d_Rows_canBeBetter_117 rfl (fun c20 => ?_) (fun c20 => ?_)
          · refine V2_iconst (v := 0) d_Rows_canBeBetter_124 rfl ?_
            refine V2_zreturn d_Rows_canBeBetter_125 rfl (by decide) ?_
            refine V2.to (st' := [.int (0 : Int32)]) ?_ rfl rfl rfl rfl
            refine V2_zreturn d_Rows_goesOn_52 rfl (by decide) ?_
            have hB1 : B ≤ n := hR.1
            have hf : (B = 0 ∧ (G 36 6).toInt = (n : Int) + 1) ∨ (0 < B ∧ (G 36 6).toInt = (B : Int)) := by
              rcases hR.2.1 with ⟨h1, h2⟩ | ⟨h1, h2⟩
              · exact Or.inl ⟨h1, by rw [h2, nI_toInt (by omega)]; omega⟩
              · exact Or.inr ⟨h1, by rw [h2, nI_toInt (by have := hR.1; omega)]⟩
            have hov : (bst.toInt = -1 ∧ B = 0 ∧ (G 36 7).toInt = -1000) ∨ (¬ bst.toInt = -1 ∧ (G 36 7).toInt = hi.toInt) := by
              rcases hR.2.2 with ⟨h1, h2, h3⟩ | ⟨h1, h3, _⟩
              · exact Or.inl ⟨h1, h2, by rw [h3]; decide⟩
              · exact Or.inr ⟨h1, by rw [h3]⟩
            have sA : (T 2 - T 0).toInt = (T 2).toInt - (T 0).toInt := toI_sub (by omega) (by omega) (by omega) (by omega)
            have e2 : G 46 2 = T 2 := hx.2.2.2.2.2.1.2.2.1
            have e0 : G 46 0 = T 0 := hx.2.2.2.2.2.1.1
            have el : G 36 5 = nI n := hx.2.2.1
            have sA2 : (G 46 2 - G 46 0).toInt = (T 2).toInt - (T 0).toInt := by rw [e2, e0]; exact sA
            have nl : (G 36 5).toInt = (n : Int) := by rw [el]; exact nI_toInt (by omega)
            have h5 : ¬ T 5 = 1 := by
              intro h
              have h9 := c7
              subst ev19 ev17 ev16 ev12 ev8 ev6 ev5 ev4 ev3 ev1
              rw [hx.2.2.2.2.2.1.2.2.2.2.2.2.2, h] at h9
              exact absurd h9 (by decide)
            have hln : n = 3 + 1 := (by (try clear hQ); (try subst ev19 ev17 ev16 ev12 ev8 ev6 ev5 ev4 ev3 ev1); ((try simp only [xb_eq, xb_ne, Int32.lt_iff_toInt_lt, Int32.le_iff_toInt_le] at *) <;> (try simp only [← Int32.toInt_inj, true_and, false_and, or_false, false_or, or_true, true_or, and_true, and_false] at *) <;> omega))
            subst hln
            have e1 := hx.2.2.2.2.2.2.2.2 0 (Nat.pow_pos (by decide))
            rw [Nat.sub_self, Nat.pow_zero, Nat.mul_one, Nat.add_zero pre, tr_0 h5] at e1
            have hab : abR ((none : Option Nat).map (fun j => j + (3 + 1)), T) = T 2 - T 0 := rfl
            have hno : ¬ (bst.toInt = -1 ∨ (B = 0 ∧ hi.toInt < (T 2 - T 0).toInt)) := (by (try clear hQ); (try subst ev19 ev17 ev16 ev12 ev8 ev6 ev5 ev4 ev3 ev1); ((try simp only [xb_eq, xb_ne, Int32.lt_iff_toInt_lt, Int32.le_iff_toInt_le] at *) <;> (try simp only [← Int32.toInt_inj, true_and, false_and, or_false, false_or, or_true, true_or, and_true, and_false] at *) <;> omega))
            subst ev19 ev17 ev16 ev12 ev8 ev6 ev5 ev4 ev3 ev1
            refine hQ _ 0 ⟨fun a h1 h2 => ?_, rfl, rfl⟩ (Or.inr ⟨Or.inl rfl, ?_⟩)
            · rfl
            · rw [Nat.sub_self, Nat.pow_zero, Nat.mul_one, blk_1, pP_f e1 (show ¬ (_ ∨ _) from ?_)]
              · exact hR
              · show ¬ (bst.toInt = -1 ∨ (0 < 0 ∧ _) ∨ (0 = 0 ∧ B = 0 ∧ hi.toInt < (T 2 - T 0).toInt))
                omega
          · refine V2_iconst (v := 1) d_Rows_canBeBetter_120 rfl ?_
            refine V2_goto (tgt := 125) d_Rows_canBeBetter_121 rfl ?_
            refine V2_zreturn d_Rows_canBeBetter_125 rfl (by decide) ?_
            refine V2.to (st' := [.int (1 : Int32)]) ?_ rfl rfl rfl rfl
            refine V2_zreturn d_Rows_goesOn_52 rfl (by decide) ?_
            have hB1 : B ≤ n := hR.1
            have hf : (B = 0 ∧ (G 36 6).toInt = (n : Int) + 1) ∨ (0 < B ∧ (G 36 6).toInt = (B : Int)) := by
              rcases hR.2.1 with ⟨h1, h2⟩ | ⟨h1, h2⟩
              · exact Or.inl ⟨h1, by rw [h2, nI_toInt (by omega)]; omega⟩
              · exact Or.inr ⟨h1, by rw [h2, nI_toInt (by have := hR.1; omega)]⟩
            have hov : (bst.toInt = -1 ∧ B = 0 ∧ (G 36 7).toInt = -1000) ∨ (¬ bst.toInt = -1 ∧ (G 36 7).toInt = hi.toInt) := by
              rcases hR.2.2 with ⟨h1, h2, h3⟩ | ⟨h1, h3, _⟩
              · exact Or.inl ⟨h1, h2, by rw [h3]; decide⟩
              · exact Or.inr ⟨h1, by rw [h3]⟩
            have sA : (T 2 - T 0).toInt = (T 2).toInt - (T 0).toInt := toI_sub (by omega) (by omega) (by omega) (by omega)
            have e2 : G 46 2 = T 2 := hx.2.2.2.2.2.1.2.2.1
            have e0 : G 46 0 = T 0 := hx.2.2.2.2.2.1.1
            have el : G 36 5 = nI n := hx.2.2.1
            have sA2 : (G 46 2 - G 46 0).toInt = (T 2).toInt - (T 0).toInt := by rw [e2, e0]; exact sA
            have nl : (G 36 5).toInt = (n : Int) := by rw [el]; exact nI_toInt (by omega)
            have h5 : ¬ T 5 = 1 := by
              intro h
              have h9 := c7
              subst ev19 ev17 ev16 ev12 ev8 ev6 ev5 ev4 ev3 ev1
              rw [hx.2.2.2.2.2.1.2.2.2.2.2.2.2, h] at h9
              exact absurd h9 (by decide)
            exfalso
            exact (by (try clear hQ); (try subst ev19 ev17 ev16 ev12 ev8 ev6 ev5 ev4 ev3 ev1); ((try simp only [xb_eq, xb_ne, Int32.lt_iff_toInt_lt, Int32.le_iff_toInt_le] at *) <;> (try simp only [← Int32.toInt_inj, true_and, false_and, or_false, false_or, or_true, true_or, and_true, and_false] at *) <;> omega))
        · refine V2_iload (i := 4) d_Rows_canBeBetter_63 rfl ?_
          refine V2_aload_n (i := 0) d_Rows_canBeBetter_65 rfl rfl ?_
          refine V2_get (v := G 36 7) d_Rows_canBeBetter_66 fl_Rows_43 (by decide) rfl (by decide) rfl rfl ?_
          refine V2_topi (fun v21 ev21 => ?_)
          refine V2_icmp_le (tgt := 76) d_Rows_canBeBetter_69 rfl (fun c22 => ?_) (fun c22 => ?_)
          · refine V2_iconst (v := 0) d_Rows_canBeBetter_76 rfl ?_
            refine V2_istore (i := 6) (l' := [some (.ref 36), some (.int (3 : Int32)), some (.ref 46), some (.int (4 : Int32)), some (.int v5), some (.int (0 : Int32)), some (.int (0 : Int32))]) d_Rows_canBeBetter_77 (xst_i (Nat.le_of_ble_eq_true rfl) rfl rfl) ?_
            refine V2_iload (i := 5) d_Rows_canBeBetter_79 rfl ?_
            refine V2_if_eq (tgt := 89) d_Rows_canBeBetter_81 rfl (fun _ => ?_) (fun c => (by first | exact absurd c (by decide) | exact absurd (by decide) c))
            refine V2_iload (i := 5) d_Rows_canBeBetter_89 rfl ?_
            refine V2_if_ne (tgt := 99) d_Rows_canBeBetter_91 rfl (fun c => (by first | exact absurd c (by decide) | exact absurd (by decide) c)) (fun _ => ?_)
            refine V2_iload (i := 6) d_Rows_canBeBetter_94 rfl ?_
            refine V2_if_eq (tgt := 110) d_Rows_canBeBetter_96 rfl (fun _ => ?_) (fun c => (by first | exact absurd c (by decide) | exact absurd (by decide) c))
            refine V2_iload_n (i := 3) d_Rows_canBeBetter_110 rfl rfl ?_
            refine V2_iconst (v := 1) d_Rows_canBeBetter_111 rfl ?_
            refine V2_iadd d_Rows_canBeBetter_112 ?_
            refine V2_lit (v := 5) (by decide) ?_
            refine V2_aload_n (i := 0) d_Rows_canBeBetter_113 rfl rfl ?_
            refine V2_get (v := G 36 6) d_Rows_canBeBetter_114 fl_Rows_40 (by decide) rfl (by decide) rfl rfl ?_
            refine V2_topi (fun v23 ev23 => ?_)
            refine V2_icmp_ge (tgt := 124) d_Rows_canBeBetter_117 rfl (fun c24 => ?_) (fun c24 => ?_)
            · refine V2_iconst (v := 0) d_Rows_canBeBetter_124 rfl ?_
              refine V2_zreturn d_Rows_canBeBetter_125 rfl (by decide) ?_
              refine V2.to (st' := [.int (0 : Int32)]) ?_ rfl rfl rfl rfl
              refine V2_zreturn d_Rows_goesOn_52 rfl (by decide) ?_
              have hB1 : B ≤ n := hR.1
              have hf : (B = 0 ∧ (G 36 6).toInt = (n : Int) + 1) ∨ (0 < B ∧ (G 36 6).toInt = (B : Int)) := by
                rcases hR.2.1 with ⟨h1, h2⟩ | ⟨h1, h2⟩
                · exact Or.inl ⟨h1, by rw [h2, nI_toInt (by omega)]; omega⟩
                · exact Or.inr ⟨h1, by rw [h2, nI_toInt (by have := hR.1; omega)]⟩
              have hov : (bst.toInt = -1 ∧ B = 0 ∧ (G 36 7).toInt = -1000) ∨ (¬ bst.toInt = -1 ∧ (G 36 7).toInt = hi.toInt) := by
                rcases hR.2.2 with ⟨h1, h2, h3⟩ | ⟨h1, h3, _⟩
                · exact Or.inl ⟨h1, h2, by rw [h3]; decide⟩
                · exact Or.inr ⟨h1, by rw [h3]⟩
              have sA : (T 2 - T 0).toInt = (T 2).toInt - (T 0).toInt := toI_sub (by omega) (by omega) (by omega) (by omega)
              have e2 : G 46 2 = T 2 := hx.2.2.2.2.2.1.2.2.1
              have e0 : G 46 0 = T 0 := hx.2.2.2.2.2.1.1
              have el : G 36 5 = nI n := hx.2.2.1
              have sA2 : (G 46 2 - G 46 0).toInt = (T 2).toInt - (T 0).toInt := by rw [e2, e0]; exact sA
              have nl : (G 36 5).toInt = (n : Int) := by rw [el]; exact nI_toInt (by omega)
              have h5 : ¬ T 5 = 1 := by
                intro h
                have h9 := c7
                subst ev23 ev21 ev17 ev16 ev12 ev8 ev6 ev5 ev4 ev3 ev1
                rw [hx.2.2.2.2.2.1.2.2.2.2.2.2.2, h] at h9
                exact absurd h9 (by decide)
              have hln : n = 3 + 1 := (by (try clear hQ); (try subst ev23 ev21 ev17 ev16 ev12 ev8 ev6 ev5 ev4 ev3 ev1); ((try simp only [xb_eq, xb_ne, Int32.lt_iff_toInt_lt, Int32.le_iff_toInt_le] at *) <;> (try simp only [← Int32.toInt_inj, true_and, false_and, or_false, false_or, or_true, true_or, and_true, and_false] at *) <;> omega))
              subst hln
              have e1 := hx.2.2.2.2.2.2.2.2 0 (Nat.pow_pos (by decide))
              rw [Nat.sub_self, Nat.pow_zero, Nat.mul_one, Nat.add_zero pre, tr_0 h5] at e1
              have hab : abR ((none : Option Nat).map (fun j => j + (3 + 1)), T) = T 2 - T 0 := rfl
              have hno : ¬ (bst.toInt = -1 ∨ (B = 0 ∧ hi.toInt < (T 2 - T 0).toInt)) := (by (try clear hQ); (try subst ev23 ev21 ev17 ev16 ev12 ev8 ev6 ev5 ev4 ev3 ev1); ((try simp only [xb_eq, xb_ne, Int32.lt_iff_toInt_lt, Int32.le_iff_toInt_le] at *) <;> (try simp only [← Int32.toInt_inj, true_and, false_and, or_false, false_or, or_true, true_or, and_true, and_false] at *) <;> omega))
              subst ev23 ev21 ev17 ev16 ev12 ev8 ev6 ev5 ev4 ev3 ev1
              refine hQ _ 0 ⟨fun a h1 h2 => ?_, rfl, rfl⟩ (Or.inr ⟨Or.inl rfl, ?_⟩)
              · rfl
              · rw [Nat.sub_self, Nat.pow_zero, Nat.mul_one, blk_1, pP_f e1 (show ¬ (_ ∨ _) from ?_)]
                · exact hR
                · show ¬ (bst.toInt = -1 ∨ (0 < 0 ∧ _) ∨ (0 = 0 ∧ B = 0 ∧ hi.toInt < (T 2 - T 0).toInt))
                  omega
            · refine V2_iconst (v := 1) d_Rows_canBeBetter_120 rfl ?_
              refine V2_goto (tgt := 125) d_Rows_canBeBetter_121 rfl ?_
              refine V2_zreturn d_Rows_canBeBetter_125 rfl (by decide) ?_
              refine V2.to (st' := [.int (1 : Int32)]) ?_ rfl rfl rfl rfl
              refine V2_zreturn d_Rows_goesOn_52 rfl (by decide) ?_
              have hB1 : B ≤ n := hR.1
              have hf : (B = 0 ∧ (G 36 6).toInt = (n : Int) + 1) ∨ (0 < B ∧ (G 36 6).toInt = (B : Int)) := by
                rcases hR.2.1 with ⟨h1, h2⟩ | ⟨h1, h2⟩
                · exact Or.inl ⟨h1, by rw [h2, nI_toInt (by omega)]; omega⟩
                · exact Or.inr ⟨h1, by rw [h2, nI_toInt (by have := hR.1; omega)]⟩
              have hov : (bst.toInt = -1 ∧ B = 0 ∧ (G 36 7).toInt = -1000) ∨ (¬ bst.toInt = -1 ∧ (G 36 7).toInt = hi.toInt) := by
                rcases hR.2.2 with ⟨h1, h2, h3⟩ | ⟨h1, h3, _⟩
                · exact Or.inl ⟨h1, h2, by rw [h3]; decide⟩
                · exact Or.inr ⟨h1, by rw [h3]⟩
              have sA : (T 2 - T 0).toInt = (T 2).toInt - (T 0).toInt := toI_sub (by omega) (by omega) (by omega) (by omega)
              have e2 : G 46 2 = T 2 := hx.2.2.2.2.2.1.2.2.1
              have e0 : G 46 0 = T 0 := hx.2.2.2.2.2.1.1
              have el : G 36 5 = nI n := hx.2.2.1
              have sA2 : (G 46 2 - G 46 0).toInt = (T 2).toInt - (T 0).toInt := by rw [e2, e0]; exact sA
              have nl : (G 36 5).toInt = (n : Int) := by rw [el]; exact nI_toInt (by omega)
              have h5 : ¬ T 5 = 1 := by
                intro h
                have h9 := c7
                subst ev23 ev21 ev17 ev16 ev12 ev8 ev6 ev5 ev4 ev3 ev1
                rw [hx.2.2.2.2.2.1.2.2.2.2.2.2.2, h] at h9
                exact absurd h9 (by decide)
              exfalso
              exact (by (try clear hQ); (try subst ev23 ev21 ev17 ev16 ev12 ev8 ev6 ev5 ev4 ev3 ev1); ((try simp only [xb_eq, xb_ne, Int32.lt_iff_toInt_lt, Int32.le_iff_toInt_le] at *) <;> (try simp only [← Int32.toInt_inj, true_and, false_and, or_false, false_or, or_true, true_or, and_true, and_false] at *) <;> omega))
          · refine V2_iconst (v := 1) d_Rows_canBeBetter_72 rfl ?_
            refine V2_goto (tgt := 77) d_Rows_canBeBetter_73 rfl ?_
            refine V2_istore (i := 6) (l' := [some (.ref 36), some (.int (3 : Int32)), some (.ref 46), some (.int (4 : Int32)), some (.int v5), some (.int (0 : Int32)), some (.int (1 : Int32))]) d_Rows_canBeBetter_77 (xst_i (Nat.le_of_ble_eq_true rfl) rfl rfl) ?_
            refine V2_iload (i := 5) d_Rows_canBeBetter_79 rfl ?_
            refine V2_if_eq (tgt := 89) d_Rows_canBeBetter_81 rfl (fun _ => ?_) (fun c => (by first | exact absurd c (by decide) | exact absurd (by decide) c))
            refine V2_iload (i := 5) d_Rows_canBeBetter_89 rfl ?_
            refine V2_if_ne (tgt := 99) d_Rows_canBeBetter_91 rfl (fun c => (by first | exact absurd c (by decide) | exact absurd (by decide) c)) (fun _ => ?_)
            refine V2_iload (i := 6) d_Rows_canBeBetter_94 rfl ?_
            refine V2_if_eq (tgt := 110) d_Rows_canBeBetter_96 rfl (fun c => (by first | exact absurd c (by decide) | exact absurd (by decide) c)) (fun _ => ?_)
            refine V2_aload_n (i := 0) d_Rows_canBeBetter_99 rfl rfl ?_
            refine V2_iload (i := 4) d_Rows_canBeBetter_100 rfl ?_
            refine V2_put d_Rows_canBeBetter_102 fl_Rows_43 (by decide) rfl (by decide) rfl ?_
            refine V2_aload_n (i := 0) d_Rows_canBeBetter_105 rfl rfl ?_
            refine V2_iload_n (i := 1) d_Rows_canBeBetter_106 rfl rfl ?_
            refine V2_callV [.int (3 : Int32)] d_Rows_canBeBetter_107 rfl rfl lk_Rows_132 mo_Rows_keep (by decide) rfl rfl rfl (Nat.le_of_ble_eq_true rfl) (Nat.le_of_ble_eq_true rfl) ?_
            refine V2.to (l' := [some (.ref 36), some (.int (3 : Int32)), none]) ?_ rfl rfl rfl rfl
            refine V2_iconst (v := 0) d_Rows_keep_0 rfl ?_
            refine V2_istore_n (i := 2) (l' := [some (.ref 36), some (.int (3 : Int32)), some (.int (0 : Int32))]) d_Rows_keep_1 rfl (xst_i (Nat.le_of_ble_eq_true rfl) rfl rfl) ?_
            refine V2_iload_n (i := 2) d_Rows_keep_2 rfl rfl ?_
            refine V2_aload_n (i := 0) d_Rows_keep_3 rfl rfl ?_
            refine V2_getr (a := 40) d_Rows_keep_4 fl_Rows_26 (by decide) rfl (by decide) rfl ?_
            refine V2_alen (t := 0) (v := 4) d_Rows_keep_7 (by decide) rfl (by decide) rfl ?_
            refine V2_icmp_ge (tgt := 47) d_Rows_keep_8 rfl (fun c => (by first | exact absurd c (by decide) | exact absurd (by decide) c)) (fun _ => ?_)
            refine V2_iload_n (i := 2) d_Rows_keep_11 rfl rfl ?_
            refine V2_aload_n (i := 0) d_Rows_keep_12 rfl rfl ?_
            refine V2_getr (a := 41) d_Rows_keep_13 fl_Rows_30 (by decide) rfl (by decide) rfl ?_
            refine V2_alen (t := 0) (v := 4) d_Rows_keep_16 (by decide) rfl (by decide) rfl ?_
            refine V2_icmp_ge (tgt := 47) d_Rows_keep_17 rfl (fun c => (by first | exact absurd c (by decide) | exact absurd (by decide) c)) (fun _ => ?_)
            refine V2_aload_n (i := 0) d_Rows_keep_20 rfl rfl ?_
            refine V2_getr (a := 41) d_Rows_keep_21 fl_Rows_30 (by decide) rfl (by decide) rfl ?_
            refine V2_iload_n (i := 2) d_Rows_keep_24 rfl rfl ?_
            refine V2_iload_n (i := 2) d_Rows_keep_25 rfl rfl ?_
            refine V2_iload_n (i := 1) d_Rows_keep_26 rfl rfl ?_
            refine V2_icmp_gt (tgt := 39) d_Rows_keep_27 rfl (fun c => (by first | exact absurd c (by decide) | exact absurd (by decide) c)) (fun _ => ?_)
            refine V2_aload_n (i := 0) d_Rows_keep_30 rfl rfl ?_
            refine V2_getr (a := 40) d_Rows_keep_31 fl_Rows_26 (by decide) rfl (by decide) rfl ?_
            refine V2_iload_n (i := 2) d_Rows_keep_34 rfl rfl ?_
            refine V2_iaload (v := G 40 0) d_Rows_keep_35 (by decide) rfl (xixA (n := 0) rfl (by decide) (by decide)) rfl ?_
            refine V2_topi (fun v25 ev25 => ?_)
            refine V2_goto (tgt := 40) d_Rows_keep_36 rfl ?_
            refine V2_iastore (j := 0) d_Rows_keep_40 (by decide) rfl (xixA (n := 0) rfl (by decide) (by decide)) rfl ?_
            refine V2_iinc (i := 2) (v := 1) (l' := [some (.ref 36), some (.int (3 : Int32)), some (.int (1 : Int32))]) d_Rows_keep_41 rfl (by decide) (xst_i (Nat.le_of_ble_eq_true rfl) rfl rfl) ?_
            refine V2_goto (tgt := 2) d_Rows_keep_44 rfl ?_
            refine V2_iload_n (i := 2) d_Rows_keep_2 rfl rfl ?_
            refine V2_aload_n (i := 0) d_Rows_keep_3 rfl rfl ?_
            refine V2_getr (a := 40) d_Rows_keep_4 fl_Rows_26 (by decide) rfl (by decide) rfl ?_
            refine V2_alen (t := 0) (v := 4) d_Rows_keep_7 (by decide) rfl (by decide) rfl ?_
            refine V2_icmp_ge (tgt := 47) d_Rows_keep_8 rfl (fun c => (by first | exact absurd c (by decide) | exact absurd (by decide) c)) (fun _ => ?_)
            refine V2_iload_n (i := 2) d_Rows_keep_11 rfl rfl ?_
            refine V2_aload_n (i := 0) d_Rows_keep_12 rfl rfl ?_
            refine V2_getr (a := 41) d_Rows_keep_13 fl_Rows_30 (by decide) rfl (by decide) rfl ?_
            refine V2_alen (t := 0) (v := 4) d_Rows_keep_16 (by decide) rfl (by decide) rfl ?_
            refine V2_icmp_ge (tgt := 47) d_Rows_keep_17 rfl (fun c => (by first | exact absurd c (by decide) | exact absurd (by decide) c)) (fun _ => ?_)
            refine V2_aload_n (i := 0) d_Rows_keep_20 rfl rfl ?_
            refine V2_getr (a := 41) d_Rows_keep_21 fl_Rows_30 (by decide) rfl (by decide) rfl ?_
            refine V2_iload_n (i := 2) d_Rows_keep_24 rfl rfl ?_
            refine V2_iload_n (i := 2) d_Rows_keep_25 rfl rfl ?_
            refine V2_iload_n (i := 1) d_Rows_keep_26 rfl rfl ?_
            refine V2_icmp_gt (tgt := 39) d_Rows_keep_27 rfl (fun c => (by first | exact absurd c (by decide) | exact absurd (by decide) c)) (fun _ => ?_)
            refine V2_aload_n (i := 0) d_Rows_keep_30 rfl rfl ?_
            refine V2_getr (a := 40) d_Rows_keep_31 fl_Rows_26 (by decide) rfl (by decide) rfl ?_
            refine V2_iload_n (i := 2) d_Rows_keep_34 rfl rfl ?_
            refine V2_iaload (v := G 40 1) d_Rows_keep_35 (by decide) rfl (xixA (n := 1) rfl (by decide) (by decide)) rfl ?_
            refine V2_topi (fun v27 ev27 => ?_)
            refine V2_goto (tgt := 40) d_Rows_keep_36 rfl ?_
            refine V2_iastore (j := 1) d_Rows_keep_40 (by decide) rfl (xixA (n := 1) rfl (by decide) (by decide)) rfl ?_
            refine V2_iinc (i := 2) (v := 2) (l' := [some (.ref 36), some (.int (3 : Int32)), some (.int (2 : Int32))]) d_Rows_keep_41 rfl (by decide) (xst_i (Nat.le_of_ble_eq_true rfl) rfl rfl) ?_
            refine V2_goto (tgt := 2) d_Rows_keep_44 rfl ?_
            refine V2_iload_n (i := 2) d_Rows_keep_2 rfl rfl ?_
            refine V2_aload_n (i := 0) d_Rows_keep_3 rfl rfl ?_
            refine V2_getr (a := 40) d_Rows_keep_4 fl_Rows_26 (by decide) rfl (by decide) rfl ?_
            refine V2_alen (t := 0) (v := 4) d_Rows_keep_7 (by decide) rfl (by decide) rfl ?_
            refine V2_icmp_ge (tgt := 47) d_Rows_keep_8 rfl (fun c => (by first | exact absurd c (by decide) | exact absurd (by decide) c)) (fun _ => ?_)
            refine V2_iload_n (i := 2) d_Rows_keep_11 rfl rfl ?_
            refine V2_aload_n (i := 0) d_Rows_keep_12 rfl rfl ?_
            refine V2_getr (a := 41) d_Rows_keep_13 fl_Rows_30 (by decide) rfl (by decide) rfl ?_
            refine V2_alen (t := 0) (v := 4) d_Rows_keep_16 (by decide) rfl (by decide) rfl ?_
            refine V2_icmp_ge (tgt := 47) d_Rows_keep_17 rfl (fun c => (by first | exact absurd c (by decide) | exact absurd (by decide) c)) (fun _ => ?_)
            refine V2_aload_n (i := 0) d_Rows_keep_20 rfl rfl ?_
            refine V2_getr (a := 41) d_Rows_keep_21 fl_Rows_30 (by decide) rfl (by decide) rfl ?_
            refine V2_iload_n (i := 2) d_Rows_keep_24 rfl rfl ?_
            refine V2_iload_n (i := 2) d_Rows_keep_25 rfl rfl ?_
            refine V2_iload_n (i := 1) d_Rows_keep_26 rfl rfl ?_
            refine V2_icmp_gt (tgt := 39) d_Rows_keep_27 rfl (fun c => (by first | exact absurd c (by decide) | exact absurd (by decide) c)) (fun _ => ?_)
            refine V2_aload_n (i := 0) d_Rows_keep_30 rfl rfl ?_
            refine V2_getr (a := 40) d_Rows_keep_31 fl_Rows_26 (by decide) rfl (by decide) rfl ?_
            refine V2_iload_n (i := 2) d_Rows_keep_34 rfl rfl ?_
            refine V2_iaload (v := G 40 2) d_Rows_keep_35 (by decide) rfl (xixA (n := 2) rfl (by decide) (by decide)) rfl ?_
            refine V2_topi (fun v29 ev29 => ?_)
            refine V2_goto (tgt := 40) d_Rows_keep_36 rfl ?_
            refine V2_iastore (j := 2) d_Rows_keep_40 (by decide) rfl (xixA (n := 2) rfl (by decide) (by decide)) rfl ?_
            refine V2_iinc (i := 2) (v := 3) (l' := [some (.ref 36), some (.int (3 : Int32)), some (.int (3 : Int32))]) d_Rows_keep_41 rfl (by decide) (xst_i (Nat.le_of_ble_eq_true rfl) rfl rfl) ?_
            refine V2_goto (tgt := 2) d_Rows_keep_44 rfl ?_
            refine V2_iload_n (i := 2) d_Rows_keep_2 rfl rfl ?_
            refine V2_aload_n (i := 0) d_Rows_keep_3 rfl rfl ?_
            refine V2_getr (a := 40) d_Rows_keep_4 fl_Rows_26 (by decide) rfl (by decide) rfl ?_
            refine V2_alen (t := 0) (v := 4) d_Rows_keep_7 (by decide) rfl (by decide) rfl ?_
            refine V2_icmp_ge (tgt := 47) d_Rows_keep_8 rfl (fun c => (by first | exact absurd c (by decide) | exact absurd (by decide) c)) (fun _ => ?_)
            refine V2_iload_n (i := 2) d_Rows_keep_11 rfl rfl ?_
            refine V2_aload_n (i := 0) d_Rows_keep_12 rfl rfl ?_
            refine V2_getr (a := 41) d_Rows_keep_13 fl_Rows_30 (by decide) rfl (by decide) rfl ?_
            refine V2_alen (t := 0) (v := 4) d_Rows_keep_16 (by decide) rfl (by decide) rfl ?_
            refine V2_icmp_ge (tgt := 47) d_Rows_keep_17 rfl (fun c => (by first | exact absurd c (by decide) | exact absurd (by decide) c)) (fun _ => ?_)
            refine V2_aload_n (i := 0) d_Rows_keep_20 rfl rfl ?_
            refine V2_getr (a := 41) d_Rows_keep_21 fl_Rows_30 (by decide) rfl (by decide) rfl ?_
            refine V2_iload_n (i := 2) d_Rows_keep_24 rfl rfl ?_
            refine V2_iload_n (i := 2) d_Rows_keep_25 rfl rfl ?_
            refine V2_iload_n (i := 1) d_Rows_keep_26 rfl rfl ?_
            refine V2_icmp_gt (tgt := 39) d_Rows_keep_27 rfl (fun c => (by first | exact absurd c (by decide) | exact absurd (by decide) c)) (fun _ => ?_)
            refine V2_aload_n (i := 0) d_Rows_keep_30 rfl rfl ?_
            refine V2_getr (a := 40) d_Rows_keep_31 fl_Rows_26 (by decide) rfl (by decide) rfl ?_
            refine V2_iload_n (i := 2) d_Rows_keep_34 rfl rfl ?_
            refine V2_iaload (v := G 40 3) d_Rows_keep_35 (by decide) rfl (xixA (n := 3) rfl (by decide) (by decide)) rfl ?_
            refine V2_topi (fun v31 ev31 => ?_)
            refine V2_goto (tgt := 40) d_Rows_keep_36 rfl ?_
            refine V2_iastore (j := 3) d_Rows_keep_40 (by decide) rfl (xixA (n := 3) rfl (by decide) (by decide)) rfl ?_
            refine V2_iinc (i := 2) (v := 4) (l' := [some (.ref 36), some (.int (3 : Int32)), some (.int (4 : Int32))]) d_Rows_keep_41 rfl (by decide) (xst_i (Nat.le_of_ble_eq_true rfl) rfl rfl) ?_
            refine V2_goto (tgt := 2) d_Rows_keep_44 rfl ?_
            refine V2_iload_n (i := 2) d_Rows_keep_2 rfl rfl ?_
            refine V2_aload_n (i := 0) d_Rows_keep_3 rfl rfl ?_
            refine V2_getr (a := 40) d_Rows_keep_4 fl_Rows_26 (by decide) rfl (by decide) rfl ?_
            refine V2_alen (t := 0) (v := 4) d_Rows_keep_7 (by decide) rfl (by decide) rfl ?_
            refine V2_icmp_ge (tgt := 47) d_Rows_keep_8 rfl (fun _ => ?_) (fun c => (by first | exact absurd c (by decide) | exact absurd (by decide) c))
            refine V2_return d_Rows_keep_47 rfl ?_
            refine V2.to (st' := []) ?_ rfl rfl rfl rfl
            refine V2_iload_n (i := 3) d_Rows_canBeBetter_110 rfl rfl ?_
            refine V2_iconst (v := 1) d_Rows_canBeBetter_111 rfl ?_
            refine V2_iadd d_Rows_canBeBetter_112 ?_
            refine V2_lit (v := 5) (by decide) ?_
            refine V2_aload_n (i := 0) d_Rows_canBeBetter_113 rfl rfl ?_
            refine V2_get (v := G 36 6) d_Rows_canBeBetter_114 fl_Rows_40 (by decide) rfl (by decide) rfl rfl ?_
            refine V2_topi (fun v33 ev33 => ?_)
            refine V2_icmp_ge (tgt := 124) d_Rows_canBeBetter_117 rfl (fun c34 => ?_) (fun c34 => ?_)
            · refine V2_iconst (v := 0) d_Rows_canBeBetter_124 rfl ?_
              refine V2_zreturn d_Rows_canBeBetter_125 rfl (by decide) ?_
              refine V2.to (st' := [.int (0 : Int32)]) ?_ rfl rfl rfl rfl
              refine V2_zreturn d_Rows_goesOn_52 rfl (by decide) ?_
              have hB1 : B ≤ n := hR.1
              have hf : (B = 0 ∧ (G 36 6).toInt = (n : Int) + 1) ∨ (0 < B ∧ (G 36 6).toInt = (B : Int)) := by
                rcases hR.2.1 with ⟨h1, h2⟩ | ⟨h1, h2⟩
                · exact Or.inl ⟨h1, by rw [h2, nI_toInt (by omega)]; omega⟩
                · exact Or.inr ⟨h1, by rw [h2, nI_toInt (by have := hR.1; omega)]⟩
              have hov : (bst.toInt = -1 ∧ B = 0 ∧ (G 36 7).toInt = -1000) ∨ (¬ bst.toInt = -1 ∧ (G 36 7).toInt = hi.toInt) := by
                rcases hR.2.2 with ⟨h1, h2, h3⟩ | ⟨h1, h3, _⟩
                · exact Or.inl ⟨h1, h2, by rw [h3]; decide⟩
                · exact Or.inr ⟨h1, by rw [h3]⟩
              have sA : (T 2 - T 0).toInt = (T 2).toInt - (T 0).toInt := toI_sub (by omega) (by omega) (by omega) (by omega)
              have e2 : G 46 2 = T 2 := hx.2.2.2.2.2.1.2.2.1
              have e0 : G 46 0 = T 0 := hx.2.2.2.2.2.1.1
              have el : G 36 5 = nI n := hx.2.2.1
              have sA2 : (G 46 2 - G 46 0).toInt = (T 2).toInt - (T 0).toInt := by rw [e2, e0]; exact sA
              have nl : (G 36 5).toInt = (n : Int) := by rw [el]; exact nI_toInt (by omega)
              have h5 : ¬ T 5 = 1 := by
                intro h
                have h9 := c7
                subst ev33 ev31 ev29 ev27 ev25 ev21 ev17 ev16 ev12 ev8 ev6 ev5 ev4 ev3 ev1
                rw [hx.2.2.2.2.2.1.2.2.2.2.2.2.2, h] at h9
                exact absurd h9 (by decide)
              have hln : n = 3 + 1 := (by (try clear hQ); (try subst ev33 ev31 ev29 ev27 ev25 ev21 ev17 ev16 ev12 ev8 ev6 ev5 ev4 ev3 ev1); ((try simp only [xb_eq, xb_ne, Int32.lt_iff_toInt_lt, Int32.le_iff_toInt_le] at *) <;> (try simp only [← Int32.toInt_inj, true_and, false_and, or_false, false_or, or_true, true_or, and_true, and_false] at *) <;> omega))
              subst hln
              have e1 := hx.2.2.2.2.2.2.2.2 0 (Nat.pow_pos (by decide))
              rw [Nat.sub_self, Nat.pow_zero, Nat.mul_one, Nat.add_zero pre, tr_0 h5] at e1
              have hab : abR ((none : Option Nat).map (fun j => j + (3 + 1)), T) = T 2 - T 0 := rfl
              have hB0 : B = 0 := (by (try clear hQ); (try subst ev33 ev31 ev29 ev27 ev25 ev21 ev17 ev16 ev12 ev8 ev6 ev5 ev4 ev3 ev1); ((try simp only [xb_eq, xb_ne, Int32.lt_iff_toInt_lt, Int32.le_iff_toInt_le] at *) <;> (try simp only [← Int32.toInt_inj, true_and, false_and, or_false, false_or, or_true, true_or, and_true, and_false] at *) <;> omega))
              have hhi : bst.toInt = -1 ∨ hi.toInt < (T 2 - T 0).toInt := (by (try clear hQ); (try subst ev33 ev31 ev29 ev27 ev25 ev21 ev17 ev16 ev12 ev8 ev6 ev5 ev4 ev3 ev1); ((try simp only [xb_eq, xb_ne, Int32.lt_iff_toInt_lt, Int32.le_iff_toInt_le] at *) <;> (try simp only [← Int32.toInt_inj, true_and, false_and, or_false, false_or, or_true, true_or, and_true, and_false] at *) <;> omega))
              have hp4 := pow4 hn
              have hx4 : pre < 10 ^ (3 + 1) := hx.2.2.2.2.1
              subst ev33 ev31 ev29 ev27 ev25 ev21 ev17 ev16 ev12 ev8 ev6 ev5 ev4 ev3 ev1
              refine hQ _ 0 ⟨fun a h1 h2 => ?_, rfl, rfl⟩ (Or.inr ⟨Or.inl rfl, ?_⟩)
              · repeat (first | rw [xp_row_ne h1] | rw [xp_row_ne h2])
                try rfl
              · rw [Nat.sub_self, Nat.pow_zero, Nat.mul_one, blk_1, pP_t e1 (show _ ∨ _ from ?_)]
                · refine ⟨Nat.zero_le _, Or.inl ⟨rfl, ?_⟩, Or.inr ⟨nI_nn1 (by omega), ?_, pre, rfl, hx.2.2.2.2.1, fun i hi9 => ?_⟩⟩
                  · rcases hR.2.1 with ⟨_, h2⟩ | ⟨h1, _⟩
                    · exact h2
                    · exact absurd hB0 (Nat.ne_of_gt h1)
                  · show _ = T 2 - T 0
                    rw [← e2, ← e0]
                    rfl
                  rcases (show i = 0 ∨ i = 1 ∨ i = 2 ∨ i = 3 by omega) with h9 | h9 | h9 | h9
                  · subst h9
                    exact hx.2.2.2.1 0 (by omega)
                  · subst h9
                    exact hx.2.2.2.1 1 (by omega)
                  · subst h9
                    exact hx.2.2.2.1 2 (by omega)
                  · subst h9
                    exact hx.2.2.2.1 3 (by omega)
                · show bst.toInt = -1 ∨ (0 < 0 ∧ _) ∨ (0 = 0 ∧ B = 0 ∧ hi.toInt < (T 2 - T 0).toInt)
                  omega
            · refine V2_iconst (v := 1) d_Rows_canBeBetter_120 rfl ?_
              refine V2_goto (tgt := 125) d_Rows_canBeBetter_121 rfl ?_
              refine V2_zreturn d_Rows_canBeBetter_125 rfl (by decide) ?_
              refine V2.to (st' := [.int (1 : Int32)]) ?_ rfl rfl rfl rfl
              refine V2_zreturn d_Rows_goesOn_52 rfl (by decide) ?_
              have hB1 : B ≤ n := hR.1
              have hf : (B = 0 ∧ (G 36 6).toInt = (n : Int) + 1) ∨ (0 < B ∧ (G 36 6).toInt = (B : Int)) := by
                rcases hR.2.1 with ⟨h1, h2⟩ | ⟨h1, h2⟩
                · exact Or.inl ⟨h1, by rw [h2, nI_toInt (by omega)]; omega⟩
                · exact Or.inr ⟨h1, by rw [h2, nI_toInt (by have := hR.1; omega)]⟩
              have hov : (bst.toInt = -1 ∧ B = 0 ∧ (G 36 7).toInt = -1000) ∨ (¬ bst.toInt = -1 ∧ (G 36 7).toInt = hi.toInt) := by
                rcases hR.2.2 with ⟨h1, h2, h3⟩ | ⟨h1, h3, _⟩
                · exact Or.inl ⟨h1, h2, by rw [h3]; decide⟩
                · exact Or.inr ⟨h1, by rw [h3]⟩
              have sA : (T 2 - T 0).toInt = (T 2).toInt - (T 0).toInt := toI_sub (by omega) (by omega) (by omega) (by omega)
              have e2 : G 46 2 = T 2 := hx.2.2.2.2.2.1.2.2.1
              have e0 : G 46 0 = T 0 := hx.2.2.2.2.2.1.1
              have el : G 36 5 = nI n := hx.2.2.1
              have sA2 : (G 46 2 - G 46 0).toInt = (T 2).toInt - (T 0).toInt := by rw [e2, e0]; exact sA
              have nl : (G 36 5).toInt = (n : Int) := by rw [el]; exact nI_toInt (by omega)
              have h5 : ¬ T 5 = 1 := by
                intro h
                have h9 := c7
                subst ev33 ev31 ev29 ev27 ev25 ev21 ev17 ev16 ev12 ev8 ev6 ev5 ev4 ev3 ev1
                rw [hx.2.2.2.2.2.1.2.2.2.2.2.2.2, h] at h9
                exact absurd h9 (by decide)
              exfalso
              exact (by (try clear hQ); (try subst ev33 ev31 ev29 ev27 ev25 ev21 ev17 ev16 ev12 ev8 ev6 ev5 ev4 ev3 ev1); ((try simp only [xb_eq, xb_ne, Int32.lt_iff_toInt_lt, Int32.le_iff_toInt_le] at *) <;> (try simp only [← Int32.toInt_inj, true_and, false_and, or_false, false_or, or_true, true_or, and_true, and_false] at *) <;> omega))
  · refine V2_iload_n (i := 3) d_Rows_canBeBetter_22 rfl rfl ?_
    refine V2_aload_n (i := 0) d_Rows_canBeBetter_23 rfl rfl ?_
    refine V2_get (v := G 36 6) d_Rows_canBeBetter_24 fl_Rows_40 (by decide) rfl (by decide) rfl rfl ?_
    refine V2_topi (fun v35 ev35 => ?_)
    refine V2_icmp_ge (tgt := 34) d_Rows_canBeBetter_27 rfl (fun c36 => ?_) (fun c36 => ?_)
    · refine V2_iconst (v := 0) d_Rows_canBeBetter_34 rfl ?_
      refine V2_istore (i := 5) (l' := [some (.ref 36), some (.int (3 : Int32)), some (.ref 46), some (.int (4 : Int32)), some (.int v5), some (.int (0 : Int32)), none]) d_Rows_canBeBetter_35 (xst_i (Nat.le_of_ble_eq_true rfl) rfl rfl) ?_
      refine V2_aload_n (i := 2) d_Rows_canBeBetter_37 rfl rfl ?_
      refine V2_get (v := G 46 7) d_Rows_canBeBetter_38 fl_Rows_80 (by decide) rfl (by decide) rfl rfl ?_
      refine V2_topi (fun v37 ev37 => ?_)
      refine V2_if_ne (tgt := 76) d_Rows_canBeBetter_41 rfl (fun c38 => ?_) (fun c38 => ?_)
      · refine V2_iconst (v := 0) d_Rows_canBeBetter_76 rfl ?_
        refine V2_istore (i := 6) (l' := [some (.ref 36), some (.int (3 : Int32)), some (.ref 46), some (.int (4 : Int32)), some (.int v5), some (.int (0 : Int32)), some (.int (0 : Int32))]) d_Rows_canBeBetter_77 (xst_i (Nat.le_of_ble_eq_true rfl) rfl rfl) ?_
        refine V2_iload (i := 5) d_Rows_canBeBetter_79 rfl ?_
        refine V2_if_eq (tgt := 89) d_Rows_canBeBetter_81 rfl (fun _ => ?_) (fun c => (by first | exact absurd c (by decide) | exact absurd (by decide) c))
        refine V2_iload (i := 5) d_Rows_canBeBetter_89 rfl ?_
        refine V2_if_ne (tgt := 99) d_Rows_canBeBetter_91 rfl (fun c => (by first | exact absurd c (by decide) | exact absurd (by decide) c)) (fun _ => ?_)
        refine V2_iload (i := 6) d_Rows_canBeBetter_94 rfl ?_
        refine V2_if_eq (tgt := 110) d_Rows_canBeBetter_96 rfl (fun _ => ?_) (fun c => (by first | exact absurd c (by decide) | exact absurd (by decide) c))
        refine V2_iload_n (i := 3) d_Rows_canBeBetter_110 rfl rfl ?_
        refine V2_iconst (v := 1) d_Rows_canBeBetter_111 rfl ?_
        refine V2_iadd d_Rows_canBeBetter_112 ?_
        refine V2_lit (v := 5) (by decide) ?_
        refine V2_aload_n (i := 0) d_Rows_canBeBetter_113 rfl rfl ?_
        refine V2_get (v := G 36 6) d_Rows_canBeBetter_114 fl_Rows_40 (by decide) rfl (by decide) rfl rfl ?_
        refine V2_topi (fun v39 ev39 => ?_)
        refine V2_icmp_ge (tgt := 124) d_Rows_canBeBetter_117 rfl (fun c40 => ?_) (fun c40 => ?_)
        · refine V2_iconst (v := 0) d_Rows_canBeBetter_124 rfl ?_
          refine V2_zreturn d_Rows_canBeBetter_125 rfl (by decide) ?_
          refine V2.to (st' := [.int (0 : Int32)]) ?_ rfl rfl rfl rfl
          refine V2_zreturn d_Rows_goesOn_52 rfl (by decide) ?_
          have hB1 : B ≤ n := hR.1
          have hf : (B = 0 ∧ (G 36 6).toInt = (n : Int) + 1) ∨ (0 < B ∧ (G 36 6).toInt = (B : Int)) := by
            rcases hR.2.1 with ⟨h1, h2⟩ | ⟨h1, h2⟩
            · exact Or.inl ⟨h1, by rw [h2, nI_toInt (by omega)]; omega⟩
            · exact Or.inr ⟨h1, by rw [h2, nI_toInt (by have := hR.1; omega)]⟩
          have hov : (bst.toInt = -1 ∧ B = 0 ∧ (G 36 7).toInt = -1000) ∨ (¬ bst.toInt = -1 ∧ (G 36 7).toInt = hi.toInt) := by
            rcases hR.2.2 with ⟨h1, h2, h3⟩ | ⟨h1, h3, _⟩
            · exact Or.inl ⟨h1, h2, by rw [h3]; decide⟩
            · exact Or.inr ⟨h1, by rw [h3]⟩
          have sA : (T 2 - T 0).toInt = (T 2).toInt - (T 0).toInt := toI_sub (by omega) (by omega) (by omega) (by omega)
          have e2 : G 46 2 = T 2 := hx.2.2.2.2.2.1.2.2.1
          have e0 : G 46 0 = T 0 := hx.2.2.2.2.2.1.1
          have el : G 36 5 = nI n := hx.2.2.1
          have sA2 : (G 46 2 - G 46 0).toInt = (T 2).toInt - (T 0).toInt := by rw [e2, e0]; exact sA
          have nl : (G 36 5).toInt = (n : Int) := by rw [el]; exact nI_toInt (by omega)
          have h5 : T 5 = 1 := by
            have h9 := c7
            subst ev39 ev37 ev35 ev6 ev5 ev4 ev3 ev1
            rw [hx.2.2.2.2.2.1.2.2.2.2.2.2.2] at h9
            exact hx.2.2.2.2.2.2.2.1.2.2.2.2.2.1.resolve_left h9
          have hrow : ∀ i, pre * 10 ^ (n - (3 + 1)) ≤ i → i < pre * 10 ^ (n - (3 + 1)) + 10 ^ (n - (3 + 1)) → trN (PN S) n i S = ((trN (PN S) (n - (3 + 1)) (i - pre * 10 ^ (n - (3 + 1))) T).1.map (fun j => j + (3 + 1)), (trN (PN S) (n - (3 + 1)) (i - pre * 10 ^ (n - (3 + 1))) T).2) := by
            intro i h1 h2
            have hs := hx.2.2.2.2.2.2.2.2 (i - pre * 10 ^ (n - (3 + 1))) (by omega)
            rw [show pre * 10 ^ (n - (3 + 1)) + (i - pre * 10 ^ (n - (3 + 1))) = i by omega] at hs
            exact hs
          have hlB : 0 < B ∧ B ≤ 3 + 1 := (by (try clear hQ); (try subst ev39 ev37 ev35 ev6 ev5 ev4 ev3 ev1); ((try simp only [xb_eq, xb_ne, Int32.lt_iff_toInt_lt, Int32.le_iff_toInt_le] at *) <;> (try simp only [← Int32.toInt_inj, true_and, false_and, or_false, false_or, or_true, true_or, and_true, and_false] at *) <;> omega))
          subst ev39 ev37 ev35 ev6 ev5 ev4 ev3 ev1
          refine hQ _ 0 ⟨fun a h1 h2 => ?_, rfl, rfl⟩ (Or.inr ⟨Or.inl rfl, ?_⟩)
          · rfl
          · rw [blk_id _ _ _ _ (fun i h1 h2 => ?_)]
            · exact hR
            · have e1 := hrow i h1 h2
              rw [tr_1 h5] at e1
              refine pP_f e1 ?_
              show ¬ (bst.toInt = -1 ∨ (0 < 0 + (3 + 1) ∧ (B = 0 ∨ 0 + (3 + 1) < B)) ∨ (0 + (3 + 1) = 0 ∧ _))
              omega
        · refine V2_iconst (v := 1) d_Rows_canBeBetter_120 rfl ?_
          refine V2_goto (tgt := 125) d_Rows_canBeBetter_121 rfl ?_
          refine V2_zreturn d_Rows_canBeBetter_125 rfl (by decide) ?_
          refine V2.to (st' := [.int (1 : Int32)]) ?_ rfl rfl rfl rfl
          refine V2_zreturn d_Rows_goesOn_52 rfl (by decide) ?_
          have hB1 : B ≤ n := hR.1
          have hf : (B = 0 ∧ (G 36 6).toInt = (n : Int) + 1) ∨ (0 < B ∧ (G 36 6).toInt = (B : Int)) := by
            rcases hR.2.1 with ⟨h1, h2⟩ | ⟨h1, h2⟩
            · exact Or.inl ⟨h1, by rw [h2, nI_toInt (by omega)]; omega⟩
            · exact Or.inr ⟨h1, by rw [h2, nI_toInt (by have := hR.1; omega)]⟩
          have hov : (bst.toInt = -1 ∧ B = 0 ∧ (G 36 7).toInt = -1000) ∨ (¬ bst.toInt = -1 ∧ (G 36 7).toInt = hi.toInt) := by
            rcases hR.2.2 with ⟨h1, h2, h3⟩ | ⟨h1, h3, _⟩
            · exact Or.inl ⟨h1, h2, by rw [h3]; decide⟩
            · exact Or.inr ⟨h1, by rw [h3]⟩
          have sA : (T 2 - T 0).toInt = (T 2).toInt - (T 0).toInt := toI_sub (by omega) (by omega) (by omega) (by omega)
          have e2 : G 46 2 = T 2 := hx.2.2.2.2.2.1.2.2.1
          have e0 : G 46 0 = T 0 := hx.2.2.2.2.2.1.1
          have el : G 36 5 = nI n := hx.2.2.1
          have sA2 : (G 46 2 - G 46 0).toInt = (T 2).toInt - (T 0).toInt := by rw [e2, e0]; exact sA
          have nl : (G 36 5).toInt = (n : Int) := by rw [el]; exact nI_toInt (by omega)
          have h5 : T 5 = 1 := by
            have h9 := c7
            subst ev39 ev37 ev35 ev6 ev5 ev4 ev3 ev1
            rw [hx.2.2.2.2.2.1.2.2.2.2.2.2.2] at h9
            exact hx.2.2.2.2.2.2.2.1.2.2.2.2.2.1.resolve_left h9
          exfalso
          exact (by (try clear hQ); (try subst ev39 ev37 ev35 ev6 ev5 ev4 ev3 ev1); ((try simp only [xb_eq, xb_ne, Int32.lt_iff_toInt_lt, Int32.le_iff_toInt_le] at *) <;> (try simp only [← Int32.toInt_inj, true_and, false_and, or_false, false_or, or_true, true_or, and_true, and_false] at *) <;> omega))
      · refine V2_iload_n (i := 3) d_Rows_canBeBetter_44 rfl rfl ?_
        refine V2_aload_n (i := 0) d_Rows_canBeBetter_45 rfl rfl ?_
        refine V2_get (v := G 36 5) d_Rows_canBeBetter_46 fl_Rows_37 (by decide) rfl (by decide) rfl rfl ?_
        refine V2_topi (fun v41 ev41 => ?_)
        refine V2_icmp_ne (tgt := 76) d_Rows_canBeBetter_49 rfl (fun c42 => ?_) (fun c42 => ?_)
        · refine V2_iconst (v := 0) d_Rows_canBeBetter_76 rfl ?_
          refine V2_istore (i := 6) (l' := [some (.ref 36), some (.int (3 : Int32)), some (.ref 46), some (.int (4 : Int32)), some (.int v5), some (.int (0 : Int32)), some (.int (0 : Int32))]) d_Rows_canBeBetter_77 (xst_i (Nat.le_of_ble_eq_true rfl) rfl rfl) ?_
          refine V2_iload (i := 5) d_Rows_canBeBetter_79 rfl ?_
          refine V2_if_eq (tgt := 89) d_Rows_canBeBetter_81 rfl (fun _ => ?_) (fun c => (by first | exact absurd c (by decide) | exact absurd (by decide) c))
          refine V2_iload (i := 5) d_Rows_canBeBetter_89 rfl ?_
          refine V2_if_ne (tgt := 99) d_Rows_canBeBetter_91 rfl (fun c => (by first | exact absurd c (by decide) | exact absurd (by decide) c)) (fun _ => ?_)
          refine V2_iload (i := 6) d_Rows_canBeBetter_94 rfl ?_
          refine V2_if_eq (tgt := 110) d_Rows_canBeBetter_96 rfl (fun _ => ?_) (fun c => (by first | exact absurd c (by decide) | exact absurd (by decide) c))
          refine V2_iload_n (i := 3) d_Rows_canBeBetter_110 rfl rfl ?_
          refine V2_iconst (v := 1) d_Rows_canBeBetter_111 rfl ?_
          refine V2_iadd d_Rows_canBeBetter_112 ?_
          refine V2_lit (v := 5) (by decide) ?_
          refine V2_aload_n (i := 0) d_Rows_canBeBetter_113 rfl rfl ?_
          refine V2_get (v := G 36 6) d_Rows_canBeBetter_114 fl_Rows_40 (by decide) rfl (by decide) rfl rfl ?_
          refine V2_topi (fun v43 ev43 => ?_)
          refine V2_icmp_ge (tgt := 124) d_Rows_canBeBetter_117 rfl (fun c44 => ?_) (fun c44 => ?_)
          · refine V2_iconst (v := 0) d_Rows_canBeBetter_124 rfl ?_
            refine V2_zreturn d_Rows_canBeBetter_125 rfl (by decide) ?_
            refine V2.to (st' := [.int (0 : Int32)]) ?_ rfl rfl rfl rfl
            refine V2_zreturn d_Rows_goesOn_52 rfl (by decide) ?_
            have hB1 : B ≤ n := hR.1
            have hf : (B = 0 ∧ (G 36 6).toInt = (n : Int) + 1) ∨ (0 < B ∧ (G 36 6).toInt = (B : Int)) := by
              rcases hR.2.1 with ⟨h1, h2⟩ | ⟨h1, h2⟩
              · exact Or.inl ⟨h1, by rw [h2, nI_toInt (by omega)]; omega⟩
              · exact Or.inr ⟨h1, by rw [h2, nI_toInt (by have := hR.1; omega)]⟩
            have hov : (bst.toInt = -1 ∧ B = 0 ∧ (G 36 7).toInt = -1000) ∨ (¬ bst.toInt = -1 ∧ (G 36 7).toInt = hi.toInt) := by
              rcases hR.2.2 with ⟨h1, h2, h3⟩ | ⟨h1, h3, _⟩
              · exact Or.inl ⟨h1, h2, by rw [h3]; decide⟩
              · exact Or.inr ⟨h1, by rw [h3]⟩
            have sA : (T 2 - T 0).toInt = (T 2).toInt - (T 0).toInt := toI_sub (by omega) (by omega) (by omega) (by omega)
            have e2 : G 46 2 = T 2 := hx.2.2.2.2.2.1.2.2.1
            have e0 : G 46 0 = T 0 := hx.2.2.2.2.2.1.1
            have el : G 36 5 = nI n := hx.2.2.1
            have sA2 : (G 46 2 - G 46 0).toInt = (T 2).toInt - (T 0).toInt := by rw [e2, e0]; exact sA
            have nl : (G 36 5).toInt = (n : Int) := by rw [el]; exact nI_toInt (by omega)
            have h5 : T 5 = 1 := by
              have h9 := c7
              subst ev43 ev41 ev37 ev35 ev6 ev5 ev4 ev3 ev1
              rw [hx.2.2.2.2.2.1.2.2.2.2.2.2.2] at h9
              exact hx.2.2.2.2.2.2.2.1.2.2.2.2.2.1.resolve_left h9
            exfalso
            exact (by (try clear hQ); (try subst ev43 ev41 ev37 ev35 ev6 ev5 ev4 ev3 ev1); ((try simp only [xb_eq, xb_ne, Int32.lt_iff_toInt_lt, Int32.le_iff_toInt_le] at *) <;> (try simp only [← Int32.toInt_inj, true_and, false_and, or_false, false_or, or_true, true_or, and_true, and_false] at *) <;> omega))
          · refine V2_iconst (v := 1) d_Rows_canBeBetter_120 rfl ?_
            refine V2_goto (tgt := 125) d_Rows_canBeBetter_121 rfl ?_
            refine V2_zreturn d_Rows_canBeBetter_125 rfl (by decide) ?_
            refine V2.to (st' := [.int (1 : Int32)]) ?_ rfl rfl rfl rfl
            refine V2_zreturn d_Rows_goesOn_52 rfl (by decide) ?_
            have hB1 : B ≤ n := hR.1
            have hf : (B = 0 ∧ (G 36 6).toInt = (n : Int) + 1) ∨ (0 < B ∧ (G 36 6).toInt = (B : Int)) := by
              rcases hR.2.1 with ⟨h1, h2⟩ | ⟨h1, h2⟩
              · exact Or.inl ⟨h1, by rw [h2, nI_toInt (by omega)]; omega⟩
              · exact Or.inr ⟨h1, by rw [h2, nI_toInt (by have := hR.1; omega)]⟩
            have hov : (bst.toInt = -1 ∧ B = 0 ∧ (G 36 7).toInt = -1000) ∨ (¬ bst.toInt = -1 ∧ (G 36 7).toInt = hi.toInt) := by
              rcases hR.2.2 with ⟨h1, h2, h3⟩ | ⟨h1, h3, _⟩
              · exact Or.inl ⟨h1, h2, by rw [h3]; decide⟩
              · exact Or.inr ⟨h1, by rw [h3]⟩
            have sA : (T 2 - T 0).toInt = (T 2).toInt - (T 0).toInt := toI_sub (by omega) (by omega) (by omega) (by omega)
            have e2 : G 46 2 = T 2 := hx.2.2.2.2.2.1.2.2.1
            have e0 : G 46 0 = T 0 := hx.2.2.2.2.2.1.1
            have el : G 36 5 = nI n := hx.2.2.1
            have sA2 : (G 46 2 - G 46 0).toInt = (T 2).toInt - (T 0).toInt := by rw [e2, e0]; exact sA
            have nl : (G 36 5).toInt = (n : Int) := by rw [el]; exact nI_toInt (by omega)
            have h5 : T 5 = 1 := by
              have h9 := c7
              subst ev43 ev41 ev37 ev35 ev6 ev5 ev4 ev3 ev1
              rw [hx.2.2.2.2.2.1.2.2.2.2.2.2.2] at h9
              exact hx.2.2.2.2.2.2.2.1.2.2.2.2.2.1.resolve_left h9
            exfalso
            exact (by (try clear hQ); (try subst ev43 ev41 ev37 ev35 ev6 ev5 ev4 ev3 ev1); ((try simp only [xb_eq, xb_ne, Int32.lt_iff_toInt_lt, Int32.le_iff_toInt_le] at *) <;> (try simp only [← Int32.toInt_inj, true_and, false_and, or_false, false_or, or_true, true_or, and_true, and_false] at *) <;> omega))
        · refine V2_aload_n (i := 0) d_Rows_canBeBetter_52 rfl rfl ?_
          refine V2_get (v := G 36 6) d_Rows_canBeBetter_53 fl_Rows_40 (by decide) rfl (by decide) rfl rfl ?_
          refine V2_topi (fun v45 ev45 => ?_)
          refine V2_aload_n (i := 0) d_Rows_canBeBetter_56 rfl rfl ?_
          refine V2_get (v := G 36 5) d_Rows_canBeBetter_57 fl_Rows_37 (by decide) rfl (by decide) rfl rfl ?_
          refine V2_topi (fun v46 ev46 => ?_)
          refine V2_icmp_le (tgt := 76) d_Rows_canBeBetter_60 rfl (fun c47 => ?_) (fun c47 => ?_)
          · refine V2_iconst (v := 0) d_Rows_canBeBetter_76 rfl ?_
            refine V2_istore (i := 6) (l' := [some (.ref 36), some (.int (3 : Int32)), some (.ref 46), some (.int (4 : Int32)), some (.int v5), some (.int (0 : Int32)), some (.int (0 : Int32))]) d_Rows_canBeBetter_77 (xst_i (Nat.le_of_ble_eq_true rfl) rfl rfl) ?_
            refine V2_iload (i := 5) d_Rows_canBeBetter_79 rfl ?_
            refine V2_if_eq (tgt := 89) d_Rows_canBeBetter_81 rfl (fun _ => ?_) (fun c => (by first | exact absurd c (by decide) | exact absurd (by decide) c))
            refine V2_iload (i := 5) d_Rows_canBeBetter_89 rfl ?_
            refine V2_if_ne (tgt := 99) d_Rows_canBeBetter_91 rfl (fun c => (by first | exact absurd c (by decide) | exact absurd (by decide) c)) (fun _ => ?_)
            refine V2_iload (i := 6) d_Rows_canBeBetter_94 rfl ?_
            refine V2_if_eq (tgt := 110) d_Rows_canBeBetter_96 rfl (fun _ => ?_) (fun c => (by first | exact absurd c (by decide) | exact absurd (by decide) c))
            refine V2_iload_n (i := 3) d_Rows_canBeBetter_110 rfl rfl ?_
            refine V2_iconst (v := 1) d_Rows_canBeBetter_111 rfl ?_
            refine V2_iadd d_Rows_canBeBetter_112 ?_
            refine V2_lit (v := 5) (by decide) ?_
            refine V2_aload_n (i := 0) d_Rows_canBeBetter_113 rfl rfl ?_
            refine V2_get (v := G 36 6) d_Rows_canBeBetter_114 fl_Rows_40 (by decide) rfl (by decide) rfl rfl ?_
            refine V2_topi (fun v48 ev48 => ?_)
            refine V2_icmp_ge (tgt := 124) d_Rows_canBeBetter_117 rfl (fun c49 => ?_) (fun c49 => ?_)
            · refine V2_iconst (v := 0) d_Rows_canBeBetter_124 rfl ?_
              refine V2_zreturn d_Rows_canBeBetter_125 rfl (by decide) ?_
              refine V2.to (st' := [.int (0 : Int32)]) ?_ rfl rfl rfl rfl
              refine V2_zreturn d_Rows_goesOn_52 rfl (by decide) ?_
              have hB1 : B ≤ n := hR.1
              have hf : (B = 0 ∧ (G 36 6).toInt = (n : Int) + 1) ∨ (0 < B ∧ (G 36 6).toInt = (B : Int)) := by
                rcases hR.2.1 with ⟨h1, h2⟩ | ⟨h1, h2⟩
                · exact Or.inl ⟨h1, by rw [h2, nI_toInt (by omega)]; omega⟩
                · exact Or.inr ⟨h1, by rw [h2, nI_toInt (by have := hR.1; omega)]⟩
              have hov : (bst.toInt = -1 ∧ B = 0 ∧ (G 36 7).toInt = -1000) ∨ (¬ bst.toInt = -1 ∧ (G 36 7).toInt = hi.toInt) := by
                rcases hR.2.2 with ⟨h1, h2, h3⟩ | ⟨h1, h3, _⟩
                · exact Or.inl ⟨h1, h2, by rw [h3]; decide⟩
                · exact Or.inr ⟨h1, by rw [h3]⟩
              have sA : (T 2 - T 0).toInt = (T 2).toInt - (T 0).toInt := toI_sub (by omega) (by omega) (by omega) (by omega)
              have e2 : G 46 2 = T 2 := hx.2.2.2.2.2.1.2.2.1
              have e0 : G 46 0 = T 0 := hx.2.2.2.2.2.1.1
              have el : G 36 5 = nI n := hx.2.2.1
              have sA2 : (G 46 2 - G 46 0).toInt = (T 2).toInt - (T 0).toInt := by rw [e2, e0]; exact sA
              have nl : (G 36 5).toInt = (n : Int) := by rw [el]; exact nI_toInt (by omega)
              have h5 : T 5 = 1 := by
                have h9 := c7
                subst ev48 ev46 ev45 ev41 ev37 ev35 ev6 ev5 ev4 ev3 ev1
                rw [hx.2.2.2.2.2.1.2.2.2.2.2.2.2] at h9
                exact hx.2.2.2.2.2.2.2.1.2.2.2.2.2.1.resolve_left h9
              exfalso
              exact (by (try clear hQ); (try subst ev48 ev46 ev45 ev41 ev37 ev35 ev6 ev5 ev4 ev3 ev1); ((try simp only [xb_eq, xb_ne, Int32.lt_iff_toInt_lt, Int32.le_iff_toInt_le] at *) <;> (try simp only [← Int32.toInt_inj, true_and, false_and, or_false, false_or, or_true, true_or, and_true, and_false] at *) <;> omega))
            · refine V2_iconst (v := 1) d_Rows_canBeBetter_120 rfl ?_
              refine V2_goto (tgt := 125) d_Rows_canBeBetter_121 rfl ?_
              refine V2_zreturn d_Rows_canBeBetter_125 rfl (by decide) ?_
              refine V2.to (st' := [.int (1 : Int32)]) ?_ rfl rfl rfl rfl
              refine V2_zreturn d_Rows_goesOn_52 rfl (by decide) ?_
              have hB1 : B ≤ n := hR.1
              have hf : (B = 0 ∧ (G 36 6).toInt = (n : Int) + 1) ∨ (0 < B ∧ (G 36 6).toInt = (B : Int)) := by
                rcases hR.2.1 with ⟨h1, h2⟩ | ⟨h1, h2⟩
                · exact Or.inl ⟨h1, by rw [h2, nI_toInt (by omega)]; omega⟩
                · exact Or.inr ⟨h1, by rw [h2, nI_toInt (by have := hR.1; omega)]⟩
              have hov : (bst.toInt = -1 ∧ B = 0 ∧ (G 36 7).toInt = -1000) ∨ (¬ bst.toInt = -1 ∧ (G 36 7).toInt = hi.toInt) := by
                rcases hR.2.2 with ⟨h1, h2, h3⟩ | ⟨h1, h3, _⟩
                · exact Or.inl ⟨h1, h2, by rw [h3]; decide⟩
                · exact Or.inr ⟨h1, by rw [h3]⟩
              have sA : (T 2 - T 0).toInt = (T 2).toInt - (T 0).toInt := toI_sub (by omega) (by omega) (by omega) (by omega)
              have e2 : G 46 2 = T 2 := hx.2.2.2.2.2.1.2.2.1
              have e0 : G 46 0 = T 0 := hx.2.2.2.2.2.1.1
              have el : G 36 5 = nI n := hx.2.2.1
              have sA2 : (G 46 2 - G 46 0).toInt = (T 2).toInt - (T 0).toInt := by rw [e2, e0]; exact sA
              have nl : (G 36 5).toInt = (n : Int) := by rw [el]; exact nI_toInt (by omega)
              have h5 : T 5 = 1 := by
                have h9 := c7
                subst ev48 ev46 ev45 ev41 ev37 ev35 ev6 ev5 ev4 ev3 ev1
                rw [hx.2.2.2.2.2.1.2.2.2.2.2.2.2] at h9
                exact hx.2.2.2.2.2.2.2.1.2.2.2.2.2.1.resolve_left h9
              exfalso
              exact (by (try clear hQ); (try subst ev48 ev46 ev45 ev41 ev37 ev35 ev6 ev5 ev4 ev3 ev1); ((try simp only [xb_eq, xb_ne, Int32.lt_iff_toInt_lt, Int32.le_iff_toInt_le] at *) <;> (try simp only [← Int32.toInt_inj, true_and, false_and, or_false, false_or, or_true, true_or, and_true, and_false] at *) <;> omega))
          · refine V2_iload (i := 4) d_Rows_canBeBetter_63 rfl ?_
            refine V2_aload_n (i := 0) d_Rows_canBeBetter_65 rfl rfl ?_
            refine V2_get (v := G 36 7) d_Rows_canBeBetter_66 fl_Rows_43 (by decide) rfl (by decide) rfl rfl ?_
            refine V2_topi (fun v50 ev50 => ?_)
            refine V2_icmp_le (tgt := 76) d_Rows_canBeBetter_69 rfl (fun c51 => ?_) (fun c51 => ?_)
            · refine V2_iconst (v := 0) d_Rows_canBeBetter_76 rfl ?_
              refine V2_istore (i := 6) (l' := [some (.ref 36), some (.int (3 : Int32)), some (.ref 46), some (.int (4 : Int32)), some (.int v5), some (.int (0 : Int32)), some (.int (0 : Int32))]) d_Rows_canBeBetter_77 (xst_i (Nat.le_of_ble_eq_true rfl) rfl rfl) ?_
              refine V2_iload (i := 5) d_Rows_canBeBetter_79 rfl ?_
              refine V2_if_eq (tgt := 89) d_Rows_canBeBetter_81 rfl (fun _ => ?_) (fun c => (by first | exact absurd c (by decide) | exact absurd (by decide) c))
              refine V2_iload (i := 5) d_Rows_canBeBetter_89 rfl ?_
              refine V2_if_ne (tgt := 99) d_Rows_canBeBetter_91 rfl (fun c => (by first | exact absurd c (by decide) | exact absurd (by decide) c)) (fun _ => ?_)
              refine V2_iload (i := 6) d_Rows_canBeBetter_94 rfl ?_
              refine V2_if_eq (tgt := 110) d_Rows_canBeBetter_96 rfl (fun _ => ?_) (fun c => (by first | exact absurd c (by decide) | exact absurd (by decide) c))
              refine V2_iload_n (i := 3) d_Rows_canBeBetter_110 rfl rfl ?_
              refine V2_iconst (v := 1) d_Rows_canBeBetter_111 rfl ?_
              refine V2_iadd d_Rows_canBeBetter_112 ?_
              refine V2_lit (v := 5) (by decide) ?_
              refine V2_aload_n (i := 0) d_Rows_canBeBetter_113 rfl rfl ?_
              refine V2_get (v := G 36 6) d_Rows_canBeBetter_114 fl_Rows_40 (by decide) rfl (by decide) rfl rfl ?_
              refine V2_topi (fun v52 ev52 => ?_)
              refine V2_icmp_ge (tgt := 124) d_Rows_canBeBetter_117 rfl (fun c53 => ?_) (fun c53 => ?_)
              · refine V2_iconst (v := 0) d_Rows_canBeBetter_124 rfl ?_
                refine V2_zreturn d_Rows_canBeBetter_125 rfl (by decide) ?_
                refine V2.to (st' := [.int (0 : Int32)]) ?_ rfl rfl rfl rfl
                refine V2_zreturn d_Rows_goesOn_52 rfl (by decide) ?_
                have hB1 : B ≤ n := hR.1
                have hf : (B = 0 ∧ (G 36 6).toInt = (n : Int) + 1) ∨ (0 < B ∧ (G 36 6).toInt = (B : Int)) := by
                  rcases hR.2.1 with ⟨h1, h2⟩ | ⟨h1, h2⟩
                  · exact Or.inl ⟨h1, by rw [h2, nI_toInt (by omega)]; omega⟩
                  · exact Or.inr ⟨h1, by rw [h2, nI_toInt (by have := hR.1; omega)]⟩
                have hov : (bst.toInt = -1 ∧ B = 0 ∧ (G 36 7).toInt = -1000) ∨ (¬ bst.toInt = -1 ∧ (G 36 7).toInt = hi.toInt) := by
                  rcases hR.2.2 with ⟨h1, h2, h3⟩ | ⟨h1, h3, _⟩
                  · exact Or.inl ⟨h1, h2, by rw [h3]; decide⟩
                  · exact Or.inr ⟨h1, by rw [h3]⟩
                have sA : (T 2 - T 0).toInt = (T 2).toInt - (T 0).toInt := toI_sub (by omega) (by omega) (by omega) (by omega)
                have e2 : G 46 2 = T 2 := hx.2.2.2.2.2.1.2.2.1
                have e0 : G 46 0 = T 0 := hx.2.2.2.2.2.1.1
                have el : G 36 5 = nI n := hx.2.2.1
                have sA2 : (G 46 2 - G 46 0).toInt = (T 2).toInt - (T 0).toInt := by rw [e2, e0]; exact sA
                have nl : (G 36 5).toInt = (n : Int) := by rw [el]; exact nI_toInt (by omega)
                have h5 : T 5 = 1 := by
                  have h9 := c7
                  subst ev52 ev50 ev46 ev45 ev41 ev37 ev35 ev6 ev5 ev4 ev3 ev1
                  rw [hx.2.2.2.2.2.1.2.2.2.2.2.2.2] at h9
                  exact hx.2.2.2.2.2.2.2.1.2.2.2.2.2.1.resolve_left h9
                exfalso
                exact (by (try clear hQ); (try subst ev52 ev50 ev46 ev45 ev41 ev37 ev35 ev6 ev5 ev4 ev3 ev1); ((try simp only [xb_eq, xb_ne, Int32.lt_iff_toInt_lt, Int32.le_iff_toInt_le] at *) <;> (try simp only [← Int32.toInt_inj, true_and, false_and, or_false, false_or, or_true, true_or, and_true, and_false] at *) <;> omega))
              · refine V2_iconst (v := 1) d_Rows_canBeBetter_120 rfl ?_
                refine V2_goto (tgt := 125) d_Rows_canBeBetter_121 rfl ?_
                refine V2_zreturn d_Rows_canBeBetter_125 rfl (by decide) ?_
                refine V2.to (st' := [.int (1 : Int32)]) ?_ rfl rfl rfl rfl
                refine V2_zreturn d_Rows_goesOn_52 rfl (by decide) ?_
                have hB1 : B ≤ n := hR.1
                have hf : (B = 0 ∧ (G 36 6).toInt = (n : Int) + 1) ∨ (0 < B ∧ (G 36 6).toInt = (B : Int)) := by
                  rcases hR.2.1 with ⟨h1, h2⟩ | ⟨h1, h2⟩
                  · exact Or.inl ⟨h1, by rw [h2, nI_toInt (by omega)]; omega⟩
                  · exact Or.inr ⟨h1, by rw [h2, nI_toInt (by have := hR.1; omega)]⟩
                have hov : (bst.toInt = -1 ∧ B = 0 ∧ (G 36 7).toInt = -1000) ∨ (¬ bst.toInt = -1 ∧ (G 36 7).toInt = hi.toInt) := by
                  rcases hR.2.2 with ⟨h1, h2, h3⟩ | ⟨h1, h3, _⟩
                  · exact Or.inl ⟨h1, h2, by rw [h3]; decide⟩
                  · exact Or.inr ⟨h1, by rw [h3]⟩
                have sA : (T 2 - T 0).toInt = (T 2).toInt - (T 0).toInt := toI_sub (by omega) (by omega) (by omega) (by omega)
                have e2 : G 46 2 = T 2 := hx.2.2.2.2.2.1.2.2.1
                have e0 : G 46 0 = T 0 := hx.2.2.2.2.2.1.1
                have el : G 36 5 = nI n := hx.2.2.1
                have sA2 : (G 46 2 - G 46 0).toInt = (T 2).toInt - (T 0).toInt := by rw [e2, e0]; exact sA
                have nl : (G 36 5).toInt = (n : Int) := by rw [el]; exact nI_toInt (by omega)
                have h5 : T 5 = 1 := by
                  have h9 := c7
                  subst ev52 ev50 ev46 ev45 ev41 ev37 ev35 ev6 ev5 ev4 ev3 ev1
                  rw [hx.2.2.2.2.2.1.2.2.2.2.2.2.2] at h9
                  exact hx.2.2.2.2.2.2.2.1.2.2.2.2.2.1.resolve_left h9
                exfalso
                exact (by (try clear hQ); (try subst ev52 ev50 ev46 ev45 ev41 ev37 ev35 ev6 ev5 ev4 ev3 ev1); ((try simp only [xb_eq, xb_ne, Int32.lt_iff_toInt_lt, Int32.le_iff_toInt_le] at *) <;> (try simp only [← Int32.toInt_inj, true_and, false_and, or_false, false_or, or_true, true_or, and_true, and_false] at *) <;> omega))
            · refine V2_iconst (v := 1) d_Rows_canBeBetter_72 rfl ?_
              refine V2_goto (tgt := 77) d_Rows_canBeBetter_73 rfl ?_
              refine V2_istore (i := 6) (l' := [some (.ref 36), some (.int (3 : Int32)), some (.ref 46), some (.int (4 : Int32)), some (.int v5), some (.int (0 : Int32)), some (.int (1 : Int32))]) d_Rows_canBeBetter_77 (xst_i (Nat.le_of_ble_eq_true rfl) rfl rfl) ?_
              refine V2_iload (i := 5) d_Rows_canBeBetter_79 rfl ?_
              refine V2_if_eq (tgt := 89) d_Rows_canBeBetter_81 rfl (fun _ => ?_) (fun c => (by first | exact absurd c (by decide) | exact absurd (by decide) c))
              refine V2_iload (i := 5) d_Rows_canBeBetter_89 rfl ?_
              refine V2_if_ne (tgt := 99) d_Rows_canBeBetter_91 rfl (fun c => (by first | exact absurd c (by decide) | exact absurd (by decide) c)) (fun _ => ?_)
              refine V2_iload (i := 6) d_Rows_canBeBetter_94 rfl ?_
              refine V2_if_eq (tgt := 110) d_Rows_canBeBetter_96 rfl (fun c => (by first | exact absurd c (by decide) | exact absurd (by decide) c)) (fun _ => ?_)
              refine V2_aload_n (i := 0) d_Rows_canBeBetter_99 rfl rfl ?_
              refine V2_iload (i := 4) d_Rows_canBeBetter_100 rfl ?_
              refine V2_put d_Rows_canBeBetter_102 fl_Rows_43 (by decide) rfl (by decide) rfl ?_
              refine V2_aload_n (i := 0) d_Rows_canBeBetter_105 rfl rfl ?_
              refine V2_iload_n (i := 1) d_Rows_canBeBetter_106 rfl rfl ?_
              refine V2_callV [.int (3 : Int32)] d_Rows_canBeBetter_107 rfl rfl lk_Rows_132 mo_Rows_keep (by decide) rfl rfl rfl (Nat.le_of_ble_eq_true rfl) (Nat.le_of_ble_eq_true rfl) ?_
              refine V2.to (l' := [some (.ref 36), some (.int (3 : Int32)), none]) ?_ rfl rfl rfl rfl
              refine V2_iconst (v := 0) d_Rows_keep_0 rfl ?_
              refine V2_istore_n (i := 2) (l' := [some (.ref 36), some (.int (3 : Int32)), some (.int (0 : Int32))]) d_Rows_keep_1 rfl (xst_i (Nat.le_of_ble_eq_true rfl) rfl rfl) ?_
              refine V2_iload_n (i := 2) d_Rows_keep_2 rfl rfl ?_
              refine V2_aload_n (i := 0) d_Rows_keep_3 rfl rfl ?_
              refine V2_getr (a := 40) d_Rows_keep_4 fl_Rows_26 (by decide) rfl (by decide) rfl ?_
              refine V2_alen (t := 0) (v := 4) d_Rows_keep_7 (by decide) rfl (by decide) rfl ?_
              refine V2_icmp_ge (tgt := 47) d_Rows_keep_8 rfl (fun c => (by first | exact absurd c (by decide) | exact absurd (by decide) c)) (fun _ => ?_)
              refine V2_iload_n (i := 2) d_Rows_keep_11 rfl rfl ?_
              refine V2_aload_n (i := 0) d_Rows_keep_12 rfl rfl ?_
              refine V2_getr (a := 41) d_Rows_keep_13 fl_Rows_30 (by decide) rfl (by decide) rfl ?_
              refine V2_alen (t := 0) (v := 4) d_Rows_keep_16 (by decide) rfl (by decide) rfl ?_
              refine V2_icmp_ge (tgt := 47) d_Rows_keep_17 rfl (fun c => (by first | exact absurd c (by decide) | exact absurd (by decide) c)) (fun _ => ?_)
              refine V2_aload_n (i := 0) d_Rows_keep_20 rfl rfl ?_
              refine V2_getr (a := 41) d_Rows_keep_21 fl_Rows_30 (by decide) rfl (by decide) rfl ?_
              refine V2_iload_n (i := 2) d_Rows_keep_24 rfl rfl ?_
              refine V2_iload_n (i := 2) d_Rows_keep_25 rfl rfl ?_
              refine V2_iload_n (i := 1) d_Rows_keep_26 rfl rfl ?_
              refine V2_icmp_gt (tgt := 39) d_Rows_keep_27 rfl (fun c => (by first | exact absurd c (by decide) | exact absurd (by decide) c)) (fun _ => ?_)
              refine V2_aload_n (i := 0) d_Rows_keep_30 rfl rfl ?_
              refine V2_getr (a := 40) d_Rows_keep_31 fl_Rows_26 (by decide) rfl (by decide) rfl ?_
              refine V2_iload_n (i := 2) d_Rows_keep_34 rfl rfl ?_
              refine V2_iaload (v := G 40 0) d_Rows_keep_35 (by decide) rfl (xixA (n := 0) rfl (by decide) (by decide)) rfl ?_
              refine V2_topi (fun v54 ev54 => ?_)
              refine V2_goto (tgt := 40) d_Rows_keep_36 rfl ?_
              refine V2_iastore (j := 0) d_Rows_keep_40 (by decide) rfl (xixA (n := 0) rfl (by decide) (by decide)) rfl ?_
              refine V2_iinc (i := 2) (v := 1) (l' := [some (.ref 36), some (.int (3 : Int32)), some (.int (1 : Int32))]) d_Rows_keep_41 rfl (by decide) (xst_i (Nat.le_of_ble_eq_true rfl) rfl rfl) ?_
              refine V2_goto (tgt := 2) d_Rows_keep_44 rfl ?_
              refine V2_iload_n (i := 2) d_Rows_keep_2 rfl rfl ?_
              refine V2_aload_n (i := 0) d_Rows_keep_3 rfl rfl ?_
              refine V2_getr (a := 40) d_Rows_keep_4 fl_Rows_26 (by decide) rfl (by decide) rfl ?_
              refine V2_alen (t := 0) (v := 4) d_Rows_keep_7 (by decide) rfl (by decide) rfl ?_
              refine V2_icmp_ge (tgt := 47) d_Rows_keep_8 rfl (fun c => (by first | exact absurd c (by decide) | exact absurd (by decide) c)) (fun _ => ?_)
              refine V2_iload_n (i := 2) d_Rows_keep_11 rfl rfl ?_
              refine V2_aload_n (i := 0) d_Rows_keep_12 rfl rfl ?_
              refine V2_getr (a := 41) d_Rows_keep_13 fl_Rows_30 (by decide) rfl (by decide) rfl ?_
              refine V2_alen (t := 0) (v := 4) d_Rows_keep_16 (by decide) rfl (by decide) rfl ?_
              refine V2_icmp_ge (tgt := 47) d_Rows_keep_17 rfl (fun c => (by first | exact absurd c (by decide) | exact absurd (by decide) c)) (fun _ => ?_)
              refine V2_aload_n (i := 0) d_Rows_keep_20 rfl rfl ?_
              refine V2_getr (a := 41) d_Rows_keep_21 fl_Rows_30 (by decide) rfl (by decide) rfl ?_
              refine V2_iload_n (i := 2) d_Rows_keep_24 rfl rfl ?_
              refine V2_iload_n (i := 2) d_Rows_keep_25 rfl rfl ?_
              refine V2_iload_n (i := 1) d_Rows_keep_26 rfl rfl ?_
              refine V2_icmp_gt (tgt := 39) d_Rows_keep_27 rfl (fun c => (by first | exact absurd c (by decide) | exact absurd (by decide) c)) (fun _ => ?_)
              refine V2_aload_n (i := 0) d_Rows_keep_30 rfl rfl ?_
              refine V2_getr (a := 40) d_Rows_keep_31 fl_Rows_26 (by decide) rfl (by decide) rfl ?_
              refine V2_iload_n (i := 2) d_Rows_keep_34 rfl rfl ?_
              refine V2_iaload (v := G 40 1) d_Rows_keep_35 (by decide) rfl (xixA (n := 1) rfl (by decide) (by decide)) rfl ?_
              refine V2_topi (fun v56 ev56 => ?_)
              refine V2_goto (tgt := 40) d_Rows_keep_36 rfl ?_
              refine V2_iastore (j := 1) d_Rows_keep_40 (by decide) rfl (xixA (n := 1) rfl (by decide) (by decide)) rfl ?_
              refine V2_iinc (i := 2) (v := 2) (l' := [some (.ref 36), some (.int (3 : Int32)), some (.int (2 : Int32))]) d_Rows_keep_41 rfl (by decide) (xst_i (Nat.le_of_ble_eq_true rfl) rfl rfl) ?_
              refine V2_goto (tgt := 2) d_Rows_keep_44 rfl ?_
              refine V2_iload_n (i := 2) d_Rows_keep_2 rfl rfl ?_
              refine V2_aload_n (i := 0) d_Rows_keep_3 rfl rfl ?_
              refine V2_getr (a := 40) d_Rows_keep_4 fl_Rows_26 (by decide) rfl (by decide) rfl ?_
              refine V2_alen (t := 0) (v := 4) d_Rows_keep_7 (by decide) rfl (by decide) rfl ?_
              refine V2_icmp_ge (tgt := 47) d_Rows_keep_8 rfl (fun c => (by first | exact absurd c (by decide) | exact absurd (by decide) c)) (fun _ => ?_)
              refine V2_iload_n (i := 2) d_Rows_keep_11 rfl rfl ?_
              refine V2_aload_n (i := 0) d_Rows_keep_12 rfl rfl ?_
              refine V2_getr (a := 41) d_Rows_keep_13 fl_Rows_30 (by decide) rfl (by decide) rfl ?_
              refine V2_alen (t := 0) (v := 4) d_Rows_keep_16 (by decide) rfl (by decide) rfl ?_
              refine V2_icmp_ge (tgt := 47) d_Rows_keep_17 rfl (fun c => (by first | exact absurd c (by decide) | exact absurd (by decide) c)) (fun _ => ?_)
              refine V2_aload_n (i := 0) d_Rows_keep_20 rfl rfl ?_
              refine V2_getr (a := 41) d_Rows_keep_21 fl_Rows_30 (by decide) rfl (by decide) rfl ?_
              refine V2_iload_n (i := 2) d_Rows_keep_24 rfl rfl ?_
              refine V2_iload_n (i := 2) d_Rows_keep_25 rfl rfl ?_
              refine V2_iload_n (i := 1) d_Rows_keep_26 rfl rfl ?_
              refine V2_icmp_gt (tgt := 39) d_Rows_keep_27 rfl (fun c => (by first | exact absurd c (by decide) | exact absurd (by decide) c)) (fun _ => ?_)
              refine V2_aload_n (i := 0) d_Rows_keep_30 rfl rfl ?_
              refine V2_getr (a := 40) d_Rows_keep_31 fl_Rows_26 (by decide) rfl (by decide) rfl ?_
              refine V2_iload_n (i := 2) d_Rows_keep_34 rfl rfl ?_
              refine V2_iaload (v := G 40 2) d_Rows_keep_35 (by decide) rfl (xixA (n := 2) rfl (by decide) (by decide)) rfl ?_
              refine V2_topi (fun v58 ev58 => ?_)
              refine V2_goto (tgt := 40) d_Rows_keep_36 rfl ?_
              refine V2_iastore (j := 2) d_Rows_keep_40 (by decide) rfl (xixA (n := 2) rfl (by decide) (by decide)) rfl ?_
              refine V2_iinc (i := 2) (v := 3) (l' := [some (.ref 36), some (.int (3 : Int32)), some (.int (3 : Int32))]) d_Rows_keep_41 rfl (by decide) (xst_i (Nat.le_of_ble_eq_true rfl) rfl rfl) ?_
              refine V2_goto (tgt := 2) d_Rows_keep_44 rfl ?_
              refine V2_iload_n (i := 2) d_Rows_keep_2 rfl rfl ?_
              refine V2_aload_n (i := 0) d_Rows_keep_3 rfl rfl ?_
              refine V2_getr (a := 40) d_Rows_keep_4 fl_Rows_26 (by decide) rfl (by decide) rfl ?_
              refine V2_alen (t := 0) (v := 4) d_Rows_keep_7 (by decide) rfl (by decide) rfl ?_
              refine V2_icmp_ge (tgt := 47) d_Rows_keep_8 rfl (fun c => (by first | exact absurd c (by decide) | exact absurd (by decide) c)) (fun _ => ?_)
              refine V2_iload_n (i := 2) d_Rows_keep_11 rfl rfl ?_
              refine V2_aload_n (i := 0) d_Rows_keep_12 rfl rfl ?_
              refine V2_getr (a := 41) d_Rows_keep_13 fl_Rows_30 (by decide) rfl (by decide) rfl ?_
              refine V2_alen (t := 0) (v := 4) d_Rows_keep_16 (by decide) rfl (by decide) rfl ?_
              refine V2_icmp_ge (tgt := 47) d_Rows_keep_17 rfl (fun c => (by first | exact absurd c (by decide) | exact absurd (by decide) c)) (fun _ => ?_)
              refine V2_aload_n (i := 0) d_Rows_keep_20 rfl rfl ?_
              refine V2_getr (a := 41) d_Rows_keep_21 fl_Rows_30 (by decide) rfl (by decide) rfl ?_
              refine V2_iload_n (i := 2) d_Rows_keep_24 rfl rfl ?_
              refine V2_iload_n (i := 2) d_Rows_keep_25 rfl rfl ?_
              refine V2_iload_n (i := 1) d_Rows_keep_26 rfl rfl ?_
              refine V2_icmp_gt (tgt := 39) d_Rows_keep_27 rfl (fun c => (by first | exact absurd c (by decide) | exact absurd (by decide) c)) (fun _ => ?_)
              refine V2_aload_n (i := 0) d_Rows_keep_30 rfl rfl ?_
              refine V2_getr (a := 40) d_Rows_keep_31 fl_Rows_26 (by decide) rfl (by decide) rfl ?_
              refine V2_iload_n (i := 2) d_Rows_keep_34 rfl rfl ?_
              refine V2_iaload (v := G 40 3) d_Rows_keep_35 (by decide) rfl (xixA (n := 3) rfl (by decide) (by decide)) rfl ?_
              refine V2_topi (fun v60 ev60 => ?_)
              refine V2_goto (tgt := 40) d_Rows_keep_36 rfl ?_
              refine V2_iastore (j := 3) d_Rows_keep_40 (by decide) rfl (xixA (n := 3) rfl (by decide) (by decide)) rfl ?_
              refine V2_iinc (i := 2) (v := 4) (l' := [some (.ref 36), some (.int (3 : Int32)), some (.int (4 : Int32))]) d_Rows_keep_41 rfl (by decide) (xst_i (Nat.le_of_ble_eq_true rfl) rfl rfl) ?_
              refine V2_goto (tgt := 2) d_Rows_keep_44 rfl ?_
              refine V2_iload_n (i := 2) d_Rows_keep_2 rfl rfl ?_
              refine V2_aload_n (i := 0) d_Rows_keep_3 rfl rfl ?_
              refine V2_getr (a := 40) d_Rows_keep_4 fl_Rows_26 (by decide) rfl (by decide) rfl ?_
              refine V2_alen (t := 0) (v := 4) d_Rows_keep_7 (by decide) rfl (by decide) rfl ?_
              refine V2_icmp_ge (tgt := 47) d_Rows_keep_8 rfl (fun _ => ?_) (fun c => (by first | exact absurd c (by decide) | exact absurd (by decide) c))
              refine V2_return d_Rows_keep_47 rfl ?_
              refine V2.to (st' := []) ?_ rfl rfl rfl rfl
              refine V2_iload_n (i := 3) d_Rows_canBeBetter_110 rfl rfl ?_
              refine V2_iconst (v := 1) d_Rows_canBeBetter_111 rfl ?_
              refine V2_iadd d_Rows_canBeBetter_112 ?_
              refine V2_lit (v := 5) (by decide) ?_
              refine V2_aload_n (i := 0) d_Rows_canBeBetter_113 rfl rfl ?_
              refine V2_get (v := G 36 6) d_Rows_canBeBetter_114 fl_Rows_40 (by decide) rfl (by decide) rfl rfl ?_
              refine V2_topi (fun v62 ev62 => ?_)
              refine V2_icmp_ge (tgt := 124) d_Rows_canBeBetter_117 rfl (fun c63 => ?_) (fun c63 => ?_)
              · refine V2_iconst (v := 0) d_Rows_canBeBetter_124 rfl ?_
                refine V2_zreturn d_Rows_canBeBetter_125 rfl (by decide) ?_
                refine V2.to (st' := [.int (0 : Int32)]) ?_ rfl rfl rfl rfl
                refine V2_zreturn d_Rows_goesOn_52 rfl (by decide) ?_
                have hB1 : B ≤ n := hR.1
                have hf : (B = 0 ∧ (G 36 6).toInt = (n : Int) + 1) ∨ (0 < B ∧ (G 36 6).toInt = (B : Int)) := by
                  rcases hR.2.1 with ⟨h1, h2⟩ | ⟨h1, h2⟩
                  · exact Or.inl ⟨h1, by rw [h2, nI_toInt (by omega)]; omega⟩
                  · exact Or.inr ⟨h1, by rw [h2, nI_toInt (by have := hR.1; omega)]⟩
                have hov : (bst.toInt = -1 ∧ B = 0 ∧ (G 36 7).toInt = -1000) ∨ (¬ bst.toInt = -1 ∧ (G 36 7).toInt = hi.toInt) := by
                  rcases hR.2.2 with ⟨h1, h2, h3⟩ | ⟨h1, h3, _⟩
                  · exact Or.inl ⟨h1, h2, by rw [h3]; decide⟩
                  · exact Or.inr ⟨h1, by rw [h3]⟩
                have sA : (T 2 - T 0).toInt = (T 2).toInt - (T 0).toInt := toI_sub (by omega) (by omega) (by omega) (by omega)
                have e2 : G 46 2 = T 2 := hx.2.2.2.2.2.1.2.2.1
                have e0 : G 46 0 = T 0 := hx.2.2.2.2.2.1.1
                have el : G 36 5 = nI n := hx.2.2.1
                have sA2 : (G 46 2 - G 46 0).toInt = (T 2).toInt - (T 0).toInt := by rw [e2, e0]; exact sA
                have nl : (G 36 5).toInt = (n : Int) := by rw [el]; exact nI_toInt (by omega)
                have h5 : T 5 = 1 := by
                  have h9 := c7
                  subst ev62 ev60 ev58 ev56 ev54 ev50 ev46 ev45 ev41 ev37 ev35 ev6 ev5 ev4 ev3 ev1
                  rw [hx.2.2.2.2.2.1.2.2.2.2.2.2.2] at h9
                  exact hx.2.2.2.2.2.2.2.1.2.2.2.2.2.1.resolve_left h9
                exfalso
                exact (by (try clear hQ); (try subst ev62 ev60 ev58 ev56 ev54 ev50 ev46 ev45 ev41 ev37 ev35 ev6 ev5 ev4 ev3 ev1); ((try simp only [xb_eq, xb_ne, Int32.lt_iff_toInt_lt, Int32.le_iff_toInt_le] at *) <;> (try simp only [← Int32.toInt_inj, true_and, false_and, or_false, false_or, or_true, true_or, and_true, and_false] at *) <;> omega))
              · refine V2_iconst (v := 1) d_Rows_canBeBetter_120 rfl ?_
                refine V2_goto (tgt := 125) d_Rows_canBeBetter_121 rfl ?_
                refine V2_zreturn d_Rows_canBeBetter_125 rfl (by decide) ?_
                refine V2.to (st' := [.int (1 : Int32)]) ?_ rfl rfl rfl rfl
                refine V2_zreturn d_Rows_goesOn_52 rfl (by decide) ?_
                have hB1 : B ≤ n := hR.1
                have hf : (B = 0 ∧ (G 36 6).toInt = (n : Int) + 1) ∨ (0 < B ∧ (G 36 6).toInt = (B : Int)) := by
                  rcases hR.2.1 with ⟨h1, h2⟩ | ⟨h1, h2⟩
                  · exact Or.inl ⟨h1, by rw [h2, nI_toInt (by omega)]; omega⟩
                  · exact Or.inr ⟨h1, by rw [h2, nI_toInt (by have := hR.1; omega)]⟩
                have hov : (bst.toInt = -1 ∧ B = 0 ∧ (G 36 7).toInt = -1000) ∨ (¬ bst.toInt = -1 ∧ (G 36 7).toInt = hi.toInt) := by
                  rcases hR.2.2 with ⟨h1, h2, h3⟩ | ⟨h1, h3, _⟩
                  · exact Or.inl ⟨h1, h2, by rw [h3]; decide⟩
                  · exact Or.inr ⟨h1, by rw [h3]⟩
                have sA : (T 2 - T 0).toInt = (T 2).toInt - (T 0).toInt := toI_sub (by omega) (by omega) (by omega) (by omega)
                have e2 : G 46 2 = T 2 := hx.2.2.2.2.2.1.2.2.1
                have e0 : G 46 0 = T 0 := hx.2.2.2.2.2.1.1
                have el : G 36 5 = nI n := hx.2.2.1
                have sA2 : (G 46 2 - G 46 0).toInt = (T 2).toInt - (T 0).toInt := by rw [e2, e0]; exact sA
                have nl : (G 36 5).toInt = (n : Int) := by rw [el]; exact nI_toInt (by omega)
                have h5 : T 5 = 1 := by
                  have h9 := c7
                  subst ev62 ev60 ev58 ev56 ev54 ev50 ev46 ev45 ev41 ev37 ev35 ev6 ev5 ev4 ev3 ev1
                  rw [hx.2.2.2.2.2.1.2.2.2.2.2.2.2] at h9
                  exact hx.2.2.2.2.2.2.2.1.2.2.2.2.2.1.resolve_left h9
                exfalso
                exact (by (try clear hQ); (try subst ev62 ev60 ev58 ev56 ev54 ev50 ev46 ev45 ev41 ev37 ev35 ev6 ev5 ev4 ev3 ev1); ((try simp only [xb_eq, xb_ne, Int32.lt_iff_toInt_lt, Int32.le_iff_toInt_le] at *) <;> (try simp only [← Int32.toInt_inj, true_and, false_and, or_false, false_or, or_true, true_or, and_true, and_false] at *) <;> omega))
    · refine V2_iconst (v := 1) d_Rows_canBeBetter_30 rfl ?_
      refine V2_goto (tgt := 35) d_Rows_canBeBetter_31 rfl ?_
      refine V2_istore (i := 5) (l' := [some (.ref 36), some (.int (3 : Int32)), some (.ref 46), some (.int (4 : Int32)), some (.int v5), some (.int (1 : Int32)), none]) d_Rows_canBeBetter_35 (xst_i (Nat.le_of_ble_eq_true rfl) rfl rfl) ?_
      refine V2_aload_n (i := 2) d_Rows_canBeBetter_37 rfl rfl ?_
      refine V2_get (v := G 46 7) d_Rows_canBeBetter_38 fl_Rows_80 (by decide) rfl (by decide) rfl rfl ?_
      refine V2_topi (fun v64 ev64 => ?_)
      refine V2_if_ne (tgt := 76) d_Rows_canBeBetter_41 rfl (fun c65 => ?_) (fun c65 => ?_)
      · refine V2_iconst (v := 0) d_Rows_canBeBetter_76 rfl ?_
        refine V2_istore (i := 6) (l' := [some (.ref 36), some (.int (3 : Int32)), some (.ref 46), some (.int (4 : Int32)), some (.int v5), some (.int (1 : Int32)), some (.int (0 : Int32))]) d_Rows_canBeBetter_77 (xst_i (Nat.le_of_ble_eq_true rfl) rfl rfl) ?_
        refine V2_iload (i := 5) d_Rows_canBeBetter_79 rfl ?_
        refine V2_if_eq (tgt := 89) d_Rows_canBeBetter_81 rfl (fun c => (by first | exact absurd c (by decide) | exact absurd (by decide) c)) (fun _ => ?_)
        refine V2_aload_n (i := 0) d_Rows_canBeBetter_84 rfl rfl ?_
        refine V2_iload_n (i := 3) d_Rows_canBeBetter_85 rfl rfl ?_
        refine V2_put d_Rows_canBeBetter_86 fl_Rows_40 (by decide) rfl (by decide) rfl ?_
        refine V2_iload (i := 5) d_Rows_canBeBetter_89 rfl ?_
        refine V2_if_ne (tgt := 99) d_Rows_canBeBetter_91 rfl (fun _ => ?_) (fun c => (by first | exact absurd c (by decide) | exact absurd (by decide) c))
        refine V2_aload_n (i := 0) d_Rows_canBeBetter_99 rfl rfl ?_
        refine V2_iload (i := 4) d_Rows_canBeBetter_100 rfl ?_
        refine V2_put d_Rows_canBeBetter_102 fl_Rows_43 (by decide) rfl (by decide) rfl ?_
        refine V2_aload_n (i := 0) d_Rows_canBeBetter_105 rfl rfl ?_
        refine V2_iload_n (i := 1) d_Rows_canBeBetter_106 rfl rfl ?_
        refine V2_callV [.int (3 : Int32)] d_Rows_canBeBetter_107 rfl rfl lk_Rows_132 mo_Rows_keep (by decide) rfl rfl rfl (Nat.le_of_ble_eq_true rfl) (Nat.le_of_ble_eq_true rfl) ?_
        refine V2.to (l' := [some (.ref 36), some (.int (3 : Int32)), none]) ?_ rfl rfl rfl rfl
        refine V2_iconst (v := 0) d_Rows_keep_0 rfl ?_
        refine V2_istore_n (i := 2) (l' := [some (.ref 36), some (.int (3 : Int32)), some (.int (0 : Int32))]) d_Rows_keep_1 rfl (xst_i (Nat.le_of_ble_eq_true rfl) rfl rfl) ?_
        refine V2_iload_n (i := 2) d_Rows_keep_2 rfl rfl ?_
        refine V2_aload_n (i := 0) d_Rows_keep_3 rfl rfl ?_
        refine V2_getr (a := 40) d_Rows_keep_4 fl_Rows_26 (by decide) rfl (by decide) rfl ?_
        refine V2_alen (t := 0) (v := 4) d_Rows_keep_7 (by decide) rfl (by decide) rfl ?_
        refine V2_icmp_ge (tgt := 47) d_Rows_keep_8 rfl (fun c => (by first | exact absurd c (by decide) | exact absurd (by decide) c)) (fun _ => ?_)
        refine V2_iload_n (i := 2) d_Rows_keep_11 rfl rfl ?_
        refine V2_aload_n (i := 0) d_Rows_keep_12 rfl rfl ?_
        refine V2_getr (a := 41) d_Rows_keep_13 fl_Rows_30 (by decide) rfl (by decide) rfl ?_
        refine V2_alen (t := 0) (v := 4) d_Rows_keep_16 (by decide) rfl (by decide) rfl ?_
        refine V2_icmp_ge (tgt := 47) d_Rows_keep_17 rfl (fun c => (by first | exact absurd c (by decide) | exact absurd (by decide) c)) (fun _ => ?_)
        refine V2_aload_n (i := 0) d_Rows_keep_20 rfl rfl ?_
        refine V2_getr (a := 41) d_Rows_keep_21 fl_Rows_30 (by decide) rfl (by decide) rfl ?_
        refine V2_iload_n (i := 2) d_Rows_keep_24 rfl rfl ?_
        refine V2_iload_n (i := 2) d_Rows_keep_25 rfl rfl ?_
        refine V2_iload_n (i := 1) d_Rows_keep_26 rfl rfl ?_
        refine V2_icmp_gt (tgt := 39) d_Rows_keep_27 rfl (fun c => (by first | exact absurd c (by decide) | exact absurd (by decide) c)) (fun _ => ?_)
        refine V2_aload_n (i := 0) d_Rows_keep_30 rfl rfl ?_
        refine V2_getr (a := 40) d_Rows_keep_31 fl_Rows_26 (by decide) rfl (by decide) rfl ?_
        refine V2_iload_n (i := 2) d_Rows_keep_34 rfl rfl ?_
        refine V2_iaload (v := G 40 0) d_Rows_keep_35 (by decide) rfl (xixA (n := 0) rfl (by decide) (by decide)) rfl ?_
        refine V2_topi (fun v66 ev66 => ?_)
        refine V2_goto (tgt := 40) d_Rows_keep_36 rfl ?_
        refine V2_iastore (j := 0) d_Rows_keep_40 (by decide) rfl (xixA (n := 0) rfl (by decide) (by decide)) rfl ?_
        refine V2_iinc (i := 2) (v := 1) (l' := [some (.ref 36), some (.int (3 : Int32)), some (.int (1 : Int32))]) d_Rows_keep_41 rfl (by decide) (xst_i (Nat.le_of_ble_eq_true rfl) rfl rfl) ?_
        refine V2_goto (tgt := 2) d_Rows_keep_44 rfl ?_
        refine V2_iload_n (i := 2) d_Rows_keep_2 rfl rfl ?_
        refine V2_aload_n (i := 0) d_Rows_keep_3 rfl rfl ?_
        refine V2_getr (a := 40) d_Rows_keep_4 fl_Rows_26 (by decide) rfl (by decide) rfl ?_
        refine V2_alen (t := 0) (v := 4) d_Rows_keep_7 (by decide) rfl (by decide) rfl ?_
        refine V2_icmp_ge (tgt := 47) d_Rows_keep_8 rfl (fun c => (by first | exact absurd c (by decide) | exact absurd (by decide) c)) (fun _ => ?_)
        refine V2_iload_n (i := 2) d_Rows_keep_11 rfl rfl ?_
        refine V2_aload_n (i := 0) d_Rows_keep_12 rfl rfl ?_
        refine V2_getr (a := 41) d_Rows_keep_13 fl_Rows_30 (by decide) rfl (by decide) rfl ?_
        refine V2_alen (t := 0) (v := 4) d_Rows_keep_16 (by decide) rfl (by decide) rfl ?_
        refine V2_icmp_ge (tgt := 47) d_Rows_keep_17 rfl (fun c => (by first | exact absurd c (by decide) | exact absurd (by decide) c)) (fun _ => ?_)
        refine V2_aload_n (i := 0) d_Rows_keep_20 rfl rfl ?_
        refine V2_getr (a := 41) d_Rows_keep_21 fl_Rows_30 (by decide) rfl (by decide) rfl ?_
        refine V2_iload_n (i := 2) d_Rows_keep_24 rfl rfl ?_
        refine V2_iload_n (i := 2) d_Rows_keep_25 rfl rfl ?_
        refine V2_iload_n (i := 1) d_Rows_keep_26 rfl rfl ?_
        refine V2_icmp_gt (tgt := 39) d_Rows_keep_27 rfl (fun c => (by first | exact absurd c (by decide) | exact absurd (by decide) c)) (fun _ => ?_)
        refine V2_aload_n (i := 0) d_Rows_keep_30 rfl rfl ?_
        refine V2_getr (a := 40) d_Rows_keep_31 fl_Rows_26 (by decide) rfl (by decide) rfl ?_
        refine V2_iload_n (i := 2) d_Rows_keep_34 rfl rfl ?_
        refine V2_iaload (v := G 40 1) d_Rows_keep_35 (by decide) rfl (xixA (n := 1) rfl (by decide) (by decide)) rfl ?_
        refine V2_topi (fun v68 ev68 => ?_)
        refine V2_goto (tgt := 40) d_Rows_keep_36 rfl ?_
        refine V2_iastore (j := 1) d_Rows_keep_40 (by decide) rfl (xixA (n := 1) rfl (by decide) (by decide)) rfl ?_
        refine V2_iinc (i := 2) (v := 2) (l' := [some (.ref 36), some (.int (3 : Int32)), some (.int (2 : Int32))]) d_Rows_keep_41 rfl (by decide) (xst_i (Nat.le_of_ble_eq_true rfl) rfl rfl) ?_
        refine V2_goto (tgt := 2) d_Rows_keep_44 rfl ?_
        refine V2_iload_n (i := 2) d_Rows_keep_2 rfl rfl ?_
        refine V2_aload_n (i := 0) d_Rows_keep_3 rfl rfl ?_
        refine V2_getr (a := 40) d_Rows_keep_4 fl_Rows_26 (by decide) rfl (by decide) rfl ?_
        refine V2_alen (t := 0) (v := 4) d_Rows_keep_7 (by decide) rfl (by decide) rfl ?_
        refine V2_icmp_ge (tgt := 47) d_Rows_keep_8 rfl (fun c => (by first | exact absurd c (by decide) | exact absurd (by decide) c)) (fun _ => ?_)
        refine V2_iload_n (i := 2) d_Rows_keep_11 rfl rfl ?_
        refine V2_aload_n (i := 0) d_Rows_keep_12 rfl rfl ?_
        refine V2_getr (a := 41) d_Rows_keep_13 fl_Rows_30 (by decide) rfl (by decide) rfl ?_
        refine V2_alen (t := 0) (v := 4) d_Rows_keep_16 (by decide) rfl (by decide) rfl ?_
        refine V2_icmp_ge (tgt := 47) d_Rows_keep_17 rfl (fun c => (by first | exact absurd c (by decide) | exact absurd (by decide) c)) (fun _ => ?_)
        refine V2_aload_n (i := 0) d_Rows_keep_20 rfl rfl ?_
        refine V2_getr (a := 41) d_Rows_keep_21 fl_Rows_30 (by decide) rfl (by decide) rfl ?_
        refine V2_iload_n (i := 2) d_Rows_keep_24 rfl rfl ?_
        refine V2_iload_n (i := 2) d_Rows_keep_25 rfl rfl ?_
        refine V2_iload_n (i := 1) d_Rows_keep_26 rfl rfl ?_
        refine V2_icmp_gt (tgt := 39) d_Rows_keep_27 rfl (fun c => (by first | exact absurd c (by decide) | exact absurd (by decide) c)) (fun _ => ?_)
        refine V2_aload_n (i := 0) d_Rows_keep_30 rfl rfl ?_
        refine V2_getr (a := 40) d_Rows_keep_31 fl_Rows_26 (by decide) rfl (by decide) rfl ?_
        refine V2_iload_n (i := 2) d_Rows_keep_34 rfl rfl ?_
        refine V2_iaload (v := G 40 2) d_Rows_keep_35 (by decide) rfl (xixA (n := 2) rfl (by decide) (by decide)) rfl ?_
        refine V2_topi (fun v70 ev70 => ?_)
        refine V2_goto (tgt := 40) d_Rows_keep_36 rfl ?_
        refine V2_iastore (j := 2) d_Rows_keep_40 (by decide) rfl (xixA (n := 2) rfl (by decide) (by decide)) rfl ?_
        refine V2_iinc (i := 2) (v := 3) (l' := [some (.ref 36), some (.int (3 : Int32)), some (.int (3 : Int32))]) d_Rows_keep_41 rfl (by decide) (xst_i (Nat.le_of_ble_eq_true rfl) rfl rfl) ?_
        refine V2_goto (tgt := 2) d_Rows_keep_44 rfl ?_
        refine V2_iload_n (i := 2) d_Rows_keep_2 rfl rfl ?_
        refine V2_aload_n (i := 0) d_Rows_keep_3 rfl rfl ?_
        refine V2_getr (a := 40) d_Rows_keep_4 fl_Rows_26 (by decide) rfl (by decide) rfl ?_
        refine V2_alen (t := 0) (v := 4) d_Rows_keep_7 (by decide) rfl (by decide) rfl ?_
        refine V2_icmp_ge (tgt := 47) d_Rows_keep_8 rfl (fun c => (by first | exact absurd c (by decide) | exact absurd (by decide) c)) (fun _ => ?_)
        refine V2_iload_n (i := 2) d_Rows_keep_11 rfl rfl ?_
        refine V2_aload_n (i := 0) d_Rows_keep_12 rfl rfl ?_
        refine V2_getr (a := 41) d_Rows_keep_13 fl_Rows_30 (by decide) rfl (by decide) rfl ?_
        refine V2_alen (t := 0) (v := 4) d_Rows_keep_16 (by decide) rfl (by decide) rfl ?_
        refine V2_icmp_ge (tgt := 47) d_Rows_keep_17 rfl (fun c => (by first | exact absurd c (by decide) | exact absurd (by decide) c)) (fun _ => ?_)
        refine V2_aload_n (i := 0) d_Rows_keep_20 rfl rfl ?_
        refine V2_getr (a := 41) d_Rows_keep_21 fl_Rows_30 (by decide) rfl (by decide) rfl ?_
        refine V2_iload_n (i := 2) d_Rows_keep_24 rfl rfl ?_
        refine V2_iload_n (i := 2) d_Rows_keep_25 rfl rfl ?_
        refine V2_iload_n (i := 1) d_Rows_keep_26 rfl rfl ?_
        refine V2_icmp_gt (tgt := 39) d_Rows_keep_27 rfl (fun c => (by first | exact absurd c (by decide) | exact absurd (by decide) c)) (fun _ => ?_)
        refine V2_aload_n (i := 0) d_Rows_keep_30 rfl rfl ?_
        refine V2_getr (a := 40) d_Rows_keep_31 fl_Rows_26 (by decide) rfl (by decide) rfl ?_
        refine V2_iload_n (i := 2) d_Rows_keep_34 rfl rfl ?_
        refine V2_iaload (v := G 40 3) d_Rows_keep_35 (by decide) rfl (xixA (n := 3) rfl (by decide) (by decide)) rfl ?_
        refine V2_topi (fun v72 ev72 => ?_)
        refine V2_goto (tgt := 40) d_Rows_keep_36 rfl ?_
        refine V2_iastore (j := 3) d_Rows_keep_40 (by decide) rfl (xixA (n := 3) rfl (by decide) (by decide)) rfl ?_
        refine V2_iinc (i := 2) (v := 4) (l' := [some (.ref 36), some (.int (3 : Int32)), some (.int (4 : Int32))]) d_Rows_keep_41 rfl (by decide) (xst_i (Nat.le_of_ble_eq_true rfl) rfl rfl) ?_
        refine V2_goto (tgt := 2) d_Rows_keep_44 rfl ?_
        refine V2_iload_n (i := 2) d_Rows_keep_2 rfl rfl ?_
        refine V2_aload_n (i := 0) d_Rows_keep_3 rfl rfl ?_
        refine V2_getr (a := 40) d_Rows_keep_4 fl_Rows_26 (by decide) rfl (by decide) rfl ?_
        refine V2_alen (t := 0) (v := 4) d_Rows_keep_7 (by decide) rfl (by decide) rfl ?_
        refine V2_icmp_ge (tgt := 47) d_Rows_keep_8 rfl (fun _ => ?_) (fun c => (by first | exact absurd c (by decide) | exact absurd (by decide) c))
        refine V2_return d_Rows_keep_47 rfl ?_
        refine V2.to (st' := []) ?_ rfl rfl rfl rfl
        refine V2_iload_n (i := 3) d_Rows_canBeBetter_110 rfl rfl ?_
        refine V2_iconst (v := 1) d_Rows_canBeBetter_111 rfl ?_
        refine V2_iadd d_Rows_canBeBetter_112 ?_
        refine V2_lit (v := 5) (by decide) ?_
        refine V2_aload_n (i := 0) d_Rows_canBeBetter_113 rfl rfl ?_
        refine V2_get (v := (4 : Int32)) d_Rows_canBeBetter_114 fl_Rows_40 (by decide) rfl (by decide) rfl rfl ?_
        refine V2_icmp_ge (tgt := 124) d_Rows_canBeBetter_117 rfl (fun _ => ?_) (fun c => (by first | exact absurd c (by decide) | exact absurd (by decide) c))
        refine V2_iconst (v := 0) d_Rows_canBeBetter_124 rfl ?_
        refine V2_zreturn d_Rows_canBeBetter_125 rfl (by decide) ?_
        refine V2.to (st' := [.int (0 : Int32)]) ?_ rfl rfl rfl rfl
        refine V2_zreturn d_Rows_goesOn_52 rfl (by decide) ?_
        have hB1 : B ≤ n := hR.1
        have hf : (B = 0 ∧ (G 36 6).toInt = (n : Int) + 1) ∨ (0 < B ∧ (G 36 6).toInt = (B : Int)) := by
          rcases hR.2.1 with ⟨h1, h2⟩ | ⟨h1, h2⟩
          · exact Or.inl ⟨h1, by rw [h2, nI_toInt (by omega)]; omega⟩
          · exact Or.inr ⟨h1, by rw [h2, nI_toInt (by have := hR.1; omega)]⟩
        have hov : (bst.toInt = -1 ∧ B = 0 ∧ (G 36 7).toInt = -1000) ∨ (¬ bst.toInt = -1 ∧ (G 36 7).toInt = hi.toInt) := by
          rcases hR.2.2 with ⟨h1, h2, h3⟩ | ⟨h1, h3, _⟩
          · exact Or.inl ⟨h1, h2, by rw [h3]; decide⟩
          · exact Or.inr ⟨h1, by rw [h3]⟩
        have sA : (T 2 - T 0).toInt = (T 2).toInt - (T 0).toInt := toI_sub (by omega) (by omega) (by omega) (by omega)
        have e2 : G 46 2 = T 2 := hx.2.2.2.2.2.1.2.2.1
        have e0 : G 46 0 = T 0 := hx.2.2.2.2.2.1.1
        have el : G 36 5 = nI n := hx.2.2.1
        have sA2 : (G 46 2 - G 46 0).toInt = (T 2).toInt - (T 0).toInt := by rw [e2, e0]; exact sA
        have nl : (G 36 5).toInt = (n : Int) := by rw [el]; exact nI_toInt (by omega)
        have h5 : T 5 = 1 := by
          have h9 := c7
          subst ev72 ev70 ev68 ev66 ev64 ev35 ev6 ev5 ev4 ev3 ev1
          rw [hx.2.2.2.2.2.1.2.2.2.2.2.2.2] at h9
          exact hx.2.2.2.2.2.2.2.1.2.2.2.2.2.1.resolve_left h9
        have hrow : ∀ i, pre * 10 ^ (n - (3 + 1)) ≤ i → i < pre * 10 ^ (n - (3 + 1)) + 10 ^ (n - (3 + 1)) → trN (PN S) n i S = ((trN (PN S) (n - (3 + 1)) (i - pre * 10 ^ (n - (3 + 1))) T).1.map (fun j => j + (3 + 1)), (trN (PN S) (n - (3 + 1)) (i - pre * 10 ^ (n - (3 + 1))) T).2) := by
          intro i h1 h2
          have hs := hx.2.2.2.2.2.2.2.2 (i - pre * 10 ^ (n - (3 + 1))) (by omega)
          rw [show pre * 10 ^ (n - (3 + 1)) + (i - pre * 10 ^ (n - (3 + 1))) = i by omega] at hs
          exact hs
        have hlB : B = 0 ∨ 3 + 1 < B := (by (try clear hQ); (try subst ev72 ev70 ev68 ev66 ev64 ev35 ev6 ev5 ev4 ev3 ev1); ((try simp only [xb_eq, xb_ne, Int32.lt_iff_toInt_lt, Int32.le_iff_toInt_le] at *) <;> (try simp only [← Int32.toInt_inj, true_and, false_and, or_false, false_or, or_true, true_or, and_true, and_false] at *) <;> omega))
        have hbig := fit_lt (n := n) (l := 3) (by omega) hx.2.2.2.2.1
        have hp4 := pow4 hn
        subst ev72 ev70 ev68 ev66 ev64 ev35 ev6 ev5 ev4 ev3 ev1
        refine hQ _ 0 ⟨fun a h1 h2 => ?_, rfl, rfl⟩ (Or.inr ⟨Or.inl rfl, ?_⟩)
        · repeat (first | rw [xp_row_ne h1] | rw [xp_row_ne h2])
          try rfl
        · have ef : procP n S (pre * 10 ^ (n - (3 + 1))) (bst, B, hi) = (nI (pre * 10 ^ (n - (3 + 1))), 3 + 1, T 2 - T 0) := by
            have e1 := hrow (pre * 10 ^ (n - (3 + 1))) (Nat.le_refl _) (by have : 0 < 10 ^ (n - (3 + 1)) := Nat.pow_pos (by decide); omega)
            rw [tr_1 h5] at e1
            refine (pP_t e1 ?_).trans ?_
            · refine Or.inr (Or.inl ⟨by show 0 < 0 + (3 + 1); omega, ?_⟩)
              show B = 0 ∨ 0 + (3 + 1) < B
              omega
            · show (nI _, 0 + (3 + 1), T 2 - T 0) = _
              rw [Nat.zero_add]
          rw [blk_first (procP n S) (Nat.pow_pos (by decide)) ef (fun i h1 h2 => ?_)]
          · refine ⟨by show 3 + 1 ≤ n; omega, Or.inr ⟨Nat.succ_pos _, rfl⟩, Or.inr ⟨nI_nn1 (by omega), ?_, pre * 10 ^ (n - (3 + 1)), rfl, hbig, fun i hi9 => ?_⟩⟩
            · show _ = T 2 - T 0
              rw [← e2, ← e0]
              rfl
            rcases (show i = 0 ∨ i = 1 ∨ i = 2 ∨ i = 3 by omega) with h9 | h9 | h9 | h9
            · subst h9
              rw [(dig_pad (pre := pre) (r := (n - (3 + 1))) (l := 3) (n := n) (i := 0) (by omega)).1 (by omega)]
              exact hx.2.2.2.1 0 (by omega)
            · subst h9
              rw [(dig_pad (pre := pre) (r := (n - (3 + 1))) (l := 3) (n := n) (i := 1) (by omega)).1 (by omega)]
              exact hx.2.2.2.1 1 (by omega)
            · subst h9
              rw [(dig_pad (pre := pre) (r := (n - (3 + 1))) (l := 3) (n := n) (i := 2) (by omega)).1 (by omega)]
              exact hx.2.2.2.1 2 (by omega)
            · subst h9
              rw [(dig_pad (pre := pre) (r := (n - (3 + 1))) (l := 3) (n := n) (i := 3) (by omega)).1 (by omega)]
              exact hx.2.2.2.1 3 (by omega)
          · have e1 := hrow i (by omega) h2
            rw [tr_1 h5] at e1
            refine pP_f e1 ?_
            show ¬ ((nI _).toInt = -1 ∨ (0 < 0 + (3 + 1) ∧ (3 + 1 = 0 ∨ 0 + (3 + 1) < 3 + 1)) ∨ (0 + (3 + 1) = 0 ∧ _))
            have := nI_nn1 (k := pre * 10 ^ (n - (3 + 1))) (by omega)
            omega
      · refine V2_iload_n (i := 3) d_Rows_canBeBetter_44 rfl rfl ?_
        refine V2_aload_n (i := 0) d_Rows_canBeBetter_45 rfl rfl ?_
        refine V2_get (v := G 36 5) d_Rows_canBeBetter_46 fl_Rows_37 (by decide) rfl (by decide) rfl rfl ?_
        refine V2_topi (fun v74 ev74 => ?_)
        refine V2_icmp_ne (tgt := 76) d_Rows_canBeBetter_49 rfl (fun c75 => ?_) (fun c75 => ?_)
        · refine V2_iconst (v := 0) d_Rows_canBeBetter_76 rfl ?_
          refine V2_istore (i := 6) (l' := [some (.ref 36), some (.int (3 : Int32)), some (.ref 46), some (.int (4 : Int32)), some (.int v5), some (.int (1 : Int32)), some (.int (0 : Int32))]) d_Rows_canBeBetter_77 (xst_i (Nat.le_of_ble_eq_true rfl) rfl rfl) ?_
          refine V2_iload (i := 5) d_Rows_canBeBetter_79 rfl ?_
          refine V2_if_eq (tgt := 89) d_Rows_canBeBetter_81 rfl (fun c => (by first | exact absurd c (by decide) | exact absurd (by decide) c)) (fun _ => ?_)
          refine V2_aload_n (i := 0) d_Rows_canBeBetter_84 rfl rfl ?_
          refine V2_iload_n (i := 3) d_Rows_canBeBetter_85 rfl rfl ?_
          refine V2_put d_Rows_canBeBetter_86 fl_Rows_40 (by decide) rfl (by decide) rfl ?_
          refine V2_iload (i := 5) d_Rows_canBeBetter_89 rfl ?_
          refine V2_if_ne (tgt := 99) d_Rows_canBeBetter_91 rfl (fun _ => ?_) (fun c => (by first | exact absurd c (by decide) | exact absurd (by decide) c))
          refine V2_aload_n (i := 0) d_Rows_canBeBetter_99 rfl rfl ?_
          refine V2_iload (i := 4) d_Rows_canBeBetter_100 rfl ?_
          refine V2_put d_Rows_canBeBetter_102 fl_Rows_43 (by decide) rfl (by decide) rfl ?_
          refine V2_aload_n (i := 0) d_Rows_canBeBetter_105 rfl rfl ?_
          refine V2_iload_n (i := 1) d_Rows_canBeBetter_106 rfl rfl ?_
          refine V2_callV [.int (3 : Int32)] d_Rows_canBeBetter_107 rfl rfl lk_Rows_132 mo_Rows_keep (by decide) rfl rfl rfl (Nat.le_of_ble_eq_true rfl) (Nat.le_of_ble_eq_true rfl) ?_
          refine V2.to (l' := [some (.ref 36), some (.int (3 : Int32)), none]) ?_ rfl rfl rfl rfl
          refine V2_iconst (v := 0) d_Rows_keep_0 rfl ?_
          refine V2_istore_n (i := 2) (l' := [some (.ref 36), some (.int (3 : Int32)), some (.int (0 : Int32))]) d_Rows_keep_1 rfl (xst_i (Nat.le_of_ble_eq_true rfl) rfl rfl) ?_
          refine V2_iload_n (i := 2) d_Rows_keep_2 rfl rfl ?_
          refine V2_aload_n (i := 0) d_Rows_keep_3 rfl rfl ?_
          refine V2_getr (a := 40) d_Rows_keep_4 fl_Rows_26 (by decide) rfl (by decide) rfl ?_
          refine V2_alen (t := 0) (v := 4) d_Rows_keep_7 (by decide) rfl (by decide) rfl ?_
          refine V2_icmp_ge (tgt := 47) d_Rows_keep_8 rfl (fun c => (by first | exact absurd c (by decide) | exact absurd (by decide) c)) (fun _ => ?_)
          refine V2_iload_n (i := 2) d_Rows_keep_11 rfl rfl ?_
          refine V2_aload_n (i := 0) d_Rows_keep_12 rfl rfl ?_
          refine V2_getr (a := 41) d_Rows_keep_13 fl_Rows_30 (by decide) rfl (by decide) rfl ?_
          refine V2_alen (t := 0) (v := 4) d_Rows_keep_16 (by decide) rfl (by decide) rfl ?_
          refine V2_icmp_ge (tgt := 47) d_Rows_keep_17 rfl (fun c => (by first | exact absurd c (by decide) | exact absurd (by decide) c)) (fun _ => ?_)
          refine V2_aload_n (i := 0) d_Rows_keep_20 rfl rfl ?_
          refine V2_getr (a := 41) d_Rows_keep_21 fl_Rows_30 (by decide) rfl (by decide) rfl ?_
          refine V2_iload_n (i := 2) d_Rows_keep_24 rfl rfl ?_
          refine V2_iload_n (i := 2) d_Rows_keep_25 rfl rfl ?_
          refine V2_iload_n (i := 1) d_Rows_keep_26 rfl rfl ?_
          refine V2_icmp_gt (tgt := 39) d_Rows_keep_27 rfl (fun c => (by first | exact absurd c (by decide) | exact absurd (by decide) c)) (fun _ => ?_)
          refine V2_aload_n (i := 0) d_Rows_keep_30 rfl rfl ?_
          refine V2_getr (a := 40) d_Rows_keep_31 fl_Rows_26 (by decide) rfl (by decide) rfl ?_
          refine V2_iload_n (i := 2) d_Rows_keep_34 rfl rfl ?_
          refine V2_iaload (v := G 40 0) d_Rows_keep_35 (by decide) rfl (xixA (n := 0) rfl (by decide) (by decide)) rfl ?_
          refine V2_topi (fun v76 ev76 => ?_)
          refine V2_goto (tgt := 40) d_Rows_keep_36 rfl ?_
          refine V2_iastore (j := 0) d_Rows_keep_40 (by decide) rfl (xixA (n := 0) rfl (by decide) (by decide)) rfl ?_
          refine V2_iinc (i := 2) (v := 1) (l' := [some (.ref 36), some (.int (3 : Int32)), some (.int (1 : Int32))]) d_Rows_keep_41 rfl (by decide) (xst_i (Nat.le_of_ble_eq_true rfl) rfl rfl) ?_
          refine V2_goto (tgt := 2) d_Rows_keep_44 rfl ?_
          refine V2_iload_n (i := 2) d_Rows_keep_2 rfl rfl ?_
          refine V2_aload_n (i := 0) d_Rows_keep_3 rfl rfl ?_
          refine V2_getr (a := 40) d_Rows_keep_4 fl_Rows_26 (by decide) rfl (by decide) rfl ?_
          refine V2_alen (t := 0) (v := 4) d_Rows_keep_7 (by decide) rfl (by decide) rfl ?_
          refine V2_icmp_ge (tgt := 47) d_Rows_keep_8 rfl (fun c => (by first | exact absurd c (by decide) | exact absurd (by decide) c)) (fun _ => ?_)
          refine V2_iload_n (i := 2) d_Rows_keep_11 rfl rfl ?_
          refine V2_aload_n (i := 0) d_Rows_keep_12 rfl rfl ?_
          refine V2_getr (a := 41) d_Rows_keep_13 fl_Rows_30 (by decide) rfl (by decide) rfl ?_
          refine V2_alen (t := 0) (v := 4) d_Rows_keep_16 (by decide) rfl (by decide) rfl ?_
          refine V2_icmp_ge (tgt := 47) d_Rows_keep_17 rfl (fun c => (by first | exact absurd c (by decide) | exact absurd (by decide) c)) (fun _ => ?_)
          refine V2_aload_n (i := 0) d_Rows_keep_20 rfl rfl ?_
          refine V2_getr (a := 41) d_Rows_keep_21 fl_Rows_30 (by decide) rfl (by decide) rfl ?_
          refine V2_iload_n (i := 2) d_Rows_keep_24 rfl rfl ?_
          refine V2_iload_n (i := 2) d_Rows_keep_25 rfl rfl ?_
          refine V2_iload_n (i := 1) d_Rows_keep_26 rfl rfl ?_
          refine V2_icmp_gt (tgt := 39) d_Rows_keep_27 rfl (fun c => (by first | exact absurd c (by decide) | exact absurd (by decide) c)) (fun _ => ?_)
          refine V2_aload_n (i := 0) d_Rows_keep_30 rfl rfl ?_
          refine V2_getr (a := 40) d_Rows_keep_31 fl_Rows_26 (by decide) rfl (by decide) rfl ?_
          refine V2_iload_n (i := 2) d_Rows_keep_34 rfl rfl ?_
          refine V2_iaload (v := G 40 1) d_Rows_keep_35 (by decide) rfl (xixA (n := 1) rfl (by decide) (by decide)) rfl ?_
          refine V2_topi (fun v78 ev78 => ?_)
          refine V2_goto (tgt := 40) d_Rows_keep_36 rfl ?_
          refine V2_iastore (j := 1) d_Rows_keep_40 (by decide) rfl (xixA (n := 1) rfl (by decide) (by decide)) rfl ?_
          refine V2_iinc (i := 2) (v := 2) (l' := [some (.ref 36), some (.int (3 : Int32)), some (.int (2 : Int32))]) d_Rows_keep_41 rfl (by decide) (xst_i (Nat.le_of_ble_eq_true rfl) rfl rfl) ?_
          refine V2_goto (tgt := 2) d_Rows_keep_44 rfl ?_
          refine V2_iload_n (i := 2) d_Rows_keep_2 rfl rfl ?_
          refine V2_aload_n (i := 0) d_Rows_keep_3 rfl rfl ?_
          refine V2_getr (a := 40) d_Rows_keep_4 fl_Rows_26 (by decide) rfl (by decide) rfl ?_
          refine V2_alen (t := 0) (v := 4) d_Rows_keep_7 (by decide) rfl (by decide) rfl ?_
          refine V2_icmp_ge (tgt := 47) d_Rows_keep_8 rfl (fun c => (by first | exact absurd c (by decide) | exact absurd (by decide) c)) (fun _ => ?_)
          refine V2_iload_n (i := 2) d_Rows_keep_11 rfl rfl ?_
          refine V2_aload_n (i := 0) d_Rows_keep_12 rfl rfl ?_
          refine V2_getr (a := 41) d_Rows_keep_13 fl_Rows_30 (by decide) rfl (by decide) rfl ?_
          refine V2_alen (t := 0) (v := 4) d_Rows_keep_16 (by decide) rfl (by decide) rfl ?_
          refine V2_icmp_ge (tgt := 47) d_Rows_keep_17 rfl (fun c => (by first | exact absurd c (by decide) | exact absurd (by decide) c)) (fun _ => ?_)
          refine V2_aload_n (i := 0) d_Rows_keep_20 rfl rfl ?_
          refine V2_getr (a := 41) d_Rows_keep_21 fl_Rows_30 (by decide) rfl (by decide) rfl ?_
          refine V2_iload_n (i := 2) d_Rows_keep_24 rfl rfl ?_
          refine V2_iload_n (i := 2) d_Rows_keep_25 rfl rfl ?_
          refine V2_iload_n (i := 1) d_Rows_keep_26 rfl rfl ?_
          refine V2_icmp_gt (tgt := 39) d_Rows_keep_27 rfl (fun c => (by first | exact absurd c (by decide) | exact absurd (by decide) c)) (fun _ => ?_)
          refine V2_aload_n (i := 0) d_Rows_keep_30 rfl rfl ?_
          refine V2_getr (a := 40) d_Rows_keep_31 fl_Rows_26 (by decide) rfl (by decide) rfl ?_
          refine V2_iload_n (i := 2) d_Rows_keep_34 rfl rfl ?_
          refine V2_iaload (v := G 40 2) d_Rows_keep_35 (by decide) rfl (xixA (n := 2) rfl (by decide) (by decide)) rfl ?_
          refine V2_topi (fun v80 ev80 => ?_)
          refine V2_goto (tgt := 40) d_Rows_keep_36 rfl ?_
          refine V2_iastore (j := 2) d_Rows_keep_40 (by decide) rfl (xixA (n := 2) rfl (by decide) (by decide)) rfl ?_
          refine V2_iinc (i := 2) (v := 3) (l' := [some (.ref 36), some (.int (3 : Int32)), some (.int (3 : Int32))]) d_Rows_keep_41 rfl (by decide) (xst_i (Nat.le_of_ble_eq_true rfl) rfl rfl) ?_
          refine V2_goto (tgt := 2) d_Rows_keep_44 rfl ?_
          refine V2_iload_n (i := 2) d_Rows_keep_2 rfl rfl ?_
          refine V2_aload_n (i := 0) d_Rows_keep_3 rfl rfl ?_
          refine V2_getr (a := 40) d_Rows_keep_4 fl_Rows_26 (by decide) rfl (by decide) rfl ?_
          refine V2_alen (t := 0) (v := 4) d_Rows_keep_7 (by decide) rfl (by decide) rfl ?_
          refine V2_icmp_ge (tgt := 47) d_Rows_keep_8 rfl (fun c => (by first | exact absurd c (by decide) | exact absurd (by decide) c)) (fun _ => ?_)
          refine V2_iload_n (i := 2) d_Rows_keep_11 rfl rfl ?_
          refine V2_aload_n (i := 0) d_Rows_keep_12 rfl rfl ?_
          refine V2_getr (a := 41) d_Rows_keep_13 fl_Rows_30 (by decide) rfl (by decide) rfl ?_
          refine V2_alen (t := 0) (v := 4) d_Rows_keep_16 (by decide) rfl (by decide) rfl ?_
          refine V2_icmp_ge (tgt := 47) d_Rows_keep_17 rfl (fun c => (by first | exact absurd c (by decide) | exact absurd (by decide) c)) (fun _ => ?_)
          refine V2_aload_n (i := 0) d_Rows_keep_20 rfl rfl ?_
          refine V2_getr (a := 41) d_Rows_keep_21 fl_Rows_30 (by decide) rfl (by decide) rfl ?_
          refine V2_iload_n (i := 2) d_Rows_keep_24 rfl rfl ?_
          refine V2_iload_n (i := 2) d_Rows_keep_25 rfl rfl ?_
          refine V2_iload_n (i := 1) d_Rows_keep_26 rfl rfl ?_
          refine V2_icmp_gt (tgt := 39) d_Rows_keep_27 rfl (fun c => (by first | exact absurd c (by decide) | exact absurd (by decide) c)) (fun _ => ?_)
          refine V2_aload_n (i := 0) d_Rows_keep_30 rfl rfl ?_
          refine V2_getr (a := 40) d_Rows_keep_31 fl_Rows_26 (by decide) rfl (by decide) rfl ?_
          refine V2_iload_n (i := 2) d_Rows_keep_34 rfl rfl ?_
          refine V2_iaload (v := G 40 3) d_Rows_keep_35 (by decide) rfl (xixA (n := 3) rfl (by decide) (by decide)) rfl ?_
          refine V2_topi (fun v82 ev82 => ?_)
          refine V2_goto (tgt := 40) d_Rows_keep_36 rfl ?_
          refine V2_iastore (j := 3) d_Rows_keep_40 (by decide) rfl (xixA (n := 3) rfl (by decide) (by decide)) rfl ?_
          refine V2_iinc (i := 2) (v := 4) (l' := [some (.ref 36), some (.int (3 : Int32)), some (.int (4 : Int32))]) d_Rows_keep_41 rfl (by decide) (xst_i (Nat.le_of_ble_eq_true rfl) rfl rfl) ?_
          refine V2_goto (tgt := 2) d_Rows_keep_44 rfl ?_
          refine V2_iload_n (i := 2) d_Rows_keep_2 rfl rfl ?_
          refine V2_aload_n (i := 0) d_Rows_keep_3 rfl rfl ?_
          refine V2_getr (a := 40) d_Rows_keep_4 fl_Rows_26 (by decide) rfl (by decide) rfl ?_
          refine V2_alen (t := 0) (v := 4) d_Rows_keep_7 (by decide) rfl (by decide) rfl ?_
          refine V2_icmp_ge (tgt := 47) d_Rows_keep_8 rfl (fun _ => ?_) (fun c => (by first | exact absurd c (by decide) | exact absurd (by decide) c))
          refine V2_return d_Rows_keep_47 rfl ?_
          refine V2.to (st' := []) ?_ rfl rfl rfl rfl
          refine V2_iload_n (i := 3) d_Rows_canBeBetter_110 rfl rfl ?_
          refine V2_iconst (v := 1) d_Rows_canBeBetter_111 rfl ?_
          refine V2_iadd d_Rows_canBeBetter_112 ?_
          refine V2_lit (v := 5) (by decide) ?_
          refine V2_aload_n (i := 0) d_Rows_canBeBetter_113 rfl rfl ?_
          refine V2_get (v := (4 : Int32)) d_Rows_canBeBetter_114 fl_Rows_40 (by decide) rfl (by decide) rfl rfl ?_
          refine V2_icmp_ge (tgt := 124) d_Rows_canBeBetter_117 rfl (fun _ => ?_) (fun c => (by first | exact absurd c (by decide) | exact absurd (by decide) c))
          refine V2_iconst (v := 0) d_Rows_canBeBetter_124 rfl ?_
          refine V2_zreturn d_Rows_canBeBetter_125 rfl (by decide) ?_
          refine V2.to (st' := [.int (0 : Int32)]) ?_ rfl rfl rfl rfl
          refine V2_zreturn d_Rows_goesOn_52 rfl (by decide) ?_
          have hB1 : B ≤ n := hR.1
          have hf : (B = 0 ∧ (G 36 6).toInt = (n : Int) + 1) ∨ (0 < B ∧ (G 36 6).toInt = (B : Int)) := by
            rcases hR.2.1 with ⟨h1, h2⟩ | ⟨h1, h2⟩
            · exact Or.inl ⟨h1, by rw [h2, nI_toInt (by omega)]; omega⟩
            · exact Or.inr ⟨h1, by rw [h2, nI_toInt (by have := hR.1; omega)]⟩
          have hov : (bst.toInt = -1 ∧ B = 0 ∧ (G 36 7).toInt = -1000) ∨ (¬ bst.toInt = -1 ∧ (G 36 7).toInt = hi.toInt) := by
            rcases hR.2.2 with ⟨h1, h2, h3⟩ | ⟨h1, h3, _⟩
            · exact Or.inl ⟨h1, h2, by rw [h3]; decide⟩
            · exact Or.inr ⟨h1, by rw [h3]⟩
          have sA : (T 2 - T 0).toInt = (T 2).toInt - (T 0).toInt := toI_sub (by omega) (by omega) (by omega) (by omega)
          have e2 : G 46 2 = T 2 := hx.2.2.2.2.2.1.2.2.1
          have e0 : G 46 0 = T 0 := hx.2.2.2.2.2.1.1
          have el : G 36 5 = nI n := hx.2.2.1
          have sA2 : (G 46 2 - G 46 0).toInt = (T 2).toInt - (T 0).toInt := by rw [e2, e0]; exact sA
          have nl : (G 36 5).toInt = (n : Int) := by rw [el]; exact nI_toInt (by omega)
          have h5 : T 5 = 1 := by
            have h9 := c7
            subst ev82 ev80 ev78 ev76 ev74 ev64 ev35 ev6 ev5 ev4 ev3 ev1
            rw [hx.2.2.2.2.2.1.2.2.2.2.2.2.2] at h9
            exact hx.2.2.2.2.2.2.2.1.2.2.2.2.2.1.resolve_left h9
          exfalso
          exact (by (try clear hQ); (try subst ev82 ev80 ev78 ev76 ev74 ev64 ev35 ev6 ev5 ev4 ev3 ev1); ((try simp only [xb_eq, xb_ne, Int32.lt_iff_toInt_lt, Int32.le_iff_toInt_le] at *) <;> (try simp only [← Int32.toInt_inj, true_and, false_and, or_false, false_or, or_true, true_or, and_true, and_false] at *) <;> omega))
        · refine V2_aload_n (i := 0) d_Rows_canBeBetter_52 rfl rfl ?_
          refine V2_get (v := G 36 6) d_Rows_canBeBetter_53 fl_Rows_40 (by decide) rfl (by decide) rfl rfl ?_
          refine V2_topi (fun v84 ev84 => ?_)
          refine V2_aload_n (i := 0) d_Rows_canBeBetter_56 rfl rfl ?_
          refine V2_get (v := G 36 5) d_Rows_canBeBetter_57 fl_Rows_37 (by decide) rfl (by decide) rfl rfl ?_
          refine V2_topi (fun v85 ev85 => ?_)
          refine V2_icmp_le (tgt := 76) d_Rows_canBeBetter_60 rfl (fun c86 => ?_) (fun c86 => ?_)
          · refine V2_iconst (v := 0) d_Rows_canBeBetter_76 rfl ?_
            refine V2_istore (i := 6) (l' := [some (.ref 36), some (.int (3 : Int32)), some (.ref 46), some (.int (4 : Int32)), some (.int v5), some (.int (1 : Int32)), some (.int (0 : Int32))]) d_Rows_canBeBetter_77 (xst_i (Nat.le_of_ble_eq_true rfl) rfl rfl) ?_
            refine V2_iload (i := 5) d_Rows_canBeBetter_79 rfl ?_
            refine V2_if_eq (tgt := 89) d_Rows_canBeBetter_81 rfl (fun c => (by first | exact absurd c (by decide) | exact absurd (by decide) c)) (fun _ => ?_)
            refine V2_aload_n (i := 0) d_Rows_canBeBetter_84 rfl rfl ?_
            refine V2_iload_n (i := 3) d_Rows_canBeBetter_85 rfl rfl ?_
            refine V2_put d_Rows_canBeBetter_86 fl_Rows_40 (by decide) rfl (by decide) rfl ?_
            refine V2_iload (i := 5) d_Rows_canBeBetter_89 rfl ?_
            refine V2_if_ne (tgt := 99) d_Rows_canBeBetter_91 rfl (fun _ => ?_) (fun c => (by first | exact absurd c (by decide) | exact absurd (by decide) c))
            refine V2_aload_n (i := 0) d_Rows_canBeBetter_99 rfl rfl ?_
            refine V2_iload (i := 4) d_Rows_canBeBetter_100 rfl ?_
            refine V2_put d_Rows_canBeBetter_102 fl_Rows_43 (by decide) rfl (by decide) rfl ?_
            refine V2_aload_n (i := 0) d_Rows_canBeBetter_105 rfl rfl ?_
            refine V2_iload_n (i := 1) d_Rows_canBeBetter_106 rfl rfl ?_
            refine V2_callV [.int (3 : Int32)] d_Rows_canBeBetter_107 rfl rfl lk_Rows_132 mo_Rows_keep (by decide) rfl rfl rfl (Nat.le_of_ble_eq_true rfl) (Nat.le_of_ble_eq_true rfl) ?_
            refine V2.to (l' := [some (.ref 36), some (.int (3 : Int32)), none]) ?_ rfl rfl rfl rfl
            refine V2_iconst (v := 0) d_Rows_keep_0 rfl ?_
            refine V2_istore_n (i := 2) (l' := [some (.ref 36), some (.int (3 : Int32)), some (.int (0 : Int32))]) d_Rows_keep_1 rfl (xst_i (Nat.le_of_ble_eq_true rfl) rfl rfl) ?_
            refine V2_iload_n (i := 2) d_Rows_keep_2 rfl rfl ?_
            refine V2_aload_n (i := 0) d_Rows_keep_3 rfl rfl ?_
            refine V2_getr (a := 40) d_Rows_keep_4 fl_Rows_26 (by decide) rfl (by decide) rfl ?_
            refine V2_alen (t := 0) (v := 4) d_Rows_keep_7 (by decide) rfl (by decide) rfl ?_
            refine V2_icmp_ge (tgt := 47) d_Rows_keep_8 rfl (fun c => (by first | exact absurd c (by decide) | exact absurd (by decide) c)) (fun _ => ?_)
            refine V2_iload_n (i := 2) d_Rows_keep_11 rfl rfl ?_
            refine V2_aload_n (i := 0) d_Rows_keep_12 rfl rfl ?_
            refine V2_getr (a := 41) d_Rows_keep_13 fl_Rows_30 (by decide) rfl (by decide) rfl ?_
            refine V2_alen (t := 0) (v := 4) d_Rows_keep_16 (by decide) rfl (by decide) rfl ?_
            refine V2_icmp_ge (tgt := 47) d_Rows_keep_17 rfl (fun c => (by first | exact absurd c (by decide) | exact absurd (by decide) c)) (fun _ => ?_)
            refine V2_aload_n (i := 0) d_Rows_keep_20 rfl rfl ?_
            refine V2_getr (a := 41) d_Rows_keep_21 fl_Rows_30 (by decide) rfl (by decide) rfl ?_
            refine V2_iload_n (i := 2) d_Rows_keep_24 rfl rfl ?_
            refine V2_iload_n (i := 2) d_Rows_keep_25 rfl rfl ?_
            refine V2_iload_n (i := 1) d_Rows_keep_26 rfl rfl ?_
            refine V2_icmp_gt (tgt := 39) d_Rows_keep_27 rfl (fun c => (by first | exact absurd c (by decide) | exact absurd (by decide) c)) (fun _ => ?_)
            refine V2_aload_n (i := 0) d_Rows_keep_30 rfl rfl ?_
            refine V2_getr (a := 40) d_Rows_keep_31 fl_Rows_26 (by decide) rfl (by decide) rfl ?_
            refine V2_iload_n (i := 2) d_Rows_keep_34 rfl rfl ?_
            refine V2_iaload (v := G 40 0) d_Rows_keep_35 (by decide) rfl (xixA (n := 0) rfl (by decide) (by decide)) rfl ?_
            refine V2_topi (fun v87 ev87 => ?_)
            refine V2_goto (tgt := 40) d_Rows_keep_36 rfl ?_
            refine V2_iastore (j := 0) d_Rows_keep_40 (by decide) rfl (xixA (n := 0) rfl (by decide) (by decide)) rfl ?_
            refine V2_iinc (i := 2) (v := 1) (l' := [some (.ref 36), some (.int (3 : Int32)), some (.int (1 : Int32))]) d_Rows_keep_41 rfl (by decide) (xst_i (Nat.le_of_ble_eq_true rfl) rfl rfl) ?_
            refine V2_goto (tgt := 2) d_Rows_keep_44 rfl ?_
            refine V2_iload_n (i := 2) d_Rows_keep_2 rfl rfl ?_
            refine V2_aload_n (i := 0) d_Rows_keep_3 rfl rfl ?_
            refine V2_getr (a := 40) d_Rows_keep_4 fl_Rows_26 (by decide) rfl (by decide) rfl ?_
            refine V2_alen (t := 0) (v := 4) d_Rows_keep_7 (by decide) rfl (by decide) rfl ?_
            refine V2_icmp_ge (tgt := 47) d_Rows_keep_8 rfl (fun c => (by first | exact absurd c (by decide) | exact absurd (by decide) c)) (fun _ => ?_)
            refine V2_iload_n (i := 2) d_Rows_keep_11 rfl rfl ?_
            refine V2_aload_n (i := 0) d_Rows_keep_12 rfl rfl ?_
            refine V2_getr (a := 41) d_Rows_keep_13 fl_Rows_30 (by decide) rfl (by decide) rfl ?_
            refine V2_alen (t := 0) (v := 4) d_Rows_keep_16 (by decide) rfl (by decide) rfl ?_
            refine V2_icmp_ge (tgt := 47) d_Rows_keep_17 rfl (fun c => (by first | exact absurd c (by decide) | exact absurd (by decide) c)) (fun _ => ?_)
            refine V2_aload_n (i := 0) d_Rows_keep_20 rfl rfl ?_
            refine V2_getr (a := 41) d_Rows_keep_21 fl_Rows_30 (by decide) rfl (by decide) rfl ?_
            refine V2_iload_n (i := 2) d_Rows_keep_24 rfl rfl ?_
            refine V2_iload_n (i := 2) d_Rows_keep_25 rfl rfl ?_
            refine V2_iload_n (i := 1) d_Rows_keep_26 rfl rfl ?_
            refine V2_icmp_gt (tgt := 39) d_Rows_keep_27 rfl (fun c => (by first | exact absurd c (by decide) | exact absurd (by decide) c)) (fun _ => ?_)
            refine V2_aload_n (i := 0) d_Rows_keep_30 rfl rfl ?_
            refine V2_getr (a := 40) d_Rows_keep_31 fl_Rows_26 (by decide) rfl (by decide) rfl ?_
            refine V2_iload_n (i := 2) d_Rows_keep_34 rfl rfl ?_
            refine V2_iaload (v := G 40 1) d_Rows_keep_35 (by decide) rfl (xixA (n := 1) rfl (by decide) (by decide)) rfl ?_
            refine V2_topi (fun v89 ev89 => ?_)
            refine V2_goto (tgt := 40) d_Rows_keep_36 rfl ?_
            refine V2_iastore (j := 1) d_Rows_keep_40 (by decide) rfl (xixA (n := 1) rfl (by decide) (by decide)) rfl ?_
            refine V2_iinc (i := 2) (v := 2) (l' := [some (.ref 36), some (.int (3 : Int32)), some (.int (2 : Int32))]) d_Rows_keep_41 rfl (by decide) (xst_i (Nat.le_of_ble_eq_true rfl) rfl rfl) ?_
            refine V2_goto (tgt := 2) d_Rows_keep_44 rfl ?_
            refine V2_iload_n (i := 2) d_Rows_keep_2 rfl rfl ?_
            refine V2_aload_n (i := 0) d_Rows_keep_3 rfl rfl ?_
            refine V2_getr (a := 40) d_Rows_keep_4 fl_Rows_26 (by decide) rfl (by decide) rfl ?_
            refine V2_alen (t := 0) (v := 4) d_Rows_keep_7 (by decide) rfl (by decide) rfl ?_
            refine V2_icmp_ge (tgt := 47) d_Rows_keep_8 rfl (fun c => (by first | exact absurd c (by decide) | exact absurd (by decide) c)) (fun _ => ?_)
            refine V2_iload_n (i := 2) d_Rows_keep_11 rfl rfl ?_
            refine V2_aload_n (i := 0) d_Rows_keep_12 rfl rfl ?_
            refine V2_getr (a := 41) d_Rows_keep_13 fl_Rows_30 (by decide) rfl (by decide) rfl ?_
            refine V2_alen (t := 0) (v := 4) d_Rows_keep_16 (by decide) rfl (by decide) rfl ?_
            refine V2_icmp_ge (tgt := 47) d_Rows_keep_17 rfl (fun c => (by first | exact absurd c (by decide) | exact absurd (by decide) c)) (fun _ => ?_)
            refine V2_aload_n (i := 0) d_Rows_keep_20 rfl rfl ?_
            refine V2_getr (a := 41) d_Rows_keep_21 fl_Rows_30 (by decide) rfl (by decide) rfl ?_
            refine V2_iload_n (i := 2) d_Rows_keep_24 rfl rfl ?_
            refine V2_iload_n (i := 2) d_Rows_keep_25 rfl rfl ?_
            refine V2_iload_n (i := 1) d_Rows_keep_26 rfl rfl ?_
            refine V2_icmp_gt (tgt := 39) d_Rows_keep_27 rfl (fun c => (by first | exact absurd c (by decide) | exact absurd (by decide) c)) (fun _ => ?_)
            refine V2_aload_n (i := 0) d_Rows_keep_30 rfl rfl ?_
            refine V2_getr (a := 40) d_Rows_keep_31 fl_Rows_26 (by decide) rfl (by decide) rfl ?_
            refine V2_iload_n (i := 2) d_Rows_keep_34 rfl rfl ?_
            refine V2_iaload (v := G 40 2) d_Rows_keep_35 (by decide) rfl (xixA (n := 2) rfl (by decide) (by decide)) rfl ?_
            refine V2_topi (fun v91 ev91 => ?_)
            refine V2_goto (tgt := 40) d_Rows_keep_36 rfl ?_
            refine V2_iastore (j := 2) d_Rows_keep_40 (by decide) rfl (xixA (n := 2) rfl (by decide) (by decide)) rfl ?_
            refine V2_iinc (i := 2) (v := 3) (l' := [some (.ref 36), some (.int (3 : Int32)), some (.int (3 : Int32))]) d_Rows_keep_41 rfl (by decide) (xst_i (Nat.le_of_ble_eq_true rfl) rfl rfl) ?_
            refine V2_goto (tgt := 2) d_Rows_keep_44 rfl ?_
            refine V2_iload_n (i := 2) d_Rows_keep_2 rfl rfl ?_
            refine V2_aload_n (i := 0) d_Rows_keep_3 rfl rfl ?_
            refine V2_getr (a := 40) d_Rows_keep_4 fl_Rows_26 (by decide) rfl (by decide) rfl ?_
            refine V2_alen (t := 0) (v := 4) d_Rows_keep_7 (by decide) rfl (by decide) rfl ?_
            refine V2_icmp_ge (tgt := 47) d_Rows_keep_8 rfl (fun c => (by first | exact absurd c (by decide) | exact absurd (by decide) c)) (fun _ => ?_)
            refine V2_iload_n (i := 2) d_Rows_keep_11 rfl rfl ?_
            refine V2_aload_n (i := 0) d_Rows_keep_12 rfl rfl ?_
            refine V2_getr (a := 41) d_Rows_keep_13 fl_Rows_30 (by decide) rfl (by decide) rfl ?_
            refine V2_alen (t := 0) (v := 4) d_Rows_keep_16 (by decide) rfl (by decide) rfl ?_
            refine V2_icmp_ge (tgt := 47) d_Rows_keep_17 rfl (fun c => (by first | exact absurd c (by decide) | exact absurd (by decide) c)) (fun _ => ?_)
            refine V2_aload_n (i := 0) d_Rows_keep_20 rfl rfl ?_
            refine V2_getr (a := 41) d_Rows_keep_21 fl_Rows_30 (by decide) rfl (by decide) rfl ?_
            refine V2_iload_n (i := 2) d_Rows_keep_24 rfl rfl ?_
            refine V2_iload_n (i := 2) d_Rows_keep_25 rfl rfl ?_
            refine V2_iload_n (i := 1) d_Rows_keep_26 rfl rfl ?_
            refine V2_icmp_gt (tgt := 39) d_Rows_keep_27 rfl (fun c => (by first | exact absurd c (by decide) | exact absurd (by decide) c)) (fun _ => ?_)
            refine V2_aload_n (i := 0) d_Rows_keep_30 rfl rfl ?_
            refine V2_getr (a := 40) d_Rows_keep_31 fl_Rows_26 (by decide) rfl (by decide) rfl ?_
            refine V2_iload_n (i := 2) d_Rows_keep_34 rfl rfl ?_
            refine V2_iaload (v := G 40 3) d_Rows_keep_35 (by decide) rfl (xixA (n := 3) rfl (by decide) (by decide)) rfl ?_
            refine V2_topi (fun v93 ev93 => ?_)
            refine V2_goto (tgt := 40) d_Rows_keep_36 rfl ?_
            refine V2_iastore (j := 3) d_Rows_keep_40 (by decide) rfl (xixA (n := 3) rfl (by decide) (by decide)) rfl ?_
            refine V2_iinc (i := 2) (v := 4) (l' := [some (.ref 36), some (.int (3 : Int32)), some (.int (4 : Int32))]) d_Rows_keep_41 rfl (by decide) (xst_i (Nat.le_of_ble_eq_true rfl) rfl rfl) ?_
            refine V2_goto (tgt := 2) d_Rows_keep_44 rfl ?_
            refine V2_iload_n (i := 2) d_Rows_keep_2 rfl rfl ?_
            refine V2_aload_n (i := 0) d_Rows_keep_3 rfl rfl ?_
            refine V2_getr (a := 40) d_Rows_keep_4 fl_Rows_26 (by decide) rfl (by decide) rfl ?_
            refine V2_alen (t := 0) (v := 4) d_Rows_keep_7 (by decide) rfl (by decide) rfl ?_
            refine V2_icmp_ge (tgt := 47) d_Rows_keep_8 rfl (fun _ => ?_) (fun c => (by first | exact absurd c (by decide) | exact absurd (by decide) c))
            refine V2_return d_Rows_keep_47 rfl ?_
            refine V2.to (st' := []) ?_ rfl rfl rfl rfl
            refine V2_iload_n (i := 3) d_Rows_canBeBetter_110 rfl rfl ?_
            refine V2_iconst (v := 1) d_Rows_canBeBetter_111 rfl ?_
            refine V2_iadd d_Rows_canBeBetter_112 ?_
            refine V2_lit (v := 5) (by decide) ?_
            refine V2_aload_n (i := 0) d_Rows_canBeBetter_113 rfl rfl ?_
            refine V2_get (v := (4 : Int32)) d_Rows_canBeBetter_114 fl_Rows_40 (by decide) rfl (by decide) rfl rfl ?_
            refine V2_icmp_ge (tgt := 124) d_Rows_canBeBetter_117 rfl (fun _ => ?_) (fun c => (by first | exact absurd c (by decide) | exact absurd (by decide) c))
            refine V2_iconst (v := 0) d_Rows_canBeBetter_124 rfl ?_
            refine V2_zreturn d_Rows_canBeBetter_125 rfl (by decide) ?_
            refine V2.to (st' := [.int (0 : Int32)]) ?_ rfl rfl rfl rfl
            refine V2_zreturn d_Rows_goesOn_52 rfl (by decide) ?_
            have hB1 : B ≤ n := hR.1
            have hf : (B = 0 ∧ (G 36 6).toInt = (n : Int) + 1) ∨ (0 < B ∧ (G 36 6).toInt = (B : Int)) := by
              rcases hR.2.1 with ⟨h1, h2⟩ | ⟨h1, h2⟩
              · exact Or.inl ⟨h1, by rw [h2, nI_toInt (by omega)]; omega⟩
              · exact Or.inr ⟨h1, by rw [h2, nI_toInt (by have := hR.1; omega)]⟩
            have hov : (bst.toInt = -1 ∧ B = 0 ∧ (G 36 7).toInt = -1000) ∨ (¬ bst.toInt = -1 ∧ (G 36 7).toInt = hi.toInt) := by
              rcases hR.2.2 with ⟨h1, h2, h3⟩ | ⟨h1, h3, _⟩
              · exact Or.inl ⟨h1, h2, by rw [h3]; decide⟩
              · exact Or.inr ⟨h1, by rw [h3]⟩
            have sA : (T 2 - T 0).toInt = (T 2).toInt - (T 0).toInt := toI_sub (by omega) (by omega) (by omega) (by omega)
            have e2 : G 46 2 = T 2 := hx.2.2.2.2.2.1.2.2.1
            have e0 : G 46 0 = T 0 := hx.2.2.2.2.2.1.1
            have el : G 36 5 = nI n := hx.2.2.1
            have sA2 : (G 46 2 - G 46 0).toInt = (T 2).toInt - (T 0).toInt := by rw [e2, e0]; exact sA
            have nl : (G 36 5).toInt = (n : Int) := by rw [el]; exact nI_toInt (by omega)
            have h5 : T 5 = 1 := by
              have h9 := c7
              subst ev93 ev91 ev89 ev87 ev85 ev84 ev74 ev64 ev35 ev6 ev5 ev4 ev3 ev1
              rw [hx.2.2.2.2.2.1.2.2.2.2.2.2.2] at h9
              exact hx.2.2.2.2.2.2.2.1.2.2.2.2.2.1.resolve_left h9
            exfalso
            exact (by (try clear hQ); (try subst ev93 ev91 ev89 ev87 ev85 ev84 ev74 ev64 ev35 ev6 ev5 ev4 ev3 ev1); ((try simp only [xb_eq, xb_ne, Int32.lt_iff_toInt_lt, Int32.le_iff_toInt_le] at *) <;> (try simp only [← Int32.toInt_inj, true_and, false_and, or_false, false_or, or_true, true_or, and_true, and_false] at *) <;> omega))
          · refine V2_iload (i := 4) d_Rows_canBeBetter_63 rfl ?_
            refine V2_aload_n (i := 0) d_Rows_canBeBetter_65 rfl rfl ?_
            refine V2_get (v := G 36 7) d_Rows_canBeBetter_66 fl_Rows_43 (by decide) rfl (by decide) rfl rfl ?_
            refine V2_topi (fun v95 ev95 => ?_)
            refine V2_icmp_le (tgt := 76) d_Rows_canBeBetter_69 rfl (fun c96 => ?_) (fun c96 => ?_)
            · refine V2_iconst (v := 0) d_Rows_canBeBetter_76 rfl ?_
              refine V2_istore (i := 6) (l' := [some (.ref 36), some (.int (3 : Int32)), some (.ref 46), some (.int (4 : Int32)), some (.int v5), some (.int (1 : Int32)), some (.int (0 : Int32))]) d_Rows_canBeBetter_77 (xst_i (Nat.le_of_ble_eq_true rfl) rfl rfl) ?_
              refine V2_iload (i := 5) d_Rows_canBeBetter_79 rfl ?_
              refine V2_if_eq (tgt := 89) d_Rows_canBeBetter_81 rfl (fun c => (by first | exact absurd c (by decide) | exact absurd (by decide) c)) (fun _ => ?_)
              refine V2_aload_n (i := 0) d_Rows_canBeBetter_84 rfl rfl ?_
              refine V2_iload_n (i := 3) d_Rows_canBeBetter_85 rfl rfl ?_
              refine V2_put d_Rows_canBeBetter_86 fl_Rows_40 (by decide) rfl (by decide) rfl ?_
              refine V2_iload (i := 5) d_Rows_canBeBetter_89 rfl ?_
              refine V2_if_ne (tgt := 99) d_Rows_canBeBetter_91 rfl (fun _ => ?_) (fun c => (by first | exact absurd c (by decide) | exact absurd (by decide) c))
              refine V2_aload_n (i := 0) d_Rows_canBeBetter_99 rfl rfl ?_
              refine V2_iload (i := 4) d_Rows_canBeBetter_100 rfl ?_
              refine V2_put d_Rows_canBeBetter_102 fl_Rows_43 (by decide) rfl (by decide) rfl ?_
              refine V2_aload_n (i := 0) d_Rows_canBeBetter_105 rfl rfl ?_
              refine V2_iload_n (i := 1) d_Rows_canBeBetter_106 rfl rfl ?_
              refine V2_callV [.int (3 : Int32)] d_Rows_canBeBetter_107 rfl rfl lk_Rows_132 mo_Rows_keep (by decide) rfl rfl rfl (Nat.le_of_ble_eq_true rfl) (Nat.le_of_ble_eq_true rfl) ?_
              refine V2.to (l' := [some (.ref 36), some (.int (3 : Int32)), none]) ?_ rfl rfl rfl rfl
              refine V2_iconst (v := 0) d_Rows_keep_0 rfl ?_
              refine V2_istore_n (i := 2) (l' := [some (.ref 36), some (.int (3 : Int32)), some (.int (0 : Int32))]) d_Rows_keep_1 rfl (xst_i (Nat.le_of_ble_eq_true rfl) rfl rfl) ?_
              refine V2_iload_n (i := 2) d_Rows_keep_2 rfl rfl ?_
              refine V2_aload_n (i := 0) d_Rows_keep_3 rfl rfl ?_
              refine V2_getr (a := 40) d_Rows_keep_4 fl_Rows_26 (by decide) rfl (by decide) rfl ?_
              refine V2_alen (t := 0) (v := 4) d_Rows_keep_7 (by decide) rfl (by decide) rfl ?_
              refine V2_icmp_ge (tgt := 47) d_Rows_keep_8 rfl (fun c => (by first | exact absurd c (by decide) | exact absurd (by decide) c)) (fun _ => ?_)
              refine V2_iload_n (i := 2) d_Rows_keep_11 rfl rfl ?_
              refine V2_aload_n (i := 0) d_Rows_keep_12 rfl rfl ?_
              refine V2_getr (a := 41) d_Rows_keep_13 fl_Rows_30 (by decide) rfl (by decide) rfl ?_
              refine V2_alen (t := 0) (v := 4) d_Rows_keep_16 (by decide) rfl (by decide) rfl ?_
              refine V2_icmp_ge (tgt := 47) d_Rows_keep_17 rfl (fun c => (by first | exact absurd c (by decide) | exact absurd (by decide) c)) (fun _ => ?_)
              refine V2_aload_n (i := 0) d_Rows_keep_20 rfl rfl ?_
              refine V2_getr (a := 41) d_Rows_keep_21 fl_Rows_30 (by decide) rfl (by decide) rfl ?_
              refine V2_iload_n (i := 2) d_Rows_keep_24 rfl rfl ?_
              refine V2_iload_n (i := 2) d_Rows_keep_25 rfl rfl ?_
              refine V2_iload_n (i := 1) d_Rows_keep_26 rfl rfl ?_
              refine V2_icmp_gt (tgt := 39) d_Rows_keep_27 rfl (fun c => (by first | exact absurd c (by decide) | exact absurd (by decide) c)) (fun _ => ?_)
              refine V2_aload_n (i := 0) d_Rows_keep_30 rfl rfl ?_
              refine V2_getr (a := 40) d_Rows_keep_31 fl_Rows_26 (by decide) rfl (by decide) rfl ?_
              refine V2_iload_n (i := 2) d_Rows_keep_34 rfl rfl ?_
              refine V2_iaload (v := G 40 0) d_Rows_keep_35 (by decide) rfl (xixA (n := 0) rfl (by decide) (by decide)) rfl ?_
              refine V2_topi (fun v97 ev97 => ?_)
              refine V2_goto (tgt := 40) d_Rows_keep_36 rfl ?_
              refine V2_iastore (j := 0) d_Rows_keep_40 (by decide) rfl (xixA (n := 0) rfl (by decide) (by decide)) rfl ?_
              refine V2_iinc (i := 2) (v := 1) (l' := [some (.ref 36), some (.int (3 : Int32)), some (.int (1 : Int32))]) d_Rows_keep_41 rfl (by decide) (xst_i (Nat.le_of_ble_eq_true rfl) rfl rfl) ?_
              refine V2_goto (tgt := 2) d_Rows_keep_44 rfl ?_
              refine V2_iload_n (i := 2) d_Rows_keep_2 rfl rfl ?_
              refine V2_aload_n (i := 0) d_Rows_keep_3 rfl rfl ?_
              refine V2_getr (a := 40) d_Rows_keep_4 fl_Rows_26 (by decide) rfl (by decide) rfl ?_
              refine V2_alen (t := 0) (v := 4) d_Rows_keep_7 (by decide) rfl (by decide) rfl ?_
              refine V2_icmp_ge (tgt := 47) d_Rows_keep_8 rfl (fun c => (by first | exact absurd c (by decide) | exact absurd (by decide) c)) (fun _ => ?_)
              refine V2_iload_n (i := 2) d_Rows_keep_11 rfl rfl ?_
              refine V2_aload_n (i := 0) d_Rows_keep_12 rfl rfl ?_
              refine V2_getr (a := 41) d_Rows_keep_13 fl_Rows_30 (by decide) rfl (by decide) rfl ?_
              refine V2_alen (t := 0) (v := 4) d_Rows_keep_16 (by decide) rfl (by decide) rfl ?_
              refine V2_icmp_ge (tgt := 47) d_Rows_keep_17 rfl (fun c => (by first | exact absurd c (by decide) | exact absurd (by decide) c)) (fun _ => ?_)
              refine V2_aload_n (i := 0) d_Rows_keep_20 rfl rfl ?_
              refine V2_getr (a := 41) d_Rows_keep_21 fl_Rows_30 (by decide) rfl (by decide) rfl ?_
              refine V2_iload_n (i := 2) d_Rows_keep_24 rfl rfl ?_
              refine V2_iload_n (i := 2) d_Rows_keep_25 rfl rfl ?_
              refine V2_iload_n (i := 1) d_Rows_keep_26 rfl rfl ?_
              refine V2_icmp_gt (tgt := 39) d_Rows_keep_27 rfl (fun c => (by first | exact absurd c (by decide) | exact absurd (by decide) c)) (fun _ => ?_)
              refine V2_aload_n (i := 0) d_Rows_keep_30 rfl rfl ?_
              refine V2_getr (a := 40) d_Rows_keep_31 fl_Rows_26 (by decide) rfl (by decide) rfl ?_
              refine V2_iload_n (i := 2) d_Rows_keep_34 rfl rfl ?_
              refine V2_iaload (v := G 40 1) d_Rows_keep_35 (by decide) rfl (xixA (n := 1) rfl (by decide) (by decide)) rfl ?_
              refine V2_topi (fun v99 ev99 => ?_)
              refine V2_goto (tgt := 40) d_Rows_keep_36 rfl ?_
              refine V2_iastore (j := 1) d_Rows_keep_40 (by decide) rfl (xixA (n := 1) rfl (by decide) (by decide)) rfl ?_
              refine V2_iinc (i := 2) (v := 2) (l' := [some (.ref 36), some (.int (3 : Int32)), some (.int (2 : Int32))]) d_Rows_keep_41 rfl (by decide) (xst_i (Nat.le_of_ble_eq_true rfl) rfl rfl) ?_
              refine V2_goto (tgt := 2) d_Rows_keep_44 rfl ?_
              refine V2_iload_n (i := 2) d_Rows_keep_2 rfl rfl ?_
              refine V2_aload_n (i := 0) d_Rows_keep_3 rfl rfl ?_
              refine V2_getr (a := 40) d_Rows_keep_4 fl_Rows_26 (by decide) rfl (by decide) rfl ?_
              refine V2_alen (t := 0) (v := 4) d_Rows_keep_7 (by decide) rfl (by decide) rfl ?_
              refine V2_icmp_ge (tgt := 47) d_Rows_keep_8 rfl (fun c => (by first | exact absurd c (by decide) | exact absurd (by decide) c)) (fun _ => ?_)
              refine V2_iload_n (i := 2) d_Rows_keep_11 rfl rfl ?_
              refine V2_aload_n (i := 0) d_Rows_keep_12 rfl rfl ?_
              refine V2_getr (a := 41) d_Rows_keep_13 fl_Rows_30 (by decide) rfl (by decide) rfl ?_
              refine V2_alen (t := 0) (v := 4) d_Rows_keep_16 (by decide) rfl (by decide) rfl ?_
              refine V2_icmp_ge (tgt := 47) d_Rows_keep_17 rfl (fun c => (by first | exact absurd c (by decide) | exact absurd (by decide) c)) (fun _ => ?_)
              refine V2_aload_n (i := 0) d_Rows_keep_20 rfl rfl ?_
              refine V2_getr (a := 41) d_Rows_keep_21 fl_Rows_30 (by decide) rfl (by decide) rfl ?_
              refine V2_iload_n (i := 2) d_Rows_keep_24 rfl rfl ?_
              refine V2_iload_n (i := 2) d_Rows_keep_25 rfl rfl ?_
              refine V2_iload_n (i := 1) d_Rows_keep_26 rfl rfl ?_
              refine V2_icmp_gt (tgt := 39) d_Rows_keep_27 rfl (fun c => (by first | exact absurd c (by decide) | exact absurd (by decide) c)) (fun _ => ?_)
              refine V2_aload_n (i := 0) d_Rows_keep_30 rfl rfl ?_
              refine V2_getr (a := 40) d_Rows_keep_31 fl_Rows_26 (by decide) rfl (by decide) rfl ?_
              refine V2_iload_n (i := 2) d_Rows_keep_34 rfl rfl ?_
              refine V2_iaload (v := G 40 2) d_Rows_keep_35 (by decide) rfl (xixA (n := 2) rfl (by decide) (by decide)) rfl ?_
              refine V2_topi (fun v101 ev101 => ?_)
              refine V2_goto (tgt := 40) d_Rows_keep_36 rfl ?_
              refine V2_iastore (j := 2) d_Rows_keep_40 (by decide) rfl (xixA (n := 2) rfl (by decide) (by decide)) rfl ?_
              refine V2_iinc (i := 2) (v := 3) (l' := [some (.ref 36), some (.int (3 : Int32)), some (.int (3 : Int32))]) d_Rows_keep_41 rfl (by decide) (xst_i (Nat.le_of_ble_eq_true rfl) rfl rfl) ?_
              refine V2_goto (tgt := 2) d_Rows_keep_44 rfl ?_
              refine V2_iload_n (i := 2) d_Rows_keep_2 rfl rfl ?_
              refine V2_aload_n (i := 0) d_Rows_keep_3 rfl rfl ?_
              refine V2_getr (a := 40) d_Rows_keep_4 fl_Rows_26 (by decide) rfl (by decide) rfl ?_
              refine V2_alen (t := 0) (v := 4) d_Rows_keep_7 (by decide) rfl (by decide) rfl ?_
              refine V2_icmp_ge (tgt := 47) d_Rows_keep_8 rfl (fun c => (by first | exact absurd c (by decide) | exact absurd (by decide) c)) (fun _ => ?_)
              refine V2_iload_n (i := 2) d_Rows_keep_11 rfl rfl ?_
              refine V2_aload_n (i := 0) d_Rows_keep_12 rfl rfl ?_
              refine V2_getr (a := 41) d_Rows_keep_13 fl_Rows_30 (by decide) rfl (by decide) rfl ?_
              refine V2_alen (t := 0) (v := 4) d_Rows_keep_16 (by decide) rfl (by decide) rfl ?_
              refine V2_icmp_ge (tgt := 47) d_Rows_keep_17 rfl (fun c => (by first | exact absurd c (by decide) | exact absurd (by decide) c)) (fun _ => ?_)
              refine V2_aload_n (i := 0) d_Rows_keep_20 rfl rfl ?_
              refine V2_getr (a := 41) d_Rows_keep_21 fl_Rows_30 (by decide) rfl (by decide) rfl ?_
              refine V2_iload_n (i := 2) d_Rows_keep_24 rfl rfl ?_
              refine V2_iload_n (i := 2) d_Rows_keep_25 rfl rfl ?_
              refine V2_iload_n (i := 1) d_Rows_keep_26 rfl rfl ?_
              refine V2_icmp_gt (tgt := 39) d_Rows_keep_27 rfl (fun c => (by first | exact absurd c (by decide) | exact absurd (by decide) c)) (fun _ => ?_)
              refine V2_aload_n (i := 0) d_Rows_keep_30 rfl rfl ?_
              refine V2_getr (a := 40) d_Rows_keep_31 fl_Rows_26 (by decide) rfl (by decide) rfl ?_
              refine V2_iload_n (i := 2) d_Rows_keep_34 rfl rfl ?_
              refine V2_iaload (v := G 40 3) d_Rows_keep_35 (by decide) rfl (xixA (n := 3) rfl (by decide) (by decide)) rfl ?_
              refine V2_topi (fun v103 ev103 => ?_)
              refine V2_goto (tgt := 40) d_Rows_keep_36 rfl ?_
              refine V2_iastore (j := 3) d_Rows_keep_40 (by decide) rfl (xixA (n := 3) rfl (by decide) (by decide)) rfl ?_
              refine V2_iinc (i := 2) (v := 4) (l' := [some (.ref 36), some (.int (3 : Int32)), some (.int (4 : Int32))]) d_Rows_keep_41 rfl (by decide) (xst_i (Nat.le_of_ble_eq_true rfl) rfl rfl) ?_
              refine V2_goto (tgt := 2) d_Rows_keep_44 rfl ?_
              refine V2_iload_n (i := 2) d_Rows_keep_2 rfl rfl ?_
              refine V2_aload_n (i := 0) d_Rows_keep_3 rfl rfl ?_
              refine V2_getr (a := 40) d_Rows_keep_4 fl_Rows_26 (by decide) rfl (by decide) rfl ?_
              refine V2_alen (t := 0) (v := 4) d_Rows_keep_7 (by decide) rfl (by decide) rfl ?_
              refine V2_icmp_ge (tgt := 47) d_Rows_keep_8 rfl (fun _ => ?_) (fun c => (by first | exact absurd c (by decide) | exact absurd (by decide) c))
              refine V2_return d_Rows_keep_47 rfl ?_
              refine V2.to (st' := []) ?_ rfl rfl rfl rfl
              refine V2_iload_n (i := 3) d_Rows_canBeBetter_110 rfl rfl ?_
              refine V2_iconst (v := 1) d_Rows_canBeBetter_111 rfl ?_
              refine V2_iadd d_Rows_canBeBetter_112 ?_
              refine V2_lit (v := 5) (by decide) ?_
              refine V2_aload_n (i := 0) d_Rows_canBeBetter_113 rfl rfl ?_
              refine V2_get (v := (4 : Int32)) d_Rows_canBeBetter_114 fl_Rows_40 (by decide) rfl (by decide) rfl rfl ?_
              refine V2_icmp_ge (tgt := 124) d_Rows_canBeBetter_117 rfl (fun _ => ?_) (fun c => (by first | exact absurd c (by decide) | exact absurd (by decide) c))
              refine V2_iconst (v := 0) d_Rows_canBeBetter_124 rfl ?_
              refine V2_zreturn d_Rows_canBeBetter_125 rfl (by decide) ?_
              refine V2.to (st' := [.int (0 : Int32)]) ?_ rfl rfl rfl rfl
              refine V2_zreturn d_Rows_goesOn_52 rfl (by decide) ?_
              have hB1 : B ≤ n := hR.1
              have hf : (B = 0 ∧ (G 36 6).toInt = (n : Int) + 1) ∨ (0 < B ∧ (G 36 6).toInt = (B : Int)) := by
                rcases hR.2.1 with ⟨h1, h2⟩ | ⟨h1, h2⟩
                · exact Or.inl ⟨h1, by rw [h2, nI_toInt (by omega)]; omega⟩
                · exact Or.inr ⟨h1, by rw [h2, nI_toInt (by have := hR.1; omega)]⟩
              have hov : (bst.toInt = -1 ∧ B = 0 ∧ (G 36 7).toInt = -1000) ∨ (¬ bst.toInt = -1 ∧ (G 36 7).toInt = hi.toInt) := by
                rcases hR.2.2 with ⟨h1, h2, h3⟩ | ⟨h1, h3, _⟩
                · exact Or.inl ⟨h1, h2, by rw [h3]; decide⟩
                · exact Or.inr ⟨h1, by rw [h3]⟩
              have sA : (T 2 - T 0).toInt = (T 2).toInt - (T 0).toInt := toI_sub (by omega) (by omega) (by omega) (by omega)
              have e2 : G 46 2 = T 2 := hx.2.2.2.2.2.1.2.2.1
              have e0 : G 46 0 = T 0 := hx.2.2.2.2.2.1.1
              have el : G 36 5 = nI n := hx.2.2.1
              have sA2 : (G 46 2 - G 46 0).toInt = (T 2).toInt - (T 0).toInt := by rw [e2, e0]; exact sA
              have nl : (G 36 5).toInt = (n : Int) := by rw [el]; exact nI_toInt (by omega)
              have h5 : T 5 = 1 := by
                have h9 := c7
                subst ev103 ev101 ev99 ev97 ev95 ev85 ev84 ev74 ev64 ev35 ev6 ev5 ev4 ev3 ev1
                rw [hx.2.2.2.2.2.1.2.2.2.2.2.2.2] at h9
                exact hx.2.2.2.2.2.2.2.1.2.2.2.2.2.1.resolve_left h9
              exfalso
              exact (by (try clear hQ); (try subst ev103 ev101 ev99 ev97 ev95 ev85 ev84 ev74 ev64 ev35 ev6 ev5 ev4 ev3 ev1); ((try simp only [xb_eq, xb_ne, Int32.lt_iff_toInt_lt, Int32.le_iff_toInt_le] at *) <;> (try simp only [← Int32.toInt_inj, true_and, false_and, or_false, false_or, or_true, true_or, and_true, and_false] at *) <;> omega))
            · refine V2_iconst (v := 1) d_Rows_canBeBetter_72 rfl ?_
              refine V2_goto (tgt := 77) d_Rows_canBeBetter_73 rfl ?_
              refine V2_istore (i := 6) (l' := [some (.ref 36), some (.int (3 : Int32)), some (.ref 46), some (.int (4 : Int32)), some (.int v5), some (.int (1 : Int32)), some (.int (1 : Int32))]) d_Rows_canBeBetter_77 (xst_i (Nat.le_of_ble_eq_true rfl) rfl rfl) ?_
              refine V2_iload (i := 5) d_Rows_canBeBetter_79 rfl ?_
              refine V2_if_eq (tgt := 89) d_Rows_canBeBetter_81 rfl (fun c => (by first | exact absurd c (by decide) | exact absurd (by decide) c)) (fun _ => ?_)
              refine V2_aload_n (i := 0) d_Rows_canBeBetter_84 rfl rfl ?_
              refine V2_iload_n (i := 3) d_Rows_canBeBetter_85 rfl rfl ?_
              refine V2_put d_Rows_canBeBetter_86 fl_Rows_40 (by decide) rfl (by decide) rfl ?_
              refine V2_iload (i := 5) d_Rows_canBeBetter_89 rfl ?_
              refine V2_if_ne (tgt := 99) d_Rows_canBeBetter_91 rfl (fun _ => ?_) (fun c => (by first | exact absurd c (by decide) | exact absurd (by decide) c))
              refine V2_aload_n (i := 0) d_Rows_canBeBetter_99 rfl rfl ?_
              refine V2_iload (i := 4) d_Rows_canBeBetter_100 rfl ?_
              refine V2_put d_Rows_canBeBetter_102 fl_Rows_43 (by decide) rfl (by decide) rfl ?_
              refine V2_aload_n (i := 0) d_Rows_canBeBetter_105 rfl rfl ?_
              refine V2_iload_n (i := 1) d_Rows_canBeBetter_106 rfl rfl ?_
              refine V2_callV [.int (3 : Int32)] d_Rows_canBeBetter_107 rfl rfl lk_Rows_132 mo_Rows_keep (by decide) rfl rfl rfl (Nat.le_of_ble_eq_true rfl) (Nat.le_of_ble_eq_true rfl) ?_
              refine V2.to (l' := [some (.ref 36), some (.int (3 : Int32)), none]) ?_ rfl rfl rfl rfl
              refine V2_iconst (v := 0) d_Rows_keep_0 rfl ?_
              refine V2_istore_n (i := 2) (l' := [some (.ref 36), some (.int (3 : Int32)), some (.int (0 : Int32))]) d_Rows_keep_1 rfl (xst_i (Nat.le_of_ble_eq_true rfl) rfl rfl) ?_
              refine V2_iload_n (i := 2) d_Rows_keep_2 rfl rfl ?_
              refine V2_aload_n (i := 0) d_Rows_keep_3 rfl rfl ?_
              refine V2_getr (a := 40) d_Rows_keep_4 fl_Rows_26 (by decide) rfl (by decide) rfl ?_
              refine V2_alen (t := 0) (v := 4) d_Rows_keep_7 (by decide) rfl (by decide) rfl ?_
              refine V2_icmp_ge (tgt := 47) d_Rows_keep_8 rfl (fun c => (by first | exact absurd c (by decide) | exact absurd (by decide) c)) (fun _ => ?_)
              refine V2_iload_n (i := 2) d_Rows_keep_11 rfl rfl ?_
              refine V2_aload_n (i := 0) d_Rows_keep_12 rfl rfl ?_
              refine V2_getr (a := 41) d_Rows_keep_13 fl_Rows_30 (by decide) rfl (by decide) rfl ?_
              refine V2_alen (t := 0) (v := 4) d_Rows_keep_16 (by decide) rfl (by decide) rfl ?_
              refine V2_icmp_ge (tgt := 47) d_Rows_keep_17 rfl (fun c => (by first | exact absurd c (by decide) | exact absurd (by decide) c)) (fun _ => ?_)
              refine V2_aload_n (i := 0) d_Rows_keep_20 rfl rfl ?_
              refine V2_getr (a := 41) d_Rows_keep_21 fl_Rows_30 (by decide) rfl (by decide) rfl ?_
              refine V2_iload_n (i := 2) d_Rows_keep_24 rfl rfl ?_
              refine V2_iload_n (i := 2) d_Rows_keep_25 rfl rfl ?_
              refine V2_iload_n (i := 1) d_Rows_keep_26 rfl rfl ?_
              refine V2_icmp_gt (tgt := 39) d_Rows_keep_27 rfl (fun c => (by first | exact absurd c (by decide) | exact absurd (by decide) c)) (fun _ => ?_)
              refine V2_aload_n (i := 0) d_Rows_keep_30 rfl rfl ?_
              refine V2_getr (a := 40) d_Rows_keep_31 fl_Rows_26 (by decide) rfl (by decide) rfl ?_
              refine V2_iload_n (i := 2) d_Rows_keep_34 rfl rfl ?_
              refine V2_iaload (v := G 40 0) d_Rows_keep_35 (by decide) rfl (xixA (n := 0) rfl (by decide) (by decide)) rfl ?_
              refine V2_topi (fun v105 ev105 => ?_)
              refine V2_goto (tgt := 40) d_Rows_keep_36 rfl ?_
              refine V2_iastore (j := 0) d_Rows_keep_40 (by decide) rfl (xixA (n := 0) rfl (by decide) (by decide)) rfl ?_
              refine V2_iinc (i := 2) (v := 1) (l' := [some (.ref 36), some (.int (3 : Int32)), some (.int (1 : Int32))]) d_Rows_keep_41 rfl (by decide) (xst_i (Nat.le_of_ble_eq_true rfl) rfl rfl) ?_
              refine V2_goto (tgt := 2) d_Rows_keep_44 rfl ?_
              refine V2_iload_n (i := 2) d_Rows_keep_2 rfl rfl ?_
              refine V2_aload_n (i := 0) d_Rows_keep_3 rfl rfl ?_
              refine V2_getr (a := 40) d_Rows_keep_4 fl_Rows_26 (by decide) rfl (by decide) rfl ?_
              refine V2_alen (t := 0) (v := 4) d_Rows_keep_7 (by decide) rfl (by decide) rfl ?_
              refine V2_icmp_ge (tgt := 47) d_Rows_keep_8 rfl (fun c => (by first | exact absurd c (by decide) | exact absurd (by decide) c)) (fun _ => ?_)
              refine V2_iload_n (i := 2) d_Rows_keep_11 rfl rfl ?_
              refine V2_aload_n (i := 0) d_Rows_keep_12 rfl rfl ?_
              refine V2_getr (a := 41) d_Rows_keep_13 fl_Rows_30 (by decide) rfl (by decide) rfl ?_
              refine V2_alen (t := 0) (v := 4) d_Rows_keep_16 (by decide) rfl (by decide) rfl ?_
              refine V2_icmp_ge (tgt := 47) d_Rows_keep_17 rfl (fun c => (by first | exact absurd c (by decide) | exact absurd (by decide) c)) (fun _ => ?_)
              refine V2_aload_n (i := 0) d_Rows_keep_20 rfl rfl ?_
              refine V2_getr (a := 41) d_Rows_keep_21 fl_Rows_30 (by decide) rfl (by decide) rfl ?_
              refine V2_iload_n (i := 2) d_Rows_keep_24 rfl rfl ?_
              refine V2_iload_n (i := 2) d_Rows_keep_25 rfl rfl ?_
              refine V2_iload_n (i := 1) d_Rows_keep_26 rfl rfl ?_
              refine V2_icmp_gt (tgt := 39) d_Rows_keep_27 rfl (fun c => (by first | exact absurd c (by decide) | exact absurd (by decide) c)) (fun _ => ?_)
              refine V2_aload_n (i := 0) d_Rows_keep_30 rfl rfl ?_
              refine V2_getr (a := 40) d_Rows_keep_31 fl_Rows_26 (by decide) rfl (by decide) rfl ?_
              refine V2_iload_n (i := 2) d_Rows_keep_34 rfl rfl ?_
              refine V2_iaload (v := G 40 1) d_Rows_keep_35 (by decide) rfl (xixA (n := 1) rfl (by decide) (by decide)) rfl ?_
              refine V2_topi (fun v107 ev107 => ?_)
              refine V2_goto (tgt := 40) d_Rows_keep_36 rfl ?_
              refine V2_iastore (j := 1) d_Rows_keep_40 (by decide) rfl (xixA (n := 1) rfl (by decide) (by decide)) rfl ?_
              refine V2_iinc (i := 2) (v := 2) (l' := [some (.ref 36), some (.int (3 : Int32)), some (.int (2 : Int32))]) d_Rows_keep_41 rfl (by decide) (xst_i (Nat.le_of_ble_eq_true rfl) rfl rfl) ?_
              refine V2_goto (tgt := 2) d_Rows_keep_44 rfl ?_
              refine V2_iload_n (i := 2) d_Rows_keep_2 rfl rfl ?_
              refine V2_aload_n (i := 0) d_Rows_keep_3 rfl rfl ?_
              refine V2_getr (a := 40) d_Rows_keep_4 fl_Rows_26 (by decide) rfl (by decide) rfl ?_
              refine V2_alen (t := 0) (v := 4) d_Rows_keep_7 (by decide) rfl (by decide) rfl ?_
              refine V2_icmp_ge (tgt := 47) d_Rows_keep_8 rfl (fun c => (by first | exact absurd c (by decide) | exact absurd (by decide) c)) (fun _ => ?_)
              refine V2_iload_n (i := 2) d_Rows_keep_11 rfl rfl ?_
              refine V2_aload_n (i := 0) d_Rows_keep_12 rfl rfl ?_
              refine V2_getr (a := 41) d_Rows_keep_13 fl_Rows_30 (by decide) rfl (by decide) rfl ?_
              refine V2_alen (t := 0) (v := 4) d_Rows_keep_16 (by decide) rfl (by decide) rfl ?_
              refine V2_icmp_ge (tgt := 47) d_Rows_keep_17 rfl (fun c => (by first | exact absurd c (by decide) | exact absurd (by decide) c)) (fun _ => ?_)
              refine V2_aload_n (i := 0) d_Rows_keep_20 rfl rfl ?_
              refine V2_getr (a := 41) d_Rows_keep_21 fl_Rows_30 (by decide) rfl (by decide) rfl ?_
              refine V2_iload_n (i := 2) d_Rows_keep_24 rfl rfl ?_
              refine V2_iload_n (i := 2) d_Rows_keep_25 rfl rfl ?_
              refine V2_iload_n (i := 1) d_Rows_keep_26 rfl rfl ?_
              refine V2_icmp_gt (tgt := 39) d_Rows_keep_27 rfl (fun c => (by first | exact absurd c (by decide) | exact absurd (by decide) c)) (fun _ => ?_)
              refine V2_aload_n (i := 0) d_Rows_keep_30 rfl rfl ?_
              refine V2_getr (a := 40) d_Rows_keep_31 fl_Rows_26 (by decide) rfl (by decide) rfl ?_
              refine V2_iload_n (i := 2) d_Rows_keep_34 rfl rfl ?_
              refine V2_iaload (v := G 40 2) d_Rows_keep_35 (by decide) rfl (xixA (n := 2) rfl (by decide) (by decide)) rfl ?_
              refine V2_topi (fun v109 ev109 => ?_)
              refine V2_goto (tgt := 40) d_Rows_keep_36 rfl ?_
              refine V2_iastore (j := 2) d_Rows_keep_40 (by decide) rfl (xixA (n := 2) rfl (by decide) (by decide)) rfl ?_
              refine V2_iinc (i := 2) (v := 3) (l' := [some (.ref 36), some (.int (3 : Int32)), some (.int (3 : Int32))]) d_Rows_keep_41 rfl (by decide) (xst_i (Nat.le_of_ble_eq_true rfl) rfl rfl) ?_
              refine V2_goto (tgt := 2) d_Rows_keep_44 rfl ?_
              refine V2_iload_n (i := 2) d_Rows_keep_2 rfl rfl ?_
              refine V2_aload_n (i := 0) d_Rows_keep_3 rfl rfl ?_
              refine V2_getr (a := 40) d_Rows_keep_4 fl_Rows_26 (by decide) rfl (by decide) rfl ?_
              refine V2_alen (t := 0) (v := 4) d_Rows_keep_7 (by decide) rfl (by decide) rfl ?_
              refine V2_icmp_ge (tgt := 47) d_Rows_keep_8 rfl (fun c => (by first | exact absurd c (by decide) | exact absurd (by decide) c)) (fun _ => ?_)
              refine V2_iload_n (i := 2) d_Rows_keep_11 rfl rfl ?_
              refine V2_aload_n (i := 0) d_Rows_keep_12 rfl rfl ?_
              refine V2_getr (a := 41) d_Rows_keep_13 fl_Rows_30 (by decide) rfl (by decide) rfl ?_
              refine V2_alen (t := 0) (v := 4) d_Rows_keep_16 (by decide) rfl (by decide) rfl ?_
              refine V2_icmp_ge (tgt := 47) d_Rows_keep_17 rfl (fun c => (by first | exact absurd c (by decide) | exact absurd (by decide) c)) (fun _ => ?_)
              refine V2_aload_n (i := 0) d_Rows_keep_20 rfl rfl ?_
              refine V2_getr (a := 41) d_Rows_keep_21 fl_Rows_30 (by decide) rfl (by decide) rfl ?_
              refine V2_iload_n (i := 2) d_Rows_keep_24 rfl rfl ?_
              refine V2_iload_n (i := 2) d_Rows_keep_25 rfl rfl ?_
              refine V2_iload_n (i := 1) d_Rows_keep_26 rfl rfl ?_
              refine V2_icmp_gt (tgt := 39) d_Rows_keep_27 rfl (fun c => (by first | exact absurd c (by decide) | exact absurd (by decide) c)) (fun _ => ?_)
              refine V2_aload_n (i := 0) d_Rows_keep_30 rfl rfl ?_
              refine V2_getr (a := 40) d_Rows_keep_31 fl_Rows_26 (by decide) rfl (by decide) rfl ?_
              refine V2_iload_n (i := 2) d_Rows_keep_34 rfl rfl ?_
              refine V2_iaload (v := G 40 3) d_Rows_keep_35 (by decide) rfl (xixA (n := 3) rfl (by decide) (by decide)) rfl ?_
              refine V2_topi (fun v111 ev111 => ?_)
              refine V2_goto (tgt := 40) d_Rows_keep_36 rfl ?_
              refine V2_iastore (j := 3) d_Rows_keep_40 (by decide) rfl (xixA (n := 3) rfl (by decide) (by decide)) rfl ?_
              refine V2_iinc (i := 2) (v := 4) (l' := [some (.ref 36), some (.int (3 : Int32)), some (.int (4 : Int32))]) d_Rows_keep_41 rfl (by decide) (xst_i (Nat.le_of_ble_eq_true rfl) rfl rfl) ?_
              refine V2_goto (tgt := 2) d_Rows_keep_44 rfl ?_
              refine V2_iload_n (i := 2) d_Rows_keep_2 rfl rfl ?_
              refine V2_aload_n (i := 0) d_Rows_keep_3 rfl rfl ?_
              refine V2_getr (a := 40) d_Rows_keep_4 fl_Rows_26 (by decide) rfl (by decide) rfl ?_
              refine V2_alen (t := 0) (v := 4) d_Rows_keep_7 (by decide) rfl (by decide) rfl ?_
              refine V2_icmp_ge (tgt := 47) d_Rows_keep_8 rfl (fun _ => ?_) (fun c => (by first | exact absurd c (by decide) | exact absurd (by decide) c))
              refine V2_return d_Rows_keep_47 rfl ?_
              refine V2.to (st' := []) ?_ rfl rfl rfl rfl
              refine V2_iload_n (i := 3) d_Rows_canBeBetter_110 rfl rfl ?_
              refine V2_iconst (v := 1) d_Rows_canBeBetter_111 rfl ?_
              refine V2_iadd d_Rows_canBeBetter_112 ?_
              refine V2_lit (v := 5) (by decide) ?_
              refine V2_aload_n (i := 0) d_Rows_canBeBetter_113 rfl rfl ?_
              refine V2_get (v := (4 : Int32)) d_Rows_canBeBetter_114 fl_Rows_40 (by decide) rfl (by decide) rfl rfl ?_
              refine V2_icmp_ge (tgt := 124) d_Rows_canBeBetter_117 rfl (fun _ => ?_) (fun c => (by first | exact absurd c (by decide) | exact absurd (by decide) c))
              refine V2_iconst (v := 0) d_Rows_canBeBetter_124 rfl ?_
              refine V2_zreturn d_Rows_canBeBetter_125 rfl (by decide) ?_
              refine V2.to (st' := [.int (0 : Int32)]) ?_ rfl rfl rfl rfl
              refine V2_zreturn d_Rows_goesOn_52 rfl (by decide) ?_
              have hB1 : B ≤ n := hR.1
              have hf : (B = 0 ∧ (G 36 6).toInt = (n : Int) + 1) ∨ (0 < B ∧ (G 36 6).toInt = (B : Int)) := by
                rcases hR.2.1 with ⟨h1, h2⟩ | ⟨h1, h2⟩
                · exact Or.inl ⟨h1, by rw [h2, nI_toInt (by omega)]; omega⟩
                · exact Or.inr ⟨h1, by rw [h2, nI_toInt (by have := hR.1; omega)]⟩
              have hov : (bst.toInt = -1 ∧ B = 0 ∧ (G 36 7).toInt = -1000) ∨ (¬ bst.toInt = -1 ∧ (G 36 7).toInt = hi.toInt) := by
                rcases hR.2.2 with ⟨h1, h2, h3⟩ | ⟨h1, h3, _⟩
                · exact Or.inl ⟨h1, h2, by rw [h3]; decide⟩
                · exact Or.inr ⟨h1, by rw [h3]⟩
              have sA : (T 2 - T 0).toInt = (T 2).toInt - (T 0).toInt := toI_sub (by omega) (by omega) (by omega) (by omega)
              have e2 : G 46 2 = T 2 := hx.2.2.2.2.2.1.2.2.1
              have e0 : G 46 0 = T 0 := hx.2.2.2.2.2.1.1
              have el : G 36 5 = nI n := hx.2.2.1
              have sA2 : (G 46 2 - G 46 0).toInt = (T 2).toInt - (T 0).toInt := by rw [e2, e0]; exact sA
              have nl : (G 36 5).toInt = (n : Int) := by rw [el]; exact nI_toInt (by omega)
              have h5 : T 5 = 1 := by
                have h9 := c7
                subst ev111 ev109 ev107 ev105 ev95 ev85 ev84 ev74 ev64 ev35 ev6 ev5 ev4 ev3 ev1
                rw [hx.2.2.2.2.2.1.2.2.2.2.2.2.2] at h9
                exact hx.2.2.2.2.2.2.2.1.2.2.2.2.2.1.resolve_left h9
              exfalso
              exact (by (try clear hQ); (try subst ev111 ev109 ev107 ev105 ev95 ev85 ev84 ev74 ev64 ev35 ev6 ev5 ev4 ev3 ev1); ((try simp only [xb_eq, xb_ne, Int32.lt_iff_toInt_lt, Int32.le_iff_toInt_le] at *) <;> (try simp only [← Int32.toInt_inj, true_and, false_and, or_false, false_or, or_true, true_or, and_true, and_false] at *) <;> omega))
theorem vis_plan {L : Nat} {xs : Nat → Int32} {F : xF} {S : Nat → Int32} {n : Nat} (hn : n ≤ 4) : visV L xs F S 0 n (procP n S) (planR n) (fun _ _ _ => True) (fun _ _ _ => True) (fun _ _ => True) := by
  intro d Q G T pre l s hl hx hj hB hR hQ
  obtain ⟨bst, B, hi⟩ := s
  rcases (show l = 0 ∨ l = 1 ∨ l = 2 ∨ l = 3 by omega) with h | h | h | h <;> subst h
  · exact c_visP_0 hn hl hx hR hQ
  · exact c_visP_1 hn hl hx hR hQ
  · exact c_visP_2 hn hl hx hR hQ
  · exact c_visP_3 hn hl hx hR hQ
set_option maxHeartbeats 2000000 in
theorem c_cls_plan {L : Nat} {xs : Nat → Int32} {d : Nat} {Q : Option Value → xF → Prop} {F : xF} {n w : Int32} (hR : Rel F) (hQ : ∀ F1, Mid F F1 (k_plan F n w).2 → Q (some (.int (k_plan F n w).1)) F1) : V2 L xs (d + 30) m_P_plan 0 (xEntry [.ref 0, .int n, .int w] 3) [] F Q := by
  have q0 : (0 : Int32).toInt = 0 := by decide
  have q1 : (1 : Int32).toInt = 1 := by decide
  have q2 : (2 : Int32).toInt = 2 := by decide
  have q3 : (3 : Int32).toInt = 3 := by decide
  have q4 : (4 : Int32).toInt = 4 := by decide
  have q5 : (5 : Int32).toInt = 5 := by decide
  have q6 : (6 : Int32).toInt = 6 := by decide
  have q7 : (7 : Int32).toInt = 7 := by decide
  have q8 : (8 : Int32).toInt = 8 := by decide
  have q9 : (9 : Int32).toInt = 9 := by decide
  have q10 : (10 : Int32).toInt = 10 := by decide
  have q12 : (12 : Int32).toInt = 12 := by decide
  have q16 : (16 : Int32).toInt = 16 := by decide
  have q20 : (20 : Int32).toInt = 20 := by decide
  have q24 : (24 : Int32).toInt = 24 := by decide
  have q30 : (30 : Int32).toInt = 30 := by decide
  have q32 : (32 : Int32).toInt = 32 := by decide
  have q40 : (40 : Int32).toInt = 40 := by decide
  have q60 : (60 : Int32).toInt = 60 := by decide
  have q69 : (69 : Int32).toInt = 69 := by decide
  have q99 : (99 : Int32).toInt = 99 := by decide
  have q9999 : (9999 : Int32).toInt = 9999 := by decide
  have q274 : (274 : Int32).toInt = 274 := by decide
  have q334 : (334 : Int32).toInt = 334 := by decide
  have cz7 : F 2 7 = F 66 5 := hR.1.1.1.2.2.2.2.2.2.2
  have s5 : F 66 5 = 0 ∨ F 66 5 = 1 := hR.2.1.1.2.2.2.2.2.1
  have sn1 : 1 ≤ n.toInt → n.toInt ≤ 4 → (n - 1).toInt = n.toInt - 1 := fun a b => toI_sub (by omega) (by omega) (by decide) (by decide)
  have qm1 : (-1 : Int32).toInt = -1 := by decide
  have qm2 : (-2 : Int32).toInt = -2 := by decide
  refine V2.to (l' := [some (.ref 0), some (.int n), some (.int w)]) ?_ rfl rfl rfl rfl
  refine V2_iload_n (i := 1) d_P_plan_0 rfl rfl ?_
  refine V2_iconst (v := 1) d_P_plan_1 rfl ?_
  refine V2_iconst (v := 4) d_P_plan_2 rfl ?_
  refine V2_callS [.int n, .int (1 : Int32), .int (4 : Int32)] d_P_plan_3 rfl rfl lk_P_133 mo_P_within (Nat.le_of_ble_eq_true rfl) (Nat.le_of_ble_eq_true rfl) ?_
  refine V2.to (l' := [some (.int n), some (.int (1 : Int32)), some (.int (4 : Int32))]) ?_ rfl rfl rfl rfl
  refine V2_iload_n (i := 0) d_P_within_0 rfl rfl ?_
  refine V2_iload_n (i := 1) d_P_within_1 rfl rfl ?_
  refine V2_icmp_lt (tgt := 14) d_P_within_2 rfl (fun c1 => ?_) (fun c1 => ?_)
  · refine V2_iconst (v := 0) d_P_within_14 rfl ?_
    refine V2_zreturn d_P_within_15 rfl (by decide) ?_
    refine V2.to (st' := [.int (0 : Int32)]) ?_ rfl rfl rfl rfl
    refine V2_if_eq (tgt := 21) d_P_plan_6 rfl (fun _ => ?_) (fun c => (by first | exact absurd c (by decide) | exact absurd (by decide) c))
    refine V2_aload_n (i := 0) d_P_plan_21 rfl rfl ?_
    refine V2_iconst (v := 1) d_P_plan_22 rfl ?_
    refine V2_callV [.int (1 : Int32)] d_P_plan_23 rfl rfl lk_P_66 mo_P_fails (by decide) rfl rfl rfl (Nat.le_of_ble_eq_true rfl) (Nat.le_of_ble_eq_true rfl) ?_
    refine c_P_fails1 ?_
    refine V2_topi (fun v2 ev2 => ?_)
    refine V2_ireturn d_P_plan_26 rfl ?_
    have hb0 : ¬ ((1 ≤ n.toInt ∧ n.toInt ≤ 4) ∧ -2 ≤ w.toInt ∧ w.toInt ≤ n.toInt - 1) := (by (try clear hQ); (try subst ev2); ((try simp only [xb_eq, xb_ne, Int32.lt_iff_toInt_lt, Int32.le_iff_toInt_le] at *) <;> (try simp only [← Int32.toInt_inj, true_and, false_and, or_false, false_or, or_true, true_or, and_true, and_false] at *) <;> omega))
    have e : k_plan F n w = (-1000000000 - 1, errF F 1) := if_neg hb0
    rw [e] at hQ
    subst ev2
    exact xQi (hQ _ (mid_err hR (by decide))) rfl rfl
  · refine V2_iload_n (i := 0) d_P_within_5 rfl rfl ?_
    refine V2_iload_n (i := 2) d_P_within_6 rfl rfl ?_
    refine V2_icmp_gt (tgt := 14) d_P_within_7 rfl (fun c3 => ?_) (fun c3 => ?_)
    · refine V2_iconst (v := 0) d_P_within_14 rfl ?_
      refine V2_zreturn d_P_within_15 rfl (by decide) ?_
      refine V2.to (st' := [.int (0 : Int32)]) ?_ rfl rfl rfl rfl
      refine V2_if_eq (tgt := 21) d_P_plan_6 rfl (fun _ => ?_) (fun c => (by first | exact absurd c (by decide) | exact absurd (by decide) c))
      refine V2_aload_n (i := 0) d_P_plan_21 rfl rfl ?_
      refine V2_iconst (v := 1) d_P_plan_22 rfl ?_
      refine V2_callV [.int (1 : Int32)] d_P_plan_23 rfl rfl lk_P_66 mo_P_fails (by decide) rfl rfl rfl (Nat.le_of_ble_eq_true rfl) (Nat.le_of_ble_eq_true rfl) ?_
      refine c_P_fails1 ?_
      refine V2_topi (fun v4 ev4 => ?_)
      refine V2_ireturn d_P_plan_26 rfl ?_
      have hb0 : ¬ ((1 ≤ n.toInt ∧ n.toInt ≤ 4) ∧ -2 ≤ w.toInt ∧ w.toInt ≤ n.toInt - 1) := (by (try clear hQ); (try subst ev4); ((try simp only [xb_eq, xb_ne, Int32.lt_iff_toInt_lt, Int32.le_iff_toInt_le] at *) <;> (try simp only [← Int32.toInt_inj, true_and, false_and, or_false, false_or, or_true, true_or, and_true, and_false] at *) <;> omega))
      have e : k_plan F n w = (-1000000000 - 1, errF F 1) := if_neg hb0
      rw [e] at hQ
      subst ev4
      exact xQi (hQ _ (mid_err hR (by decide))) rfl rfl
    · refine V2_iconst (v := 1) d_P_within_10 rfl ?_
      refine V2_goto (tgt := 15) d_P_within_11 rfl ?_
      refine V2_zreturn d_P_within_15 rfl (by decide) ?_
      refine V2.to (st' := [.int (1 : Int32)]) ?_ rfl rfl rfl rfl
      refine V2_if_eq (tgt := 21) d_P_plan_6 rfl (fun c => (by first | exact absurd c (by decide) | exact absurd (by decide) c)) (fun _ => ?_)
      refine V2_iload_n (i := 2) d_P_plan_9 rfl rfl ?_
      refine V2_bipush (v := -2) d_P_plan_10 rfl ?_
      refine V2_iload_n (i := 1) d_P_plan_12 rfl rfl ?_
      refine V2_iconst (v := 1) d_P_plan_13 rfl ?_
      refine V2_isub d_P_plan_14 ?_
      refine V2_topi (fun v5 ev5 => ?_)
      refine V2_callS [.int w, .int (-2 : Int32), .int v5] d_P_plan_15 rfl rfl lk_P_133 mo_P_within (Nat.le_of_ble_eq_true rfl) (Nat.le_of_ble_eq_true rfl) ?_
      refine V2.to (l' := [some (.int w), some (.int (-2 : Int32)), some (.int v5)]) ?_ rfl rfl rfl rfl
      refine V2_iload_n (i := 0) d_P_within_0 rfl rfl ?_
      refine V2_iload_n (i := 1) d_P_within_1 rfl rfl ?_
      refine V2_icmp_lt (tgt := 14) d_P_within_2 rfl (fun c6 => ?_) (fun c6 => ?_)
      · refine V2_iconst (v := 0) d_P_within_14 rfl ?_
        refine V2_zreturn d_P_within_15 rfl (by decide) ?_
        refine V2.to (st' := [.int (0 : Int32)]) ?_ rfl rfl rfl rfl
        refine V2_if_ne (tgt := 27) d_P_plan_18 rfl (fun c => (by first | exact absurd c (by decide) | exact absurd (by decide) c)) (fun _ => ?_)
        refine V2_aload_n (i := 0) d_P_plan_21 rfl rfl ?_
        refine V2_iconst (v := 1) d_P_plan_22 rfl ?_
        refine V2_callV [.int (1 : Int32)] d_P_plan_23 rfl rfl lk_P_66 mo_P_fails (by decide) rfl rfl rfl (Nat.le_of_ble_eq_true rfl) (Nat.le_of_ble_eq_true rfl) ?_
        refine c_P_fails1 ?_
        refine V2_topi (fun v7 ev7 => ?_)
        refine V2_ireturn d_P_plan_26 rfl ?_
        have hb0 : ¬ ((1 ≤ n.toInt ∧ n.toInt ≤ 4) ∧ -2 ≤ w.toInt ∧ w.toInt ≤ n.toInt - 1) := (by (try clear hQ); (try subst ev7 ev5); ((try simp only [xb_eq, xb_ne, Int32.lt_iff_toInt_lt, Int32.le_iff_toInt_le] at *) <;> (try simp only [← Int32.toInt_inj, true_and, false_and, or_false, false_or, or_true, true_or, and_true, and_false] at *) <;> omega))
        have e : k_plan F n w = (-1000000000 - 1, errF F 1) := if_neg hb0
        rw [e] at hQ
        subst ev7 ev5
        exact xQi (hQ _ (mid_err hR (by decide))) rfl rfl
      · refine V2_iload_n (i := 0) d_P_within_5 rfl rfl ?_
        refine V2_iload_n (i := 2) d_P_within_6 rfl rfl ?_
        refine V2_icmp_gt (tgt := 14) d_P_within_7 rfl (fun c8 => ?_) (fun c8 => ?_)
        · refine V2_iconst (v := 0) d_P_within_14 rfl ?_
          refine V2_zreturn d_P_within_15 rfl (by decide) ?_
          refine V2.to (st' := [.int (0 : Int32)]) ?_ rfl rfl rfl rfl
          refine V2_if_ne (tgt := 27) d_P_plan_18 rfl (fun c => (by first | exact absurd c (by decide) | exact absurd (by decide) c)) (fun _ => ?_)
          refine V2_aload_n (i := 0) d_P_plan_21 rfl rfl ?_
          refine V2_iconst (v := 1) d_P_plan_22 rfl ?_
          refine V2_callV [.int (1 : Int32)] d_P_plan_23 rfl rfl lk_P_66 mo_P_fails (by decide) rfl rfl rfl (Nat.le_of_ble_eq_true rfl) (Nat.le_of_ble_eq_true rfl) ?_
          refine c_P_fails1 ?_
          refine V2_topi (fun v9 ev9 => ?_)
          refine V2_ireturn d_P_plan_26 rfl ?_
          have hb0 : ¬ ((1 ≤ n.toInt ∧ n.toInt ≤ 4) ∧ -2 ≤ w.toInt ∧ w.toInt ≤ n.toInt - 1) := (by (try clear hQ); (try subst ev9 ev5); ((try simp only [xb_eq, xb_ne, Int32.lt_iff_toInt_lt, Int32.le_iff_toInt_le] at *) <;> (try simp only [← Int32.toInt_inj, true_and, false_and, or_false, false_or, or_true, true_or, and_true, and_false] at *) <;> omega))
          have e : k_plan F n w = (-1000000000 - 1, errF F 1) := if_neg hb0
          rw [e] at hQ
          subst ev9 ev5
          exact xQi (hQ _ (mid_err hR (by decide))) rfl rfl
        · refine V2_iconst (v := 1) d_P_within_10 rfl ?_
          refine V2_goto (tgt := 15) d_P_within_11 rfl ?_
          refine V2_zreturn d_P_within_15 rfl (by decide) ?_
          refine V2.to (st' := [.int (1 : Int32)]) ?_ rfl rfl rfl rfl
          refine V2_if_ne (tgt := 27) d_P_plan_18 rfl (fun _ => ?_) (fun c => (by first | exact absurd c (by decide) | exact absurd (by decide) c))
          obtain ⟨p, hp, epp⟩ := in_of (x := n) (P := 5) (by (try clear hQ); (try subst ev5); ((try simp only [xb_eq, xb_ne, Int32.lt_iff_toInt_lt, Int32.le_iff_toInt_le] at *) <;> (try simp only [← Int32.toInt_inj, true_and, false_and, or_false, false_or, or_true, true_or, and_true, and_false] at *) <;> omega)) (by (try clear hQ); (try subst ev5); ((try simp only [xb_eq, xb_ne, Int32.lt_iff_toInt_lt, Int32.le_iff_toInt_le] at *) <;> (try simp only [← Int32.toInt_inj, true_and, false_and, or_false, false_or, or_true, true_or, and_true, and_false] at *) <;> omega)) (by omega)
          subst epp
          have np : (nI p).toInt = (p : Int) := nI_toInt (by omega)
          have kp : (nI p).toNatClampNeg = p := nI_clamp (by omega)
          have hp1 : 1 ≤ p := (by (try clear hQ); (try subst ev5); ((try simp only [xb_eq, xb_ne, Int32.lt_iff_toInt_lt, Int32.le_iff_toInt_le] at *) <;> (try simp only [← Int32.toInt_inj, true_and, false_and, or_false, false_or, or_true, true_or, and_true, and_false] at *) <;> omega))
          have hp4 := pow4 (n := p) (by omega)
          refine V2_aload_n (i := 0) d_P_plan_27 rfl rfl ?_
          refine V2_getr (a := 1) d_P_plan_28 fl_P_10 (by decide) rfl (by decide) rfl ?_
          refine V2_getr (a := 2) d_P_plan_31 fl_P_93 (by decide) rfl (by decide) rfl ?_
          refine V2_get (v := F 2 7) d_P_plan_34 fl_P_237 (by decide) rfl (by decide) rfl rfl ?_
          refine V2_topi (fun v10 ev10 => ?_)
          refine V2_if_eq (tgt := 46) d_P_plan_37 rfl (fun c11 => ?_) (fun c11 => ?_)
          · have s9 : ¬ (F 66 5).toInt = 1 := (by (try clear hQ); (try subst ev10 ev5); ((try simp only [xb_eq, xb_ne, Int32.lt_iff_toInt_lt, Int32.le_iff_toInt_le] at *) <;> (try simp only [← Int32.toInt_inj, true_and, false_and, or_false, false_or, or_true, true_or, and_true, and_false] at *) <;> omega))
            refine V2_aload_n (i := 0) d_P_plan_46 rfl rfl ?_
            refine V2_getr (a := 36) d_P_plan_47 fl_P_29 (by decide) rfl (by decide) rfl ?_
            refine V2_aload_n (i := 0) d_P_plan_50 rfl rfl ?_
            refine V2_getr (a := 1) d_P_plan_51 fl_P_10 (by decide) rfl (by decide) rfl ?_
            refine V2_iload_n (i := 1) d_P_plan_54 rfl rfl ?_
            refine V2_callV [.ref 1, .int (nI p)] d_P_plan_55 rfl rfl lk_P_241 mo_Rows_seekBest (by decide) rfl rfl rfl (Nat.le_of_ble_eq_true rfl) (Nat.le_of_ble_eq_true rfl) ?_
            refine V2.to (l' := [some (.ref 36), some (.ref 1), some (.int (nI p))]) ?_ rfl rfl rfl rfl
            refine V2_aload_n (i := 0) d_Rows_seekBest_0 rfl rfl ?_
            refine V2_iload_n (i := 2) d_Rows_seekBest_1 rfl rfl ?_
            refine V2_iconst (v := 1) d_Rows_seekBest_2 rfl ?_
            refine V2_iadd d_Rows_seekBest_3 ?_
            refine V2_topi (fun v12 ev12 => ?_)
            refine V2_put d_Rows_seekBest_4 fl_Rows_40 (by decide) rfl (by decide) rfl ?_
            refine V2_aload_n (i := 0) d_Rows_seekBest_7 rfl rfl ?_
            refine V2_sipush (v := -1000) d_Rows_seekBest_8 rfl ?_
            refine V2_put d_Rows_seekBest_11 fl_Rows_43 (by decide) rfl (by decide) rfl ?_
            refine V2_aload_n (i := 0) d_Rows_seekBest_14 rfl rfl ?_
            refine V2_aload_n (i := 1) d_Rows_seekBest_15 rfl rfl ?_
            refine V2_iconst (v := 0) d_Rows_seekBest_16 rfl ?_
            refine V2_iload_n (i := 2) d_Rows_seekBest_17 rfl rfl ?_
            refine V2_callV [.ref 1, .int (0 : Int32), .int (nI p)] d_Rows_seekBest_18 rfl rfl lk_Rows_50 mo_Rows_tryAll (by decide) rfl rfl rfl (Nat.le_of_ble_eq_true rfl) (Nat.le_of_ble_eq_true rfl) ?_
            refine V2.to (l' := [some (.ref 36), some (.ref 1), some (.int (0 : Int32)), some (.int (nI p)), none]) ?_ rfl rfl rfl rfl
            refine V2_aload_n (i := 0) d_Rows_tryAll_0 rfl rfl ?_
            refine V2_iload_n (i := 2) d_Rows_tryAll_1 rfl rfl ?_
            refine V2_put d_Rows_tryAll_2 fl_Rows_33 (by decide) rfl (by decide) rfl ?_
            refine V2_aload_n (i := 0) d_Rows_tryAll_5 rfl rfl ?_
            refine V2_iload_n (i := 3) d_Rows_tryAll_6 rfl rfl ?_
            refine V2_put d_Rows_tryAll_7 fl_Rows_37 (by decide) rfl (by decide) rfl ?_
            refine V2_aload_n (i := 0) d_Rows_tryAll_10 rfl rfl ?_
            refine V2_iconst (v := 0) d_Rows_tryAll_11 rfl ?_
            refine V2_put d_Rows_tryAll_12 fl_Rows_46 (by decide) rfl (by decide) rfl ?_
            refine V2_aload_n (i := 0) d_Rows_tryAll_15 rfl rfl ?_
            refine V2_iconst (v := 0) d_Rows_tryAll_16 rfl ?_
            refine V2_callV [.int (0 : Int32)] d_Rows_tryAll_17 rfl rfl lk_Rows_70 mo_Rows_carAt (by decide) rfl rfl rfl (Nat.le_of_ble_eq_true rfl) (Nat.le_of_ble_eq_true rfl) ?_
            refine V2.to (l' := [some (.ref 36), some (.int (0 : Int32))]) ?_ rfl rfl rfl rfl
            refine V2_iload_n (i := 1) d_Rows_carAt_0 rfl rfl ?_
            refine V2_if_lt (tgt := 22) d_Rows_carAt_1 rfl (fun c => (by first | exact absurd c (by decide) | exact absurd (by decide) c)) (fun _ => ?_)
            refine V2_iload_n (i := 1) d_Rows_carAt_4 rfl rfl ?_
            refine V2_aload_n (i := 0) d_Rows_carAt_5 rfl rfl ?_
            refine V2_getr (a := 37) d_Rows_carAt_6 fl_Rows_13 (by decide) rfl (by decide) rfl ?_
            refine V2_alen (t := 2) (v := 5) d_Rows_carAt_9 (by decide) rfl (by decide) rfl ?_
            refine V2_icmp_ge (tgt := 22) d_Rows_carAt_10 rfl (fun c => (by first | exact absurd c (by decide) | exact absurd (by decide) c)) (fun _ => ?_)
            refine V2_aload_n (i := 0) d_Rows_carAt_13 rfl rfl ?_
            refine V2_getr (a := 37) d_Rows_carAt_14 fl_Rows_13 (by decide) rfl (by decide) rfl ?_
            refine V2_iload_n (i := 1) d_Rows_carAt_17 rfl rfl ?_
            refine V2_aaload (t := 1) (a := 42) d_Rows_carAt_18 (by decide) rfl (by decide) (xixA (n := 0) rfl (by decide) (by decide)) rfl ?_
            refine V2_goto (tgt := 23) d_Rows_carAt_19 rfl ?_
            refine V2_areturn d_Rows_carAt_23 rfl (Or.inl ⟨_, rfl⟩) ?_
            refine V2.to (st' := [.ref 42]) ?_ rfl rfl rfl rfl
            refine V2_astore (i := 4) (l' := [some (.ref 36), some (.ref 1), some (.int (0 : Int32)), some (.int (nI p)), some (.ref 42)]) d_Rows_tryAll_20 (xst_i (Nat.le_of_ble_eq_true rfl) rfl rfl) ?_
            refine V2_aload (i := 4) d_Rows_tryAll_22 rfl ?_
            refine V2_ifnull d_Rows_tryAll_24 ?_
            refine V2_aload_n (i := 1) d_Rows_tryAll_27 rfl rfl ?_
            refine V2_getr (a := 2) d_Rows_tryAll_28 fl_Rows_74 (by decide) rfl (by decide) rfl ?_
            refine V2_get (v := F 2 7) d_Rows_tryAll_31 fl_Rows_80 (by decide) rfl (by decide) rfl rfl ?_
            refine V2_topi (fun v13 ev13 => ?_)
            refine V2_if_ne (tgt := 52) d_Rows_tryAll_34 rfl (fun c14 => (by first | exact absurd c14 (show v13 = 0 from by subst ev13 ev12 ev10 ev5; show F 2 7 = 0; rw [cz7]; exact s5.resolve_right (fun hh => by rw [hh] at s9; exact s9 (by decide))) | exact absurd (show v13 = 0 from by subst ev13 ev12 ev10 ev5; show F 2 7 = 0; rw [cz7]; exact s5.resolve_right (fun hh => by rw [hh] at s9; exact s9 (by decide))) c14)) (fun c14 => ?_)
            refine V2_aload (i := 4) d_Rows_tryAll_37 rfl ?_
            refine V2_aload_n (i := 1) d_Rows_tryAll_39 rfl rfl ?_
            refine V2_getr (a := 2) d_Rows_tryAll_40 fl_Rows_74 (by decide) rfl (by decide) rfl ?_
            refine V2_callV [.ref 2] d_Rows_tryAll_43 rfl rfl lk_Rows_84 mo_Car_copyFrom (by decide) rfl rfl rfl (Nat.le_of_ble_eq_true rfl) (Nat.le_of_ble_eq_true rfl) ?_
            refine c_Car_copy_42_2 (show F 2 7 = 0 ∨ F 2 7 = 1 by rw [cz7]; exact s5) (fun H2 p0 g0 => ?_)
            refine V2_aload_n (i := 0) d_Rows_tryAll_46 rfl rfl ?_
            refine V2_aload_n (i := 1) d_Rows_tryAll_47 rfl rfl ?_
            refine V2_iconst (v := 0) d_Rows_tryAll_48 rfl ?_
            refine V2_callV [.ref 1, .int (0 : Int32)] d_Rows_tryAll_49 rfl rfl lk_Rows_88 mo_Rows_tryFrom (by decide) rfl rfl rfl (Nat.le_of_ble_eq_true rfl) (Nat.le_of_ble_eq_true rfl) ?_
            have hscr : scrC F H2 := fun a b c e => (g0 a (by omega)).trans ((xp_row_ne (by omega)).trans ((xp_row_ne (by omega)).trans ((xp_row_ne (by omega)).trans ((xp_row_ne (by omega)).trans (xp_row_ne (by omega))))))
            have h36 : ∀ j, H2 36 j = _ := fun j => congrFun (g0 36 (by decide)) j
            have hcx : ctxV F H2 (F 66) (F 66) 0 p 0 0 42 := ⟨hscr, (h36 4).trans rfl, (h36 5).trans rfl, fun i hi => absurd hi (Nat.not_lt_zero i), by decide, relCr_row hR.1.1.1 p0, like.refl _, hR.2.1.1, fun q _ => by rw [Nat.zero_mul, Nat.zero_add]; exact Prod.ext (by cases (trN (PN (F 66)) (p - 0) q (F 66)).1 <;> rfl) rfl⟩
            refine c_tryFrom_0 (f := procP p (F 66)) (R := planR p) (J := fun _ _ _ => True) (K := fun _ _ _ => True) (B := fun _ _ => True) hR.1.1 hR.2.1 (by omega) (by omega) (vis_plan (by omega)) (fun _ _ _ => trivial) planR_st (fun _ _ _ _ _ _ _ _ => trivial) hcx (fun hh => by rw [hh] at s9; exact s9 (by decide)) trivial trivial (s0 := (-1, 0, 0)) ⟨Nat.zero_le _, Or.inl ⟨rfl, (h36 6).trans (by subst ev13 ev12 ev10 ev5; exact nI_1 p)⟩, Or.inl ⟨by decide, rfl, (h36 7).trans rfl⟩⟩ (fun G2 h2 _ h5l _ _ h8 => ?_)
            rw [Nat.zero_mul, Nat.sub_zero] at h8
            replace h8 : planR p G2 (planS F p) := h8
            have hb0 : (1 ≤ (nI p).toInt ∧ (nI p).toInt ≤ 4) ∧ -2 ≤ w.toInt ∧ w.toInt ≤ (nI p).toInt - 1 := (by (try clear hQ); (try subst ev13 ev12 ev10 ev5); ((try simp only [xb_eq, xb_ne, Int32.lt_iff_toInt_lt, Int32.le_iff_toInt_le] at *) <;> (try simp only [← Int32.toInt_inj, true_and, false_and, or_false, false_or, or_true, true_or, and_true, and_false] at *) <;> omega))
            have hb1 : ¬ ((F 66 5).toInt = 1) := (by (try clear hQ); (try subst ev13 ev12 ev10 ev5); ((try simp only [xb_eq, xb_ne, Int32.lt_iff_toInt_lt, Int32.le_iff_toInt_le] at *) <;> (try simp only [← Int32.toInt_inj, true_and, false_and, or_false, false_or, or_true, true_or, and_true, and_false] at *) <;> omega))
            have e : k_plan F (nI p) w = (planA p (planS F p) w, F) := (if_pos hb0).trans ((if_neg hb1).trans (by rw [kp]))
            rw [e] at hQ
            refine V2_return d_Rows_tryAll_52 rfl ?_
            refine V2.to (st' := []) ?_ rfl rfl rfl rfl
            refine V2_return d_Rows_seekBest_21 rfl ?_
            refine V2.to (st' := []) ?_ rfl rfl rfl rfl
            refine V2_iload_n (i := 2) d_P_plan_58 rfl rfl ?_
            refine V2_bipush (v := -2) d_P_plan_59 rfl ?_
            refine V2_icmp_ne (tgt := 72) d_P_plan_61 rfl (fun c15 => ?_) (fun c15 => ?_)
            · refine V2_iload_n (i := 2) d_P_plan_72 rfl rfl ?_
              refine V2_iconst (v := -1) d_P_plan_73 rfl ?_
              refine V2_icmp_ne (tgt := 87) d_P_plan_74 rfl (fun c16 => ?_) (fun c16 => ?_)
              · have hdone : G2 36 7 = (planS F p).2.2 ∧ ∃ b, (planS F p).1 = nI b ∧ b < 10 ^ p ∧ ∀ i, i < p → G2 41 i = nI (b / 10 ^ (p - 1 - i) % 10) := by
                  rcases h8.2.2 with ⟨h1, _⟩ | ⟨_, h1⟩
                  · exfalso
                    obtain ⟨b, e9, hb⟩ := (planS_i F p).2
                    rw [e9] at h1
                    exact nI_nn1 (by omega) h1
                  · exact h1
                obtain ⟨z, hz9, epz⟩ := in_of (x := w) (P := p) (by (try clear hQ); (try subst ev13 ev12 ev10 ev5); ((try simp only [xb_eq, xb_ne, Int32.lt_iff_toInt_lt, Int32.le_iff_toInt_le] at *) <;> (try simp only [← Int32.toInt_inj, true_and, false_and, or_false, false_or, or_true, true_or, and_true, and_false] at *) <;> omega)) (by (try clear hQ); (try subst ev13 ev12 ev10 ev5); ((try simp only [xb_eq, xb_ne, Int32.lt_iff_toInt_lt, Int32.le_iff_toInt_le] at *) <;> (try simp only [← Int32.toInt_inj, true_and, false_and, or_false, false_or, or_true, true_or, and_true, and_false] at *) <;> omega)) (by omega)
                subst epz
                have nz : (nI z).toInt = (z : Int) := nI_toInt (by omega)
                have kz : (nI z).toNatClampNeg = z := nI_clamp (by omega)
                refine V2_aload_n (i := 0) d_P_plan_87 rfl rfl ?_
                refine V2_getr (a := 36) d_P_plan_88 fl_P_29 (by decide) rfl (by decide) rfl ?_
                refine V2_iload_n (i := 2) d_P_plan_91 rfl rfl ?_
                refine V2_callV [.int (nI z)] d_P_plan_92 rfl rfl lk_P_251 mo_Rows_keptGas (by decide) rfl rfl rfl (Nat.le_of_ble_eq_true rfl) (Nat.le_of_ble_eq_true rfl) ?_
                refine V2.to (l' := [some (.ref 36), some (.int (nI z))]) ?_ rfl rfl rfl rfl
                refine V2_iload_n (i := 1) d_Rows_keptGas_0 rfl rfl ?_
                refine V2_if_lt (tgt := 22) d_Rows_keptGas_1 rfl (fun c17 => (by first | exact absurd c17 (show ¬ nI z < 0 from nI_pos (by omega)) | exact absurd (show ¬ nI z < 0 from nI_pos (by omega)) c17)) (fun c17 => ?_)
                refine V2_iload_n (i := 1) d_Rows_keptGas_4 rfl rfl ?_
                refine V2_aload_n (i := 0) d_Rows_keptGas_5 rfl rfl ?_
                refine V2_getr (a := 41) d_Rows_keptGas_6 fl_Rows_30 (by decide) rfl (by decide) rfl ?_
                refine V2_alen (t := 0) (v := 4) d_Rows_keptGas_9 (by decide) rfl (by decide) rfl ?_
                refine V2_icmp_ge (tgt := 22) d_Rows_keptGas_10 rfl (fun c18 => (by first | exact absurd c18 (show ¬ (4 : Int32) ≤ nI z from nI_ge (a := z) (b := 4) (by omega) (by decide)) | exact absurd (show ¬ (4 : Int32) ≤ nI z from nI_ge (a := z) (b := 4) (by omega) (by decide)) c18)) (fun c18 => ?_)
                refine V2_aload_n (i := 0) d_Rows_keptGas_13 rfl rfl ?_
                refine V2_getr (a := 41) d_Rows_keptGas_14 fl_Rows_30 (by decide) rfl (by decide) rfl ?_
                refine V2_iload_n (i := 1) d_Rows_keptGas_17 rfl rfl ?_
                refine V2_ialoadJ (z) d_Rows_keptGas_18 (by decide) rfl (xixA (n := z) rfl (by omega) (by decide)) (xixB (n := z) rfl (by omega)) rfl ?_
                refine V2_topi (fun v19 ev19 => ?_)
                refine V2_goto (tgt := 23) d_Rows_keptGas_19 rfl ?_
                refine V2_ireturn d_Rows_keptGas_23 rfl ?_
                refine V2.to (st' := [.int v19]) ?_ rfl rfl rfl rfl
                refine V2_ireturn d_P_plan_95 rfl ?_
                obtain ⟨b, e9, hb, hd⟩ := hdone.2
                rw [show planA p (planS F p) (nI z) = nI (b / 10 ^ (p - 1 - z) % 10) from (if_neg (by omega)).trans ((if_neg (by omega)).trans (by rw [e9, kz, nI_clamp (by omega)]))] at hQ
                subst ev19 ev13 ev12 ev10 ev5
                exact xQi (hQ G2 (mid_scr hR h2)) (hd z (by omega)) rfl
              · refine V2_aload_n (i := 0) d_P_plan_77 rfl rfl ?_
                refine V2_getr (a := 36) d_P_plan_78 fl_P_29 (by decide) rfl (by decide) rfl ?_
                refine V2_callV [] d_P_plan_81 rfl rfl lk_P_248 mo_Rows_bestOver (by decide) rfl rfl rfl (Nat.le_of_ble_eq_true rfl) (Nat.le_of_ble_eq_true rfl) ?_
                refine V2.to (l' := [some (.ref 36)]) ?_ rfl rfl rfl rfl
                refine V2_aload_n (i := 0) d_Rows_bestOver_0 rfl rfl ?_
                refine V2_get (v := G2 36 7) d_Rows_bestOver_1 fl_Rows_43 (by decide) rfl (by decide) rfl rfl ?_
                refine V2_topi (fun v20 ev20 => ?_)
                refine V2_ireturn d_Rows_bestOver_4 rfl ?_
                refine V2.to (st' := [.int v20]) ?_ rfl rfl rfl rfl
                refine V2_goto (tgt := 95) d_P_plan_84 rfl ?_
                refine V2_ireturn d_P_plan_95 rfl ?_
                rw [show planA p (planS F p) w = (planS F p).2.2 from (if_neg (by (try clear hQ); (try subst ev20 ev13 ev12 ev10 ev5); ((try simp only [xb_eq, xb_ne, Int32.lt_iff_toInt_lt, Int32.le_iff_toInt_le] at *) <;> (try simp only [← Int32.toInt_inj, true_and, false_and, or_false, false_or, or_true, true_or, and_true, and_false] at *) <;> omega))).trans (if_pos (by (try clear hQ); (try subst ev20 ev13 ev12 ev10 ev5); ((try simp only [xb_eq, xb_ne, Int32.lt_iff_toInt_lt, Int32.le_iff_toInt_le] at *) <;> (try simp only [← Int32.toInt_inj, true_and, false_and, or_false, false_or, or_true, true_or, and_true, and_false] at *) <;> omega)))] at hQ
                have hdone : G2 36 7 = (planS F p).2.2 ∧ ∃ b, (planS F p).1 = nI b ∧ b < 10 ^ p ∧ ∀ i, i < p → G2 41 i = nI (b / 10 ^ (p - 1 - i) % 10) := by
                  rcases h8.2.2 with ⟨h1, _⟩ | ⟨_, h1⟩
                  · exfalso
                    obtain ⟨b, e9, hb⟩ := (planS_i F p).2
                    rw [e9] at h1
                    exact nI_nn1 (by omega) h1
                  · exact h1
                subst ev20 ev13 ev12 ev10 ev5
                exact xQi (hQ G2 (mid_scr hR h2)) hdone.1 rfl
            · refine V2_aload_n (i := 0) d_P_plan_64 rfl rfl ?_
              refine V2_getr (a := 36) d_P_plan_65 fl_P_29 (by decide) rfl (by decide) rfl ?_
              refine V2_callV [] d_P_plan_68 rfl rfl lk_P_245 mo_Rows_bestSwings (by decide) rfl rfl rfl (Nat.le_of_ble_eq_true rfl) (Nat.le_of_ble_eq_true rfl) ?_
              refine V2.to (l' := [some (.ref 36)]) ?_ rfl rfl rfl rfl
              refine V2_aload_n (i := 0) d_Rows_bestSwings_0 rfl rfl ?_
              refine V2_get (v := G2 36 6) d_Rows_bestSwings_1 fl_Rows_40 (by decide) rfl (by decide) rfl rfl ?_
              refine V2_topi (fun v21 ev21 => ?_)
              refine V2_aload_n (i := 0) d_Rows_bestSwings_4 rfl rfl ?_
              refine V2_get (v := G2 36 5) d_Rows_bestSwings_5 fl_Rows_37 (by decide) rfl (by decide) rfl rfl ?_
              refine V2_topi (fun v22 ev22 => ?_)
              refine V2_icmp_le (tgt := 15) d_Rows_bestSwings_8 rfl (fun c23 => ?_) (fun c23 => ?_)
              · refine V2_aload_n (i := 0) d_Rows_bestSwings_15 rfl rfl ?_
                refine V2_get (v := G2 36 6) d_Rows_bestSwings_16 fl_Rows_40 (by decide) rfl (by decide) rfl rfl ?_
                refine V2_topi (fun v24 ev24 => ?_)
                refine V2_ireturn d_Rows_bestSwings_19 rfl ?_
                refine V2.to (st' := [.int v24]) ?_ rfl rfl rfl rfl
                refine V2_ireturn d_P_plan_71 rfl ?_
                rw [show planA p (planS F p) w = nI (planS F p).2.1 from if_pos (by (try clear hQ); (try subst ev24 ev22 ev21 ev13 ev12 ev10 ev5); ((try simp only [xb_eq, xb_ne, Int32.lt_iff_toInt_lt, Int32.le_iff_toInt_le] at *) <;> (try simp only [← Int32.toInt_inj, true_and, false_and, or_false, false_or, or_true, true_or, and_true, and_false] at *) <;> omega))] at hQ
                have hB0 : G2 36 6 = nI (planS F p).2.1 := by
                  rcases h8.2.1 with ⟨h1, h9⟩ | ⟨h1, h9⟩
                  · exfalso
                    have h7 := c23
                    subst ev24 ev22 ev21 ev13 ev12 ev10 ev5
                    rw [h9, h5l] at h7
                    have := (nI_leI (by omega) (by omega)).mp h7
                    omega
                  · exact h9
                subst ev24 ev22 ev21 ev13 ev12 ev10 ev5
                exact xQi (hQ G2 (mid_scr hR h2)) hB0 rfl
              · refine V2_iconst (v := 0) d_Rows_bestSwings_11 rfl ?_
                refine V2_goto (tgt := 19) d_Rows_bestSwings_12 rfl ?_
                refine V2_ireturn d_Rows_bestSwings_19 rfl ?_
                refine V2.to (st' := [.int (0 : Int32)]) ?_ rfl rfl rfl rfl
                refine V2_ireturn d_P_plan_71 rfl ?_
                rw [show planA p (planS F p) w = nI (planS F p).2.1 from if_pos (by (try clear hQ); (try subst ev22 ev21 ev13 ev12 ev10 ev5); ((try simp only [xb_eq, xb_ne, Int32.lt_iff_toInt_lt, Int32.le_iff_toInt_le] at *) <;> (try simp only [← Int32.toInt_inj, true_and, false_and, or_false, false_or, or_true, true_or, and_true, and_false] at *) <;> omega))] at hQ
                have hB0 : (planS F p).2.1 = 0 := by
                  rcases h8.2.1 with ⟨h1, _⟩ | ⟨h1, h9⟩
                  · exact h1
                  · exfalso
                    have h7 := c23
                    subst ev22 ev21 ev13 ev12 ev10 ev5
                    rw [h9, h5l] at h7
                    exact h7 (nI_le h8.1 (by omega))
                rw [hB0] at hQ
                subst ev22 ev21 ev13 ev12 ev10 ev5
                exact xQi (hQ G2 (mid_scr hR h2)) rfl rfl
          · refine V2_aload_n (i := 0) d_P_plan_40 rfl rfl ?_
            refine V2_iconst (v := 3) d_P_plan_41 rfl ?_
            refine V2_callV [.int (3 : Int32)] d_P_plan_42 rfl rfl lk_P_66 mo_P_fails (by decide) rfl rfl rfl (Nat.le_of_ble_eq_true rfl) (Nat.le_of_ble_eq_true rfl) ?_
            refine c_P_fails3 ?_
            refine V2_topi (fun v25 ev25 => ?_)
            refine V2_ireturn d_P_plan_45 rfl ?_
            have hb0 : (1 ≤ (nI p).toInt ∧ (nI p).toInt ≤ 4) ∧ -2 ≤ w.toInt ∧ w.toInt ≤ (nI p).toInt - 1 := (by (try clear hQ); (try subst ev25 ev10 ev5); ((try simp only [xb_eq, xb_ne, Int32.lt_iff_toInt_lt, Int32.le_iff_toInt_le] at *) <;> (try simp only [← Int32.toInt_inj, true_and, false_and, or_false, false_or, or_true, true_or, and_true, and_false] at *) <;> omega))
            have hb1 : (F 66 5).toInt = 1 := (by (try clear hQ); (try subst ev25 ev10 ev5); ((try simp only [xb_eq, xb_ne, Int32.lt_iff_toInt_lt, Int32.le_iff_toInt_le] at *) <;> (try simp only [← Int32.toInt_inj, true_and, false_and, or_false, false_or, or_true, true_or, and_true, and_false] at *) <;> omega))
            have e : k_plan F (nI p) w = (-1000000000 - 3, errF F 3) := (if_pos hb0).trans (if_pos hb1)
            rw [e] at hQ
            subst ev25 ev10 ev5
            exact xQi (hQ _ (mid_err hR (by decide))) rfl rfl
set_option maxHeartbeats 4000000 in
theorem c_R_plan_loop {L : Nat} {xs : Nat → Int32} {d : Nat} {Q : Option Value → xF → Prop} {F : xF} {S : Nat → Int32} {p : Nat} {w : Int32} {s9 : Int32 × Nat × Int32} (hi9 : invS S) (e66 : F 66 = S) (e65 : F 65 5 = 63) (hp : p ≤ 4) (hK : ∀ G : xF, trF F G → V2 L xs (d + 6) m_R_plan 163 [some (.ref 65), some (.int (nI p)), some (.int w), some (.int s9.1), some (.int (nI s9.2.1)), some (.int s9.2.2), some (.int (nI (10 ^ p))), some (.int (nI (10 ^ p))), none, none] [] G Q) : ∀ (n_ : Nat) (row m : Nat) (bst : Int32) (B : Nat) (hi : Int32) (G : xF), row + m = 10 ^ p → m < n_ → trF F G → B ≤ p → s9 = blk (procP p S) row m (bst, B, hi) → V2 L xs (d + 6) m_R_plan 57 [some (.ref 65), some (.int (nI p)), some (.int w), some (.int bst), some (.int (nI B)), some (.int hi), some (.int (nI (10 ^ p))), some (.int (nI row)), none, none] [] G Q := by
  intro n_
  induction n_ with
  | zero => exact fun row m bst B hi G h1 h2 => absurd h2 (by omega)
  | succ n_ ih =>
    intro row m bst B hi G h1 h2 g1 hB h3
    have hp4 := pow4 hp
    have e6 : G 66 = S := (g1.1 66 (by decide) (by decide) (by decide) (by decide)).trans e66
    have q0 : (0 : Int32).toInt = 0 := by decide
    have q1 : (1 : Int32).toInt = 1 := by decide
    have qm1 : (-1 : Int32).toInt = -1 := by decide
    refine V2_iload (i := 7) d_R_plan_57 rfl ?_
    refine V2_iload (i := 6) d_R_plan_59 rfl ?_
    refine V2_icmp_ge (tgt := 163) d_R_plan_61 rfl (fun c1 => ?_) (fun c1 => ?_)
    · have hm : m = 0 := by
        have := (nI_leI (by omega) (by omega)).mp c1
        omega
      subst hm
      have er : row = 10 ^ p := by omega
      subst er
      have h4 : s9 = (bst, B, hi) := h3
      subst h4
      refine V2.weak (l' := [some (.ref 65), some (.int (nI p)), some (.int w), some (.int bst), some (.int (nI B)), some (.int hi), some (.int (nI (10 ^ p))), some (.int (nI (10 ^ p))), none, none]) ?_ ⟨rfl, rfl, rfl, rfl, rfl, rfl, rfl, rfl, trivial⟩
      exact hK G g1
    · have hk : row < 10 ^ p := Nat.not_le.mp (fun hh => c1 ((nI_leI (by omega) (by omega)).mpr hh))
      obtain ⟨m, rfl⟩ : ∃ m2, m = m2 + 1 := ⟨m - 1, by omega⟩
      refine V2_aload_n (i := 0) d_R_plan_64 rfl rfl ?_
      refine V2_iload (i := 7) d_R_plan_65 rfl ?_
      refine V2_iload_n (i := 1) d_R_plan_67 rfl rfl ?_
      refine V2_callV [.int (nI row), .int (nI p)] d_R_plan_68 rfl rfl lk_R_206 mo_R_triesRow (by decide) rfl rfl rfl (Nat.le_of_ble_eq_true rfl) (Nat.le_of_ble_eq_true rfl) ?_
      refine c_R_triesRow (S := S) hi9 e6 ((g1.2 5 (by decide) (by decide)).trans e65) hp hk (fun G2 g2 => ?_)
      refine V2_aload_n (i := 0) d_R_plan_71 rfl rfl ?_
      refine V2_get (v := G2 65 13) d_R_plan_72 fl_R_200 (by decide) rfl (by decide) rfl rfl ?_
      refine V2_topi (fun v2 ev2 => ?_)
      refine V2_if_le (tgt := 96) d_R_plan_75 rfl (fun c3 => ?_) (fun c3 => ?_)
      · refine V2_iconst (v := 0) d_R_plan_96 rfl ?_
        refine V2_istore (i := 8) (l' := [some (.ref 65), some (.int (nI p)), some (.int w), some (.int bst), some (.int (nI B)), some (.int hi), some (.int (nI (10 ^ p))), some (.int (nI row)), some (.int (0 : Int32)), none]) d_R_plan_97 (xst_i (Nat.le_of_ble_eq_true rfl) rfl rfl) ?_
        refine V2_aload_n (i := 0) d_R_plan_99 rfl rfl ?_
        refine V2_get (v := G2 65 13) d_R_plan_100 fl_R_200 (by decide) rfl (by decide) rfl rfl ?_
        refine V2_topi (fun v4 ev4 => ?_)
        refine V2_if_ne (tgt := 124) d_R_plan_103 rfl (fun c5 => ?_) (fun c5 => ?_)
        · refine V2_iconst (v := 0) d_R_plan_124 rfl ?_
          refine V2_istore (i := 9) (l' := [some (.ref 65), some (.int (nI p)), some (.int w), some (.int bst), some (.int (nI B)), some (.int hi), some (.int (nI (10 ^ p))), some (.int (nI row)), some (.int (0 : Int32)), some (.int (0 : Int32))]) d_R_plan_125 (xst_i (Nat.le_of_ble_eq_true rfl) rfl rfl) ?_
          refine V2_iload_n (i := 3) d_R_plan_127 rfl rfl ?_
          refine V2_iconst (v := -1) d_R_plan_128 rfl ?_
          refine V2_icmp_eq (tgt := 142) d_R_plan_129 rfl (fun c6 => ?_) (fun c6 => ?_)
          · refine V2_iload (i := 7) d_R_plan_142 rfl ?_
            refine V2_istore_n (i := 3) (l' := [some (.ref 65), some (.int (nI p)), some (.int w), some (.int (nI row)), some (.int (nI B)), some (.int hi), some (.int (nI (10 ^ p))), some (.int (nI row)), some (.int (0 : Int32)), some (.int (0 : Int32))]) d_R_plan_144 rfl (xst_i (Nat.le_of_ble_eq_true rfl) rfl rfl) ?_
            refine V2_aload_n (i := 0) d_R_plan_145 rfl rfl ?_
            refine V2_get (v := G2 65 13) d_R_plan_146 fl_R_200 (by decide) rfl (by decide) rfl rfl ?_
            refine V2_topi (fun v7 ev7 => ?_)
            refine V2_istore (i := 4) (l' := [some (.ref 65), some (.int (nI p)), some (.int w), some (.int (nI row)), some (.int v7), some (.int hi), some (.int (nI (10 ^ p))), some (.int (nI row)), some (.int (0 : Int32)), some (.int (0 : Int32))]) d_R_plan_149 (xst_i (Nat.le_of_ble_eq_true rfl) rfl rfl) ?_
            refine V2_aload_n (i := 0) d_R_plan_151 rfl rfl ?_
            refine V2_get (v := G2 65 14) d_R_plan_152 fl_R_203 (by decide) rfl (by decide) rfl rfl ?_
            refine V2_topi (fun v8 ev8 => ?_)
            refine V2_istore (i := 5) (l' := [some (.ref 65), some (.int (nI p)), some (.int w), some (.int (nI row)), some (.int v7), some (.int v8), some (.int (nI (10 ^ p))), some (.int (nI row)), some (.int (0 : Int32)), some (.int (0 : Int32))]) d_R_plan_155 (xst_i (Nat.le_of_ble_eq_true rfl) rfl rfl) ?_
            obtain ⟨v9, ev9⟩ : ∃ y : Int32, y = nI row + 1 := ⟨_, rfl⟩
            refine V2_iinc (i := 7) (v := v9) (l' := [some (.ref 65), some (.int (nI p)), some (.int w), some (.int (nI row)), some (.int v7), some (.int v8), some (.int (nI (10 ^ p))), some (.int v9), some (.int (0 : Int32)), some (.int (0 : Int32))]) d_R_plan_157 rfl (by rw [ev9]; rfl) (xst_i (Nat.le_of_ble_eq_true rfl) rfl rfl) ?_
            refine V2_goto (tgt := 57) d_R_plan_160 rfl ?_
            have ob1 := ob_le (P := PN S) (n := p) (row := row) (S := S)
            have n13 : (G2 65 13).toInt = (obR (trN (PN S) p row S) : Int) := by rw [g2.2.2.1]; exact nI_toInt (by omega)
            have n14 : (G2 65 14).toInt = (abR (trN (PN S) p row S)).toInt := by rw [g2.2.2.2]
            have nB : (nI B).toInt = (B : Int) := nI_toInt (by omega)
            have hc : (bst.toInt = -1 ∨ (0 < obR (trN (PN S) p row S) ∧ (B = 0 ∨ obR (trN (PN S) p row S) < B)) ∨ (obR (trN (PN S) p row S) = 0 ∧ B = 0 ∧ hi.toInt < (abR (trN (PN S) p row S)).toInt)) := (by (try clear hQ); (try subst ev9 ev8 ev7 ev4 ev2); ((try simp only [xb_eq, xb_ne, Int32.lt_iff_toInt_lt, Int32.le_iff_toInt_le] at *) <;> (try simp only [← Int32.toInt_inj, true_and, false_and, or_false, false_or, or_true, true_or, and_true, and_false] at *) <;> omega))
            have e4 : v7 = nI (obR (trN (PN S) p row S)) := by subst ev9 ev8 ev7 ev4 ev2; exact g2.2.2.1
            have e5 : v8 = abR (trN (PN S) p row S) := by subst ev9 ev8 ev7 ev4 ev2; exact g2.2.2.2
            rw [e4, e5, ev9, nI_1]
            refine V2.weak (l' := [some (.ref 65), some (.int (nI p)), some (.int w), some (.int (nI row)), some (.int (nI (obR (trN (PN S) p row S)))), some (.int (abR (trN (PN S) p row S))), some (.int (nI (10 ^ p))), some (.int (nI (row + 1))), none, none]) ?_ ⟨rfl, rfl, rfl, rfl, rfl, rfl, rfl, rfl, trivial⟩
            refine V2.to (ih (row + 1) m (nI row) (obR (trN (PN S) p row S)) (abR (trN (PN S) p row S)) G2 (by omega) (by omega) (g1.tries g2) (by omega) ?_) rfl rfl rfl rfl
            rw [h3]
            show blk (procP p S) (row + 1) m (procP p S row (bst, B, hi)) = _
            rw [pP_t rfl hc]
          · refine V2_iload (i := 8) d_R_plan_132 rfl ?_
            refine V2_if_ne (tgt := 142) d_R_plan_134 rfl (fun c => (by first | exact absurd c (by decide) | exact absurd (by decide) c)) (fun _ => ?_)
            refine V2_iload (i := 9) d_R_plan_137 rfl ?_
            refine V2_if_eq (tgt := 157) d_R_plan_139 rfl (fun _ => ?_) (fun c => (by first | exact absurd c (by decide) | exact absurd (by decide) c))
            obtain ⟨v10, ev10⟩ : ∃ y : Int32, y = nI row + 1 := ⟨_, rfl⟩
            refine V2_iinc (i := 7) (v := v10) (l' := [some (.ref 65), some (.int (nI p)), some (.int w), some (.int bst), some (.int (nI B)), some (.int hi), some (.int (nI (10 ^ p))), some (.int v10), some (.int (0 : Int32)), some (.int (0 : Int32))]) d_R_plan_157 rfl (by rw [ev10]; rfl) (xst_i (Nat.le_of_ble_eq_true rfl) rfl rfl) ?_
            refine V2_goto (tgt := 57) d_R_plan_160 rfl ?_
            have ob1 := ob_le (P := PN S) (n := p) (row := row) (S := S)
            have n13 : (G2 65 13).toInt = (obR (trN (PN S) p row S) : Int) := by rw [g2.2.2.1]; exact nI_toInt (by omega)
            have n14 : (G2 65 14).toInt = (abR (trN (PN S) p row S)).toInt := by rw [g2.2.2.2]
            have nB : (nI B).toInt = (B : Int) := nI_toInt (by omega)
            have hc : ¬ (bst.toInt = -1 ∨ (0 < obR (trN (PN S) p row S) ∧ (B = 0 ∨ obR (trN (PN S) p row S) < B)) ∨ (obR (trN (PN S) p row S) = 0 ∧ B = 0 ∧ hi.toInt < (abR (trN (PN S) p row S)).toInt)) := (by (try clear hQ); (try subst ev10 ev4 ev2); ((try simp only [xb_eq, xb_ne, Int32.lt_iff_toInt_lt, Int32.le_iff_toInt_le] at *) <;> (try simp only [← Int32.toInt_inj, true_and, false_and, or_false, false_or, or_true, true_or, and_true, and_false] at *) <;> omega))
            rw [ev10, nI_1]
            refine V2.weak (l' := [some (.ref 65), some (.int (nI p)), some (.int w), some (.int bst), some (.int (nI B)), some (.int hi), some (.int (nI (10 ^ p))), some (.int (nI (row + 1))), none, none]) ?_ ⟨rfl, rfl, rfl, rfl, rfl, rfl, rfl, rfl, trivial⟩
            refine V2.to (ih (row + 1) m bst B hi G2 (by omega) (by omega) (g1.tries g2) hB ?_) rfl rfl rfl rfl
            rw [h3]
            show blk (procP p S) (row + 1) m (procP p S row (bst, B, hi)) = _
            rw [pP_f rfl hc]
        · refine V2_iload (i := 4) d_R_plan_106 rfl ?_
          refine V2_if_ne (tgt := 124) d_R_plan_108 rfl (fun c11 => ?_) (fun c11 => ?_)
          · refine V2_iconst (v := 0) d_R_plan_124 rfl ?_
            refine V2_istore (i := 9) (l' := [some (.ref 65), some (.int (nI p)), some (.int w), some (.int bst), some (.int (nI B)), some (.int hi), some (.int (nI (10 ^ p))), some (.int (nI row)), some (.int (0 : Int32)), some (.int (0 : Int32))]) d_R_plan_125 (xst_i (Nat.le_of_ble_eq_true rfl) rfl rfl) ?_
            refine V2_iload_n (i := 3) d_R_plan_127 rfl rfl ?_
            refine V2_iconst (v := -1) d_R_plan_128 rfl ?_
            refine V2_icmp_eq (tgt := 142) d_R_plan_129 rfl (fun c12 => ?_) (fun c12 => ?_)
            · refine V2_iload (i := 7) d_R_plan_142 rfl ?_
              refine V2_istore_n (i := 3) (l' := [some (.ref 65), some (.int (nI p)), some (.int w), some (.int (nI row)), some (.int (nI B)), some (.int hi), some (.int (nI (10 ^ p))), some (.int (nI row)), some (.int (0 : Int32)), some (.int (0 : Int32))]) d_R_plan_144 rfl (xst_i (Nat.le_of_ble_eq_true rfl) rfl rfl) ?_
              refine V2_aload_n (i := 0) d_R_plan_145 rfl rfl ?_
              refine V2_get (v := G2 65 13) d_R_plan_146 fl_R_200 (by decide) rfl (by decide) rfl rfl ?_
              refine V2_topi (fun v13 ev13 => ?_)
              refine V2_istore (i := 4) (l' := [some (.ref 65), some (.int (nI p)), some (.int w), some (.int (nI row)), some (.int v13), some (.int hi), some (.int (nI (10 ^ p))), some (.int (nI row)), some (.int (0 : Int32)), some (.int (0 : Int32))]) d_R_plan_149 (xst_i (Nat.le_of_ble_eq_true rfl) rfl rfl) ?_
              refine V2_aload_n (i := 0) d_R_plan_151 rfl rfl ?_
              refine V2_get (v := G2 65 14) d_R_plan_152 fl_R_203 (by decide) rfl (by decide) rfl rfl ?_
              refine V2_topi (fun v14 ev14 => ?_)
              refine V2_istore (i := 5) (l' := [some (.ref 65), some (.int (nI p)), some (.int w), some (.int (nI row)), some (.int v13), some (.int v14), some (.int (nI (10 ^ p))), some (.int (nI row)), some (.int (0 : Int32)), some (.int (0 : Int32))]) d_R_plan_155 (xst_i (Nat.le_of_ble_eq_true rfl) rfl rfl) ?_
              obtain ⟨v15, ev15⟩ : ∃ y : Int32, y = nI row + 1 := ⟨_, rfl⟩
              refine V2_iinc (i := 7) (v := v15) (l' := [some (.ref 65), some (.int (nI p)), some (.int w), some (.int (nI row)), some (.int v13), some (.int v14), some (.int (nI (10 ^ p))), some (.int v15), some (.int (0 : Int32)), some (.int (0 : Int32))]) d_R_plan_157 rfl (by rw [ev15]; rfl) (xst_i (Nat.le_of_ble_eq_true rfl) rfl rfl) ?_
              refine V2_goto (tgt := 57) d_R_plan_160 rfl ?_
              have ob1 := ob_le (P := PN S) (n := p) (row := row) (S := S)
              have n13 : (G2 65 13).toInt = (obR (trN (PN S) p row S) : Int) := by rw [g2.2.2.1]; exact nI_toInt (by omega)
              have n14 : (G2 65 14).toInt = (abR (trN (PN S) p row S)).toInt := by rw [g2.2.2.2]
              have nB : (nI B).toInt = (B : Int) := nI_toInt (by omega)
              have hc : (bst.toInt = -1 ∨ (0 < obR (trN (PN S) p row S) ∧ (B = 0 ∨ obR (trN (PN S) p row S) < B)) ∨ (obR (trN (PN S) p row S) = 0 ∧ B = 0 ∧ hi.toInt < (abR (trN (PN S) p row S)).toInt)) := (by (try clear hQ); (try subst ev15 ev14 ev13 ev4 ev2); ((try simp only [xb_eq, xb_ne, Int32.lt_iff_toInt_lt, Int32.le_iff_toInt_le] at *) <;> (try simp only [← Int32.toInt_inj, true_and, false_and, or_false, false_or, or_true, true_or, and_true, and_false] at *) <;> omega))
              have e4 : v13 = nI (obR (trN (PN S) p row S)) := by subst ev15 ev14 ev13 ev4 ev2; exact g2.2.2.1
              have e5 : v14 = abR (trN (PN S) p row S) := by subst ev15 ev14 ev13 ev4 ev2; exact g2.2.2.2
              rw [e4, e5, ev15, nI_1]
              refine V2.weak (l' := [some (.ref 65), some (.int (nI p)), some (.int w), some (.int (nI row)), some (.int (nI (obR (trN (PN S) p row S)))), some (.int (abR (trN (PN S) p row S))), some (.int (nI (10 ^ p))), some (.int (nI (row + 1))), none, none]) ?_ ⟨rfl, rfl, rfl, rfl, rfl, rfl, rfl, rfl, trivial⟩
              refine V2.to (ih (row + 1) m (nI row) (obR (trN (PN S) p row S)) (abR (trN (PN S) p row S)) G2 (by omega) (by omega) (g1.tries g2) (by omega) ?_) rfl rfl rfl rfl
              rw [h3]
              show blk (procP p S) (row + 1) m (procP p S row (bst, B, hi)) = _
              rw [pP_t rfl hc]
            · refine V2_iload (i := 8) d_R_plan_132 rfl ?_
              refine V2_if_ne (tgt := 142) d_R_plan_134 rfl (fun c => (by first | exact absurd c (by decide) | exact absurd (by decide) c)) (fun _ => ?_)
              refine V2_iload (i := 9) d_R_plan_137 rfl ?_
              refine V2_if_eq (tgt := 157) d_R_plan_139 rfl (fun _ => ?_) (fun c => (by first | exact absurd c (by decide) | exact absurd (by decide) c))
              obtain ⟨v16, ev16⟩ : ∃ y : Int32, y = nI row + 1 := ⟨_, rfl⟩
              refine V2_iinc (i := 7) (v := v16) (l' := [some (.ref 65), some (.int (nI p)), some (.int w), some (.int bst), some (.int (nI B)), some (.int hi), some (.int (nI (10 ^ p))), some (.int v16), some (.int (0 : Int32)), some (.int (0 : Int32))]) d_R_plan_157 rfl (by rw [ev16]; rfl) (xst_i (Nat.le_of_ble_eq_true rfl) rfl rfl) ?_
              refine V2_goto (tgt := 57) d_R_plan_160 rfl ?_
              have ob1 := ob_le (P := PN S) (n := p) (row := row) (S := S)
              have n13 : (G2 65 13).toInt = (obR (trN (PN S) p row S) : Int) := by rw [g2.2.2.1]; exact nI_toInt (by omega)
              have n14 : (G2 65 14).toInt = (abR (trN (PN S) p row S)).toInt := by rw [g2.2.2.2]
              have nB : (nI B).toInt = (B : Int) := nI_toInt (by omega)
              have hc : ¬ (bst.toInt = -1 ∨ (0 < obR (trN (PN S) p row S) ∧ (B = 0 ∨ obR (trN (PN S) p row S) < B)) ∨ (obR (trN (PN S) p row S) = 0 ∧ B = 0 ∧ hi.toInt < (abR (trN (PN S) p row S)).toInt)) := (by (try clear hQ); (try subst ev16 ev4 ev2); ((try simp only [xb_eq, xb_ne, Int32.lt_iff_toInt_lt, Int32.le_iff_toInt_le] at *) <;> (try simp only [← Int32.toInt_inj, true_and, false_and, or_false, false_or, or_true, true_or, and_true, and_false] at *) <;> omega))
              rw [ev16, nI_1]
              refine V2.weak (l' := [some (.ref 65), some (.int (nI p)), some (.int w), some (.int bst), some (.int (nI B)), some (.int hi), some (.int (nI (10 ^ p))), some (.int (nI (row + 1))), none, none]) ?_ ⟨rfl, rfl, rfl, rfl, rfl, rfl, rfl, rfl, trivial⟩
              refine V2.to (ih (row + 1) m bst B hi G2 (by omega) (by omega) (g1.tries g2) hB ?_) rfl rfl rfl rfl
              rw [h3]
              show blk (procP p S) (row + 1) m (procP p S row (bst, B, hi)) = _
              rw [pP_f rfl hc]
          · refine V2_aload_n (i := 0) d_R_plan_111 rfl rfl ?_
            refine V2_get (v := G2 65 14) d_R_plan_112 fl_R_203 (by decide) rfl (by decide) rfl rfl ?_
            refine V2_topi (fun v17 ev17 => ?_)
            refine V2_iload (i := 5) d_R_plan_115 rfl ?_
            refine V2_icmp_le (tgt := 124) d_R_plan_117 rfl (fun c18 => ?_) (fun c18 => ?_)
            · refine V2_iconst (v := 0) d_R_plan_124 rfl ?_
              refine V2_istore (i := 9) (l' := [some (.ref 65), some (.int (nI p)), some (.int w), some (.int bst), some (.int (nI B)), some (.int hi), some (.int (nI (10 ^ p))), some (.int (nI row)), some (.int (0 : Int32)), some (.int (0 : Int32))]) d_R_plan_125 (xst_i (Nat.le_of_ble_eq_true rfl) rfl rfl) ?_
              refine V2_iload_n (i := 3) d_R_plan_127 rfl rfl ?_
              refine V2_iconst (v := -1) d_R_plan_128 rfl ?_
              refine V2_icmp_eq (tgt := 142) d_R_plan_129 rfl (fun c19 => ?_) (fun c19 => ?_)
              · refine V2_iload (i := 7) d_R_plan_142 rfl ?_
                refine V2_istore_n (i := 3) (l' := [some (.ref 65), some (.int (nI p)), some (.int w), some (.int (nI row)), some (.int (nI B)), some (.int hi), some (.int (nI (10 ^ p))), some (.int (nI row)), some (.int (0 : Int32)), some (.int (0 : Int32))]) d_R_plan_144 rfl (xst_i (Nat.le_of_ble_eq_true rfl) rfl rfl) ?_
                refine V2_aload_n (i := 0) d_R_plan_145 rfl rfl ?_
                refine V2_get (v := G2 65 13) d_R_plan_146 fl_R_200 (by decide) rfl (by decide) rfl rfl ?_
                refine V2_topi (fun v20 ev20 => ?_)
                refine V2_istore (i := 4) (l' := [some (.ref 65), some (.int (nI p)), some (.int w), some (.int (nI row)), some (.int v20), some (.int hi), some (.int (nI (10 ^ p))), some (.int (nI row)), some (.int (0 : Int32)), some (.int (0 : Int32))]) d_R_plan_149 (xst_i (Nat.le_of_ble_eq_true rfl) rfl rfl) ?_
                refine V2_aload_n (i := 0) d_R_plan_151 rfl rfl ?_
                refine V2_get (v := G2 65 14) d_R_plan_152 fl_R_203 (by decide) rfl (by decide) rfl rfl ?_
                refine V2_topi (fun v21 ev21 => ?_)
                refine V2_istore (i := 5) (l' := [some (.ref 65), some (.int (nI p)), some (.int w), some (.int (nI row)), some (.int v20), some (.int v21), some (.int (nI (10 ^ p))), some (.int (nI row)), some (.int (0 : Int32)), some (.int (0 : Int32))]) d_R_plan_155 (xst_i (Nat.le_of_ble_eq_true rfl) rfl rfl) ?_
                obtain ⟨v22, ev22⟩ : ∃ y : Int32, y = nI row + 1 := ⟨_, rfl⟩
                refine V2_iinc (i := 7) (v := v22) (l' := [some (.ref 65), some (.int (nI p)), some (.int w), some (.int (nI row)), some (.int v20), some (.int v21), some (.int (nI (10 ^ p))), some (.int v22), some (.int (0 : Int32)), some (.int (0 : Int32))]) d_R_plan_157 rfl (by rw [ev22]; rfl) (xst_i (Nat.le_of_ble_eq_true rfl) rfl rfl) ?_
                refine V2_goto (tgt := 57) d_R_plan_160 rfl ?_
                have ob1 := ob_le (P := PN S) (n := p) (row := row) (S := S)
                have n13 : (G2 65 13).toInt = (obR (trN (PN S) p row S) : Int) := by rw [g2.2.2.1]; exact nI_toInt (by omega)
                have n14 : (G2 65 14).toInt = (abR (trN (PN S) p row S)).toInt := by rw [g2.2.2.2]
                have nB : (nI B).toInt = (B : Int) := nI_toInt (by omega)
                have hc : (bst.toInt = -1 ∨ (0 < obR (trN (PN S) p row S) ∧ (B = 0 ∨ obR (trN (PN S) p row S) < B)) ∨ (obR (trN (PN S) p row S) = 0 ∧ B = 0 ∧ hi.toInt < (abR (trN (PN S) p row S)).toInt)) := (by (try clear hQ); (try subst ev22 ev21 ev20 ev17 ev4 ev2); ((try simp only [xb_eq, xb_ne, Int32.lt_iff_toInt_lt, Int32.le_iff_toInt_le] at *) <;> (try simp only [← Int32.toInt_inj, true_and, false_and, or_false, false_or, or_true, true_or, and_true, and_false] at *) <;> omega))
                have e4 : v20 = nI (obR (trN (PN S) p row S)) := by subst ev22 ev21 ev20 ev17 ev4 ev2; exact g2.2.2.1
                have e5 : v21 = abR (trN (PN S) p row S) := by subst ev22 ev21 ev20 ev17 ev4 ev2; exact g2.2.2.2
                rw [e4, e5, ev22, nI_1]
                refine V2.weak (l' := [some (.ref 65), some (.int (nI p)), some (.int w), some (.int (nI row)), some (.int (nI (obR (trN (PN S) p row S)))), some (.int (abR (trN (PN S) p row S))), some (.int (nI (10 ^ p))), some (.int (nI (row + 1))), none, none]) ?_ ⟨rfl, rfl, rfl, rfl, rfl, rfl, rfl, rfl, trivial⟩
                refine V2.to (ih (row + 1) m (nI row) (obR (trN (PN S) p row S)) (abR (trN (PN S) p row S)) G2 (by omega) (by omega) (g1.tries g2) (by omega) ?_) rfl rfl rfl rfl
                rw [h3]
                show blk (procP p S) (row + 1) m (procP p S row (bst, B, hi)) = _
                rw [pP_t rfl hc]
              · refine V2_iload (i := 8) d_R_plan_132 rfl ?_
                refine V2_if_ne (tgt := 142) d_R_plan_134 rfl (fun c => (by first | exact absurd c (by decide) | exact absurd (by decide) c)) (fun _ => ?_)
                refine V2_iload (i := 9) d_R_plan_137 rfl ?_
                refine V2_if_eq (tgt := 157) d_R_plan_139 rfl (fun _ => ?_) (fun c => (by first | exact absurd c (by decide) | exact absurd (by decide) c))
                obtain ⟨v23, ev23⟩ : ∃ y : Int32, y = nI row + 1 := ⟨_, rfl⟩
                refine V2_iinc (i := 7) (v := v23) (l' := [some (.ref 65), some (.int (nI p)), some (.int w), some (.int bst), some (.int (nI B)), some (.int hi), some (.int (nI (10 ^ p))), some (.int v23), some (.int (0 : Int32)), some (.int (0 : Int32))]) d_R_plan_157 rfl (by rw [ev23]; rfl) (xst_i (Nat.le_of_ble_eq_true rfl) rfl rfl) ?_
                refine V2_goto (tgt := 57) d_R_plan_160 rfl ?_
                have ob1 := ob_le (P := PN S) (n := p) (row := row) (S := S)
                have n13 : (G2 65 13).toInt = (obR (trN (PN S) p row S) : Int) := by rw [g2.2.2.1]; exact nI_toInt (by omega)
                have n14 : (G2 65 14).toInt = (abR (trN (PN S) p row S)).toInt := by rw [g2.2.2.2]
                have nB : (nI B).toInt = (B : Int) := nI_toInt (by omega)
                have hc : ¬ (bst.toInt = -1 ∨ (0 < obR (trN (PN S) p row S) ∧ (B = 0 ∨ obR (trN (PN S) p row S) < B)) ∨ (obR (trN (PN S) p row S) = 0 ∧ B = 0 ∧ hi.toInt < (abR (trN (PN S) p row S)).toInt)) := (by (try clear hQ); (try subst ev23 ev17 ev4 ev2); ((try simp only [xb_eq, xb_ne, Int32.lt_iff_toInt_lt, Int32.le_iff_toInt_le] at *) <;> (try simp only [← Int32.toInt_inj, true_and, false_and, or_false, false_or, or_true, true_or, and_true, and_false] at *) <;> omega))
                rw [ev23, nI_1]
                refine V2.weak (l' := [some (.ref 65), some (.int (nI p)), some (.int w), some (.int bst), some (.int (nI B)), some (.int hi), some (.int (nI (10 ^ p))), some (.int (nI (row + 1))), none, none]) ?_ ⟨rfl, rfl, rfl, rfl, rfl, rfl, rfl, rfl, trivial⟩
                refine V2.to (ih (row + 1) m bst B hi G2 (by omega) (by omega) (g1.tries g2) hB ?_) rfl rfl rfl rfl
                rw [h3]
                show blk (procP p S) (row + 1) m (procP p S row (bst, B, hi)) = _
                rw [pP_f rfl hc]
            · refine V2_iconst (v := 1) d_R_plan_120 rfl ?_
              refine V2_goto (tgt := 125) d_R_plan_121 rfl ?_
              refine V2_istore (i := 9) (l' := [some (.ref 65), some (.int (nI p)), some (.int w), some (.int bst), some (.int (nI B)), some (.int hi), some (.int (nI (10 ^ p))), some (.int (nI row)), some (.int (0 : Int32)), some (.int (1 : Int32))]) d_R_plan_125 (xst_i (Nat.le_of_ble_eq_true rfl) rfl rfl) ?_
              refine V2_iload_n (i := 3) d_R_plan_127 rfl rfl ?_
              refine V2_iconst (v := -1) d_R_plan_128 rfl ?_
              refine V2_icmp_eq (tgt := 142) d_R_plan_129 rfl (fun c24 => ?_) (fun c24 => ?_)
              · refine V2_iload (i := 7) d_R_plan_142 rfl ?_
                refine V2_istore_n (i := 3) (l' := [some (.ref 65), some (.int (nI p)), some (.int w), some (.int (nI row)), some (.int (nI B)), some (.int hi), some (.int (nI (10 ^ p))), some (.int (nI row)), some (.int (0 : Int32)), some (.int (1 : Int32))]) d_R_plan_144 rfl (xst_i (Nat.le_of_ble_eq_true rfl) rfl rfl) ?_
                refine V2_aload_n (i := 0) d_R_plan_145 rfl rfl ?_
                refine V2_get (v := G2 65 13) d_R_plan_146 fl_R_200 (by decide) rfl (by decide) rfl rfl ?_
                refine V2_topi (fun v25 ev25 => ?_)
                refine V2_istore (i := 4) (l' := [some (.ref 65), some (.int (nI p)), some (.int w), some (.int (nI row)), some (.int v25), some (.int hi), some (.int (nI (10 ^ p))), some (.int (nI row)), some (.int (0 : Int32)), some (.int (1 : Int32))]) d_R_plan_149 (xst_i (Nat.le_of_ble_eq_true rfl) rfl rfl) ?_
                refine V2_aload_n (i := 0) d_R_plan_151 rfl rfl ?_
                refine V2_get (v := G2 65 14) d_R_plan_152 fl_R_203 (by decide) rfl (by decide) rfl rfl ?_
                refine V2_topi (fun v26 ev26 => ?_)
                refine V2_istore (i := 5) (l' := [some (.ref 65), some (.int (nI p)), some (.int w), some (.int (nI row)), some (.int v25), some (.int v26), some (.int (nI (10 ^ p))), some (.int (nI row)), some (.int (0 : Int32)), some (.int (1 : Int32))]) d_R_plan_155 (xst_i (Nat.le_of_ble_eq_true rfl) rfl rfl) ?_
                obtain ⟨v27, ev27⟩ : ∃ y : Int32, y = nI row + 1 := ⟨_, rfl⟩
                refine V2_iinc (i := 7) (v := v27) (l' := [some (.ref 65), some (.int (nI p)), some (.int w), some (.int (nI row)), some (.int v25), some (.int v26), some (.int (nI (10 ^ p))), some (.int v27), some (.int (0 : Int32)), some (.int (1 : Int32))]) d_R_plan_157 rfl (by rw [ev27]; rfl) (xst_i (Nat.le_of_ble_eq_true rfl) rfl rfl) ?_
                refine V2_goto (tgt := 57) d_R_plan_160 rfl ?_
                have ob1 := ob_le (P := PN S) (n := p) (row := row) (S := S)
                have n13 : (G2 65 13).toInt = (obR (trN (PN S) p row S) : Int) := by rw [g2.2.2.1]; exact nI_toInt (by omega)
                have n14 : (G2 65 14).toInt = (abR (trN (PN S) p row S)).toInt := by rw [g2.2.2.2]
                have nB : (nI B).toInt = (B : Int) := nI_toInt (by omega)
                have hc : (bst.toInt = -1 ∨ (0 < obR (trN (PN S) p row S) ∧ (B = 0 ∨ obR (trN (PN S) p row S) < B)) ∨ (obR (trN (PN S) p row S) = 0 ∧ B = 0 ∧ hi.toInt < (abR (trN (PN S) p row S)).toInt)) := (by (try clear hQ); (try subst ev27 ev26 ev25 ev17 ev4 ev2); ((try simp only [xb_eq, xb_ne, Int32.lt_iff_toInt_lt, Int32.le_iff_toInt_le] at *) <;> (try simp only [← Int32.toInt_inj, true_and, false_and, or_false, false_or, or_true, true_or, and_true, and_false] at *) <;> omega))
                have e4 : v25 = nI (obR (trN (PN S) p row S)) := by subst ev27 ev26 ev25 ev17 ev4 ev2; exact g2.2.2.1
                have e5 : v26 = abR (trN (PN S) p row S) := by subst ev27 ev26 ev25 ev17 ev4 ev2; exact g2.2.2.2
                rw [e4, e5, ev27, nI_1]
                refine V2.weak (l' := [some (.ref 65), some (.int (nI p)), some (.int w), some (.int (nI row)), some (.int (nI (obR (trN (PN S) p row S)))), some (.int (abR (trN (PN S) p row S))), some (.int (nI (10 ^ p))), some (.int (nI (row + 1))), none, none]) ?_ ⟨rfl, rfl, rfl, rfl, rfl, rfl, rfl, rfl, trivial⟩
                refine V2.to (ih (row + 1) m (nI row) (obR (trN (PN S) p row S)) (abR (trN (PN S) p row S)) G2 (by omega) (by omega) (g1.tries g2) (by omega) ?_) rfl rfl rfl rfl
                rw [h3]
                show blk (procP p S) (row + 1) m (procP p S row (bst, B, hi)) = _
                rw [pP_t rfl hc]
              · refine V2_iload (i := 8) d_R_plan_132 rfl ?_
                refine V2_if_ne (tgt := 142) d_R_plan_134 rfl (fun c => (by first | exact absurd c (by decide) | exact absurd (by decide) c)) (fun _ => ?_)
                refine V2_iload (i := 9) d_R_plan_137 rfl ?_
                refine V2_if_eq (tgt := 157) d_R_plan_139 rfl (fun c => (by first | exact absurd c (by decide) | exact absurd (by decide) c)) (fun _ => ?_)
                refine V2_iload (i := 7) d_R_plan_142 rfl ?_
                refine V2_istore_n (i := 3) (l' := [some (.ref 65), some (.int (nI p)), some (.int w), some (.int (nI row)), some (.int (nI B)), some (.int hi), some (.int (nI (10 ^ p))), some (.int (nI row)), some (.int (0 : Int32)), some (.int (1 : Int32))]) d_R_plan_144 rfl (xst_i (Nat.le_of_ble_eq_true rfl) rfl rfl) ?_
                refine V2_aload_n (i := 0) d_R_plan_145 rfl rfl ?_
                refine V2_get (v := G2 65 13) d_R_plan_146 fl_R_200 (by decide) rfl (by decide) rfl rfl ?_
                refine V2_topi (fun v28 ev28 => ?_)
                refine V2_istore (i := 4) (l' := [some (.ref 65), some (.int (nI p)), some (.int w), some (.int (nI row)), some (.int v28), some (.int hi), some (.int (nI (10 ^ p))), some (.int (nI row)), some (.int (0 : Int32)), some (.int (1 : Int32))]) d_R_plan_149 (xst_i (Nat.le_of_ble_eq_true rfl) rfl rfl) ?_
                refine V2_aload_n (i := 0) d_R_plan_151 rfl rfl ?_
                refine V2_get (v := G2 65 14) d_R_plan_152 fl_R_203 (by decide) rfl (by decide) rfl rfl ?_
                refine V2_topi (fun v29 ev29 => ?_)
                refine V2_istore (i := 5) (l' := [some (.ref 65), some (.int (nI p)), some (.int w), some (.int (nI row)), some (.int v28), some (.int v29), some (.int (nI (10 ^ p))), some (.int (nI row)), some (.int (0 : Int32)), some (.int (1 : Int32))]) d_R_plan_155 (xst_i (Nat.le_of_ble_eq_true rfl) rfl rfl) ?_
                obtain ⟨v30, ev30⟩ : ∃ y : Int32, y = nI row + 1 := ⟨_, rfl⟩
                refine V2_iinc (i := 7) (v := v30) (l' := [some (.ref 65), some (.int (nI p)), some (.int w), some (.int (nI row)), some (.int v28), some (.int v29), some (.int (nI (10 ^ p))), some (.int v30), some (.int (0 : Int32)), some (.int (1 : Int32))]) d_R_plan_157 rfl (by rw [ev30]; rfl) (xst_i (Nat.le_of_ble_eq_true rfl) rfl rfl) ?_
                refine V2_goto (tgt := 57) d_R_plan_160 rfl ?_
                have ob1 := ob_le (P := PN S) (n := p) (row := row) (S := S)
                have n13 : (G2 65 13).toInt = (obR (trN (PN S) p row S) : Int) := by rw [g2.2.2.1]; exact nI_toInt (by omega)
                have n14 : (G2 65 14).toInt = (abR (trN (PN S) p row S)).toInt := by rw [g2.2.2.2]
                have nB : (nI B).toInt = (B : Int) := nI_toInt (by omega)
                have hc : (bst.toInt = -1 ∨ (0 < obR (trN (PN S) p row S) ∧ (B = 0 ∨ obR (trN (PN S) p row S) < B)) ∨ (obR (trN (PN S) p row S) = 0 ∧ B = 0 ∧ hi.toInt < (abR (trN (PN S) p row S)).toInt)) := (by (try clear hQ); (try subst ev30 ev29 ev28 ev17 ev4 ev2); ((try simp only [xb_eq, xb_ne, Int32.lt_iff_toInt_lt, Int32.le_iff_toInt_le] at *) <;> (try simp only [← Int32.toInt_inj, true_and, false_and, or_false, false_or, or_true, true_or, and_true, and_false] at *) <;> omega))
                have e4 : v28 = nI (obR (trN (PN S) p row S)) := by subst ev30 ev29 ev28 ev17 ev4 ev2; exact g2.2.2.1
                have e5 : v29 = abR (trN (PN S) p row S) := by subst ev30 ev29 ev28 ev17 ev4 ev2; exact g2.2.2.2
                rw [e4, e5, ev30, nI_1]
                refine V2.weak (l' := [some (.ref 65), some (.int (nI p)), some (.int w), some (.int (nI row)), some (.int (nI (obR (trN (PN S) p row S)))), some (.int (abR (trN (PN S) p row S))), some (.int (nI (10 ^ p))), some (.int (nI (row + 1))), none, none]) ?_ ⟨rfl, rfl, rfl, rfl, rfl, rfl, rfl, rfl, trivial⟩
                refine V2.to (ih (row + 1) m (nI row) (obR (trN (PN S) p row S)) (abR (trN (PN S) p row S)) G2 (by omega) (by omega) (g1.tries g2) (by omega) ?_) rfl rfl rfl rfl
                rw [h3]
                show blk (procP p S) (row + 1) m (procP p S row (bst, B, hi)) = _
                rw [pP_t rfl hc]
      · refine V2_iload (i := 4) d_R_plan_78 rfl ?_
        refine V2_if_eq (tgt := 92) d_R_plan_80 rfl (fun c31 => ?_) (fun c31 => ?_)
        · refine V2_iconst (v := 1) d_R_plan_92 rfl ?_
          refine V2_goto (tgt := 97) d_R_plan_93 rfl ?_
          refine V2_istore (i := 8) (l' := [some (.ref 65), some (.int (nI p)), some (.int w), some (.int bst), some (.int (nI B)), some (.int hi), some (.int (nI (10 ^ p))), some (.int (nI row)), some (.int (1 : Int32)), none]) d_R_plan_97 (xst_i (Nat.le_of_ble_eq_true rfl) rfl rfl) ?_
          refine V2_aload_n (i := 0) d_R_plan_99 rfl rfl ?_
          refine V2_get (v := G2 65 13) d_R_plan_100 fl_R_200 (by decide) rfl (by decide) rfl rfl ?_
          refine V2_topi (fun v32 ev32 => ?_)
          refine V2_if_ne (tgt := 124) d_R_plan_103 rfl (fun c33 => ?_) (fun c33 => ?_)
          · refine V2_iconst (v := 0) d_R_plan_124 rfl ?_
            refine V2_istore (i := 9) (l' := [some (.ref 65), some (.int (nI p)), some (.int w), some (.int bst), some (.int (nI B)), some (.int hi), some (.int (nI (10 ^ p))), some (.int (nI row)), some (.int (1 : Int32)), some (.int (0 : Int32))]) d_R_plan_125 (xst_i (Nat.le_of_ble_eq_true rfl) rfl rfl) ?_
            refine V2_iload_n (i := 3) d_R_plan_127 rfl rfl ?_
            refine V2_iconst (v := -1) d_R_plan_128 rfl ?_
            refine V2_icmp_eq (tgt := 142) d_R_plan_129 rfl (fun c34 => ?_) (fun c34 => ?_)
            · refine V2_iload (i := 7) d_R_plan_142 rfl ?_
              refine V2_istore_n (i := 3) (l' := [some (.ref 65), some (.int (nI p)), some (.int w), some (.int (nI row)), some (.int (nI B)), some (.int hi), some (.int (nI (10 ^ p))), some (.int (nI row)), some (.int (1 : Int32)), some (.int (0 : Int32))]) d_R_plan_144 rfl (xst_i (Nat.le_of_ble_eq_true rfl) rfl rfl) ?_
              refine V2_aload_n (i := 0) d_R_plan_145 rfl rfl ?_
              refine V2_get (v := G2 65 13) d_R_plan_146 fl_R_200 (by decide) rfl (by decide) rfl rfl ?_
              refine V2_topi (fun v35 ev35 => ?_)
              refine V2_istore (i := 4) (l' := [some (.ref 65), some (.int (nI p)), some (.int w), some (.int (nI row)), some (.int v35), some (.int hi), some (.int (nI (10 ^ p))), some (.int (nI row)), some (.int (1 : Int32)), some (.int (0 : Int32))]) d_R_plan_149 (xst_i (Nat.le_of_ble_eq_true rfl) rfl rfl) ?_
              refine V2_aload_n (i := 0) d_R_plan_151 rfl rfl ?_
              refine V2_get (v := G2 65 14) d_R_plan_152 fl_R_203 (by decide) rfl (by decide) rfl rfl ?_
              refine V2_topi (fun v36 ev36 => ?_)
              refine V2_istore (i := 5) (l' := [some (.ref 65), some (.int (nI p)), some (.int w), some (.int (nI row)), some (.int v35), some (.int v36), some (.int (nI (10 ^ p))), some (.int (nI row)), some (.int (1 : Int32)), some (.int (0 : Int32))]) d_R_plan_155 (xst_i (Nat.le_of_ble_eq_true rfl) rfl rfl) ?_
              obtain ⟨v37, ev37⟩ : ∃ y : Int32, y = nI row + 1 := ⟨_, rfl⟩
              refine V2_iinc (i := 7) (v := v37) (l' := [some (.ref 65), some (.int (nI p)), some (.int w), some (.int (nI row)), some (.int v35), some (.int v36), some (.int (nI (10 ^ p))), some (.int v37), some (.int (1 : Int32)), some (.int (0 : Int32))]) d_R_plan_157 rfl (by rw [ev37]; rfl) (xst_i (Nat.le_of_ble_eq_true rfl) rfl rfl) ?_
              refine V2_goto (tgt := 57) d_R_plan_160 rfl ?_
              have ob1 := ob_le (P := PN S) (n := p) (row := row) (S := S)
              have n13 : (G2 65 13).toInt = (obR (trN (PN S) p row S) : Int) := by rw [g2.2.2.1]; exact nI_toInt (by omega)
              have n14 : (G2 65 14).toInt = (abR (trN (PN S) p row S)).toInt := by rw [g2.2.2.2]
              have nB : (nI B).toInt = (B : Int) := nI_toInt (by omega)
              have hc : (bst.toInt = -1 ∨ (0 < obR (trN (PN S) p row S) ∧ (B = 0 ∨ obR (trN (PN S) p row S) < B)) ∨ (obR (trN (PN S) p row S) = 0 ∧ B = 0 ∧ hi.toInt < (abR (trN (PN S) p row S)).toInt)) := (by (try clear hQ); (try subst ev37 ev36 ev35 ev32 ev2); ((try simp only [xb_eq, xb_ne, Int32.lt_iff_toInt_lt, Int32.le_iff_toInt_le] at *) <;> (try simp only [← Int32.toInt_inj, true_and, false_and, or_false, false_or, or_true, true_or, and_true, and_false] at *) <;> omega))
              have e4 : v35 = nI (obR (trN (PN S) p row S)) := by subst ev37 ev36 ev35 ev32 ev2; exact g2.2.2.1
              have e5 : v36 = abR (trN (PN S) p row S) := by subst ev37 ev36 ev35 ev32 ev2; exact g2.2.2.2
              rw [e4, e5, ev37, nI_1]
              refine V2.weak (l' := [some (.ref 65), some (.int (nI p)), some (.int w), some (.int (nI row)), some (.int (nI (obR (trN (PN S) p row S)))), some (.int (abR (trN (PN S) p row S))), some (.int (nI (10 ^ p))), some (.int (nI (row + 1))), none, none]) ?_ ⟨rfl, rfl, rfl, rfl, rfl, rfl, rfl, rfl, trivial⟩
              refine V2.to (ih (row + 1) m (nI row) (obR (trN (PN S) p row S)) (abR (trN (PN S) p row S)) G2 (by omega) (by omega) (g1.tries g2) (by omega) ?_) rfl rfl rfl rfl
              rw [h3]
              show blk (procP p S) (row + 1) m (procP p S row (bst, B, hi)) = _
              rw [pP_t rfl hc]
            · refine V2_iload (i := 8) d_R_plan_132 rfl ?_
              refine V2_if_ne (tgt := 142) d_R_plan_134 rfl (fun _ => ?_) (fun c => (by first | exact absurd c (by decide) | exact absurd (by decide) c))
              refine V2_iload (i := 7) d_R_plan_142 rfl ?_
              refine V2_istore_n (i := 3) (l' := [some (.ref 65), some (.int (nI p)), some (.int w), some (.int (nI row)), some (.int (nI B)), some (.int hi), some (.int (nI (10 ^ p))), some (.int (nI row)), some (.int (1 : Int32)), some (.int (0 : Int32))]) d_R_plan_144 rfl (xst_i (Nat.le_of_ble_eq_true rfl) rfl rfl) ?_
              refine V2_aload_n (i := 0) d_R_plan_145 rfl rfl ?_
              refine V2_get (v := G2 65 13) d_R_plan_146 fl_R_200 (by decide) rfl (by decide) rfl rfl ?_
              refine V2_topi (fun v38 ev38 => ?_)
              refine V2_istore (i := 4) (l' := [some (.ref 65), some (.int (nI p)), some (.int w), some (.int (nI row)), some (.int v38), some (.int hi), some (.int (nI (10 ^ p))), some (.int (nI row)), some (.int (1 : Int32)), some (.int (0 : Int32))]) d_R_plan_149 (xst_i (Nat.le_of_ble_eq_true rfl) rfl rfl) ?_
              refine V2_aload_n (i := 0) d_R_plan_151 rfl rfl ?_
              refine V2_get (v := G2 65 14) d_R_plan_152 fl_R_203 (by decide) rfl (by decide) rfl rfl ?_
              refine V2_topi (fun v39 ev39 => ?_)
              refine V2_istore (i := 5) (l' := [some (.ref 65), some (.int (nI p)), some (.int w), some (.int (nI row)), some (.int v38), some (.int v39), some (.int (nI (10 ^ p))), some (.int (nI row)), some (.int (1 : Int32)), some (.int (0 : Int32))]) d_R_plan_155 (xst_i (Nat.le_of_ble_eq_true rfl) rfl rfl) ?_
              obtain ⟨v40, ev40⟩ : ∃ y : Int32, y = nI row + 1 := ⟨_, rfl⟩
              refine V2_iinc (i := 7) (v := v40) (l' := [some (.ref 65), some (.int (nI p)), some (.int w), some (.int (nI row)), some (.int v38), some (.int v39), some (.int (nI (10 ^ p))), some (.int v40), some (.int (1 : Int32)), some (.int (0 : Int32))]) d_R_plan_157 rfl (by rw [ev40]; rfl) (xst_i (Nat.le_of_ble_eq_true rfl) rfl rfl) ?_
              refine V2_goto (tgt := 57) d_R_plan_160 rfl ?_
              have ob1 := ob_le (P := PN S) (n := p) (row := row) (S := S)
              have n13 : (G2 65 13).toInt = (obR (trN (PN S) p row S) : Int) := by rw [g2.2.2.1]; exact nI_toInt (by omega)
              have n14 : (G2 65 14).toInt = (abR (trN (PN S) p row S)).toInt := by rw [g2.2.2.2]
              have nB : (nI B).toInt = (B : Int) := nI_toInt (by omega)
              have hc : (bst.toInt = -1 ∨ (0 < obR (trN (PN S) p row S) ∧ (B = 0 ∨ obR (trN (PN S) p row S) < B)) ∨ (obR (trN (PN S) p row S) = 0 ∧ B = 0 ∧ hi.toInt < (abR (trN (PN S) p row S)).toInt)) := (by (try clear hQ); (try subst ev40 ev39 ev38 ev32 ev2); ((try simp only [xb_eq, xb_ne, Int32.lt_iff_toInt_lt, Int32.le_iff_toInt_le] at *) <;> (try simp only [← Int32.toInt_inj, true_and, false_and, or_false, false_or, or_true, true_or, and_true, and_false] at *) <;> omega))
              have e4 : v38 = nI (obR (trN (PN S) p row S)) := by subst ev40 ev39 ev38 ev32 ev2; exact g2.2.2.1
              have e5 : v39 = abR (trN (PN S) p row S) := by subst ev40 ev39 ev38 ev32 ev2; exact g2.2.2.2
              rw [e4, e5, ev40, nI_1]
              refine V2.weak (l' := [some (.ref 65), some (.int (nI p)), some (.int w), some (.int (nI row)), some (.int (nI (obR (trN (PN S) p row S)))), some (.int (abR (trN (PN S) p row S))), some (.int (nI (10 ^ p))), some (.int (nI (row + 1))), none, none]) ?_ ⟨rfl, rfl, rfl, rfl, rfl, rfl, rfl, rfl, trivial⟩
              refine V2.to (ih (row + 1) m (nI row) (obR (trN (PN S) p row S)) (abR (trN (PN S) p row S)) G2 (by omega) (by omega) (g1.tries g2) (by omega) ?_) rfl rfl rfl rfl
              rw [h3]
              show blk (procP p S) (row + 1) m (procP p S row (bst, B, hi)) = _
              rw [pP_t rfl hc]
          · refine V2_iload (i := 4) d_R_plan_106 rfl ?_
            refine V2_if_ne (tgt := 124) d_R_plan_108 rfl (fun c41 => ?_) (fun c41 => ?_)
            · refine V2_iconst (v := 0) d_R_plan_124 rfl ?_
              refine V2_istore (i := 9) (l' := [some (.ref 65), some (.int (nI p)), some (.int w), some (.int bst), some (.int (nI B)), some (.int hi), some (.int (nI (10 ^ p))), some (.int (nI row)), some (.int (1 : Int32)), some (.int (0 : Int32))]) d_R_plan_125 (xst_i (Nat.le_of_ble_eq_true rfl) rfl rfl) ?_
              refine V2_iload_n (i := 3) d_R_plan_127 rfl rfl ?_
              refine V2_iconst (v := -1) d_R_plan_128 rfl ?_
              refine V2_icmp_eq (tgt := 142) d_R_plan_129 rfl (fun c42 => ?_) (fun c42 => ?_)
              · refine V2_iload (i := 7) d_R_plan_142 rfl ?_
                refine V2_istore_n (i := 3) (l' := [some (.ref 65), some (.int (nI p)), some (.int w), some (.int (nI row)), some (.int (nI B)), some (.int hi), some (.int (nI (10 ^ p))), some (.int (nI row)), some (.int (1 : Int32)), some (.int (0 : Int32))]) d_R_plan_144 rfl (xst_i (Nat.le_of_ble_eq_true rfl) rfl rfl) ?_
                refine V2_aload_n (i := 0) d_R_plan_145 rfl rfl ?_
                refine V2_get (v := G2 65 13) d_R_plan_146 fl_R_200 (by decide) rfl (by decide) rfl rfl ?_
                refine V2_topi (fun v43 ev43 => ?_)
                refine V2_istore (i := 4) (l' := [some (.ref 65), some (.int (nI p)), some (.int w), some (.int (nI row)), some (.int v43), some (.int hi), some (.int (nI (10 ^ p))), some (.int (nI row)), some (.int (1 : Int32)), some (.int (0 : Int32))]) d_R_plan_149 (xst_i (Nat.le_of_ble_eq_true rfl) rfl rfl) ?_
                refine V2_aload_n (i := 0) d_R_plan_151 rfl rfl ?_
                refine V2_get (v := G2 65 14) d_R_plan_152 fl_R_203 (by decide) rfl (by decide) rfl rfl ?_
                refine V2_topi (fun v44 ev44 => ?_)
                refine V2_istore (i := 5) (l' := [some (.ref 65), some (.int (nI p)), some (.int w), some (.int (nI row)), some (.int v43), some (.int v44), some (.int (nI (10 ^ p))), some (.int (nI row)), some (.int (1 : Int32)), some (.int (0 : Int32))]) d_R_plan_155 (xst_i (Nat.le_of_ble_eq_true rfl) rfl rfl) ?_
                obtain ⟨v45, ev45⟩ : ∃ y : Int32, y = nI row + 1 := ⟨_, rfl⟩
                refine V2_iinc (i := 7) (v := v45) (l' := [some (.ref 65), some (.int (nI p)), some (.int w), some (.int (nI row)), some (.int v43), some (.int v44), some (.int (nI (10 ^ p))), some (.int v45), some (.int (1 : Int32)), some (.int (0 : Int32))]) d_R_plan_157 rfl (by rw [ev45]; rfl) (xst_i (Nat.le_of_ble_eq_true rfl) rfl rfl) ?_
                refine V2_goto (tgt := 57) d_R_plan_160 rfl ?_
                have ob1 := ob_le (P := PN S) (n := p) (row := row) (S := S)
                have n13 : (G2 65 13).toInt = (obR (trN (PN S) p row S) : Int) := by rw [g2.2.2.1]; exact nI_toInt (by omega)
                have n14 : (G2 65 14).toInt = (abR (trN (PN S) p row S)).toInt := by rw [g2.2.2.2]
                have nB : (nI B).toInt = (B : Int) := nI_toInt (by omega)
                have hc : (bst.toInt = -1 ∨ (0 < obR (trN (PN S) p row S) ∧ (B = 0 ∨ obR (trN (PN S) p row S) < B)) ∨ (obR (trN (PN S) p row S) = 0 ∧ B = 0 ∧ hi.toInt < (abR (trN (PN S) p row S)).toInt)) := (by (try clear hQ); (try subst ev45 ev44 ev43 ev32 ev2); ((try simp only [xb_eq, xb_ne, Int32.lt_iff_toInt_lt, Int32.le_iff_toInt_le] at *) <;> (try simp only [← Int32.toInt_inj, true_and, false_and, or_false, false_or, or_true, true_or, and_true, and_false] at *) <;> omega))
                have e4 : v43 = nI (obR (trN (PN S) p row S)) := by subst ev45 ev44 ev43 ev32 ev2; exact g2.2.2.1
                have e5 : v44 = abR (trN (PN S) p row S) := by subst ev45 ev44 ev43 ev32 ev2; exact g2.2.2.2
                rw [e4, e5, ev45, nI_1]
                refine V2.weak (l' := [some (.ref 65), some (.int (nI p)), some (.int w), some (.int (nI row)), some (.int (nI (obR (trN (PN S) p row S)))), some (.int (abR (trN (PN S) p row S))), some (.int (nI (10 ^ p))), some (.int (nI (row + 1))), none, none]) ?_ ⟨rfl, rfl, rfl, rfl, rfl, rfl, rfl, rfl, trivial⟩
                refine V2.to (ih (row + 1) m (nI row) (obR (trN (PN S) p row S)) (abR (trN (PN S) p row S)) G2 (by omega) (by omega) (g1.tries g2) (by omega) ?_) rfl rfl rfl rfl
                rw [h3]
                show blk (procP p S) (row + 1) m (procP p S row (bst, B, hi)) = _
                rw [pP_t rfl hc]
              · refine V2_iload (i := 8) d_R_plan_132 rfl ?_
                refine V2_if_ne (tgt := 142) d_R_plan_134 rfl (fun _ => ?_) (fun c => (by first | exact absurd c (by decide) | exact absurd (by decide) c))
                refine V2_iload (i := 7) d_R_plan_142 rfl ?_
                refine V2_istore_n (i := 3) (l' := [some (.ref 65), some (.int (nI p)), some (.int w), some (.int (nI row)), some (.int (nI B)), some (.int hi), some (.int (nI (10 ^ p))), some (.int (nI row)), some (.int (1 : Int32)), some (.int (0 : Int32))]) d_R_plan_144 rfl (xst_i (Nat.le_of_ble_eq_true rfl) rfl rfl) ?_
                refine V2_aload_n (i := 0) d_R_plan_145 rfl rfl ?_
                refine V2_get (v := G2 65 13) d_R_plan_146 fl_R_200 (by decide) rfl (by decide) rfl rfl ?_
                refine V2_topi (fun v46 ev46 => ?_)
                refine V2_istore (i := 4) (l' := [some (.ref 65), some (.int (nI p)), some (.int w), some (.int (nI row)), some (.int v46), some (.int hi), some (.int (nI (10 ^ p))), some (.int (nI row)), some (.int (1 : Int32)), some (.int (0 : Int32))]) d_R_plan_149 (xst_i (Nat.le_of_ble_eq_true rfl) rfl rfl) ?_
                refine V2_aload_n (i := 0) d_R_plan_151 rfl rfl ?_
                refine V2_get (v := G2 65 14) d_R_plan_152 fl_R_203 (by decide) rfl (by decide) rfl rfl ?_
                refine V2_topi (fun v47 ev47 => ?_)
                refine V2_istore (i := 5) (l' := [some (.ref 65), some (.int (nI p)), some (.int w), some (.int (nI row)), some (.int v46), some (.int v47), some (.int (nI (10 ^ p))), some (.int (nI row)), some (.int (1 : Int32)), some (.int (0 : Int32))]) d_R_plan_155 (xst_i (Nat.le_of_ble_eq_true rfl) rfl rfl) ?_
                obtain ⟨v48, ev48⟩ : ∃ y : Int32, y = nI row + 1 := ⟨_, rfl⟩
                refine V2_iinc (i := 7) (v := v48) (l' := [some (.ref 65), some (.int (nI p)), some (.int w), some (.int (nI row)), some (.int v46), some (.int v47), some (.int (nI (10 ^ p))), some (.int v48), some (.int (1 : Int32)), some (.int (0 : Int32))]) d_R_plan_157 rfl (by rw [ev48]; rfl) (xst_i (Nat.le_of_ble_eq_true rfl) rfl rfl) ?_
                refine V2_goto (tgt := 57) d_R_plan_160 rfl ?_
                have ob1 := ob_le (P := PN S) (n := p) (row := row) (S := S)
                have n13 : (G2 65 13).toInt = (obR (trN (PN S) p row S) : Int) := by rw [g2.2.2.1]; exact nI_toInt (by omega)
                have n14 : (G2 65 14).toInt = (abR (trN (PN S) p row S)).toInt := by rw [g2.2.2.2]
                have nB : (nI B).toInt = (B : Int) := nI_toInt (by omega)
                have hc : (bst.toInt = -1 ∨ (0 < obR (trN (PN S) p row S) ∧ (B = 0 ∨ obR (trN (PN S) p row S) < B)) ∨ (obR (trN (PN S) p row S) = 0 ∧ B = 0 ∧ hi.toInt < (abR (trN (PN S) p row S)).toInt)) := (by (try clear hQ); (try subst ev48 ev47 ev46 ev32 ev2); ((try simp only [xb_eq, xb_ne, Int32.lt_iff_toInt_lt, Int32.le_iff_toInt_le] at *) <;> (try simp only [← Int32.toInt_inj, true_and, false_and, or_false, false_or, or_true, true_or, and_true, and_false] at *) <;> omega))
                have e4 : v46 = nI (obR (trN (PN S) p row S)) := by subst ev48 ev47 ev46 ev32 ev2; exact g2.2.2.1
                have e5 : v47 = abR (trN (PN S) p row S) := by subst ev48 ev47 ev46 ev32 ev2; exact g2.2.2.2
                rw [e4, e5, ev48, nI_1]
                refine V2.weak (l' := [some (.ref 65), some (.int (nI p)), some (.int w), some (.int (nI row)), some (.int (nI (obR (trN (PN S) p row S)))), some (.int (abR (trN (PN S) p row S))), some (.int (nI (10 ^ p))), some (.int (nI (row + 1))), none, none]) ?_ ⟨rfl, rfl, rfl, rfl, rfl, rfl, rfl, rfl, trivial⟩
                refine V2.to (ih (row + 1) m (nI row) (obR (trN (PN S) p row S)) (abR (trN (PN S) p row S)) G2 (by omega) (by omega) (g1.tries g2) (by omega) ?_) rfl rfl rfl rfl
                rw [h3]
                show blk (procP p S) (row + 1) m (procP p S row (bst, B, hi)) = _
                rw [pP_t rfl hc]
            · refine V2_aload_n (i := 0) d_R_plan_111 rfl rfl ?_
              refine V2_get (v := G2 65 14) d_R_plan_112 fl_R_203 (by decide) rfl (by decide) rfl rfl ?_
              refine V2_topi (fun v49 ev49 => ?_)
              refine V2_iload (i := 5) d_R_plan_115 rfl ?_
              refine V2_icmp_le (tgt := 124) d_R_plan_117 rfl (fun c50 => ?_) (fun c50 => ?_)
              · refine V2_iconst (v := 0) d_R_plan_124 rfl ?_
                refine V2_istore (i := 9) (l' := [some (.ref 65), some (.int (nI p)), some (.int w), some (.int bst), some (.int (nI B)), some (.int hi), some (.int (nI (10 ^ p))), some (.int (nI row)), some (.int (1 : Int32)), some (.int (0 : Int32))]) d_R_plan_125 (xst_i (Nat.le_of_ble_eq_true rfl) rfl rfl) ?_
                refine V2_iload_n (i := 3) d_R_plan_127 rfl rfl ?_
                refine V2_iconst (v := -1) d_R_plan_128 rfl ?_
                refine V2_icmp_eq (tgt := 142) d_R_plan_129 rfl (fun c51 => ?_) (fun c51 => ?_)
                · refine V2_iload (i := 7) d_R_plan_142 rfl ?_
                  refine V2_istore_n (i := 3) (l' := [some (.ref 65), some (.int (nI p)), some (.int w), some (.int (nI row)), some (.int (nI B)), some (.int hi), some (.int (nI (10 ^ p))), some (.int (nI row)), some (.int (1 : Int32)), some (.int (0 : Int32))]) d_R_plan_144 rfl (xst_i (Nat.le_of_ble_eq_true rfl) rfl rfl) ?_
                  refine V2_aload_n (i := 0) d_R_plan_145 rfl rfl ?_
                  refine V2_get (v := G2 65 13) d_R_plan_146 fl_R_200 (by decide) rfl (by decide) rfl rfl ?_
                  refine V2_topi (fun v52 ev52 => ?_)
                  refine V2_istore (i := 4) (l' := [some (.ref 65), some (.int (nI p)), some (.int w), some (.int (nI row)), some (.int v52), some (.int hi), some (.int (nI (10 ^ p))), some (.int (nI row)), some (.int (1 : Int32)), some (.int (0 : Int32))]) d_R_plan_149 (xst_i (Nat.le_of_ble_eq_true rfl) rfl rfl) ?_
                  refine V2_aload_n (i := 0) d_R_plan_151 rfl rfl ?_
                  refine V2_get (v := G2 65 14) d_R_plan_152 fl_R_203 (by decide) rfl (by decide) rfl rfl ?_
                  refine V2_topi (fun v53 ev53 => ?_)
                  refine V2_istore (i := 5) (l' := [some (.ref 65), some (.int (nI p)), some (.int w), some (.int (nI row)), some (.int v52), some (.int v53), some (.int (nI (10 ^ p))), some (.int (nI row)), some (.int (1 : Int32)), some (.int (0 : Int32))]) d_R_plan_155 (xst_i (Nat.le_of_ble_eq_true rfl) rfl rfl) ?_
                  obtain ⟨v54, ev54⟩ : ∃ y : Int32, y = nI row + 1 := ⟨_, rfl⟩
                  refine V2_iinc (i := 7) (v := v54) (l' := [some (.ref 65), some (.int (nI p)), some (.int w), some (.int (nI row)), some (.int v52), some (.int v53), some (.int (nI (10 ^ p))), some (.int v54), some (.int (1 : Int32)), some (.int (0 : Int32))]) d_R_plan_157 rfl (by rw [ev54]; rfl) (xst_i (Nat.le_of_ble_eq_true rfl) rfl rfl) ?_
                  refine V2_goto (tgt := 57) d_R_plan_160 rfl ?_
                  have ob1 := ob_le (P := PN S) (n := p) (row := row) (S := S)
                  have n13 : (G2 65 13).toInt = (obR (trN (PN S) p row S) : Int) := by rw [g2.2.2.1]; exact nI_toInt (by omega)
                  have n14 : (G2 65 14).toInt = (abR (trN (PN S) p row S)).toInt := by rw [g2.2.2.2]
                  have nB : (nI B).toInt = (B : Int) := nI_toInt (by omega)
                  have hc : (bst.toInt = -1 ∨ (0 < obR (trN (PN S) p row S) ∧ (B = 0 ∨ obR (trN (PN S) p row S) < B)) ∨ (obR (trN (PN S) p row S) = 0 ∧ B = 0 ∧ hi.toInt < (abR (trN (PN S) p row S)).toInt)) := (by (try clear hQ); (try subst ev54 ev53 ev52 ev49 ev32 ev2); ((try simp only [xb_eq, xb_ne, Int32.lt_iff_toInt_lt, Int32.le_iff_toInt_le] at *) <;> (try simp only [← Int32.toInt_inj, true_and, false_and, or_false, false_or, or_true, true_or, and_true, and_false] at *) <;> omega))
                  have e4 : v52 = nI (obR (trN (PN S) p row S)) := by subst ev54 ev53 ev52 ev49 ev32 ev2; exact g2.2.2.1
                  have e5 : v53 = abR (trN (PN S) p row S) := by subst ev54 ev53 ev52 ev49 ev32 ev2; exact g2.2.2.2
                  rw [e4, e5, ev54, nI_1]
                  refine V2.weak (l' := [some (.ref 65), some (.int (nI p)), some (.int w), some (.int (nI row)), some (.int (nI (obR (trN (PN S) p row S)))), some (.int (abR (trN (PN S) p row S))), some (.int (nI (10 ^ p))), some (.int (nI (row + 1))), none, none]) ?_ ⟨rfl, rfl, rfl, rfl, rfl, rfl, rfl, rfl, trivial⟩
                  refine V2.to (ih (row + 1) m (nI row) (obR (trN (PN S) p row S)) (abR (trN (PN S) p row S)) G2 (by omega) (by omega) (g1.tries g2) (by omega) ?_) rfl rfl rfl rfl
                  rw [h3]
                  show blk (procP p S) (row + 1) m (procP p S row (bst, B, hi)) = _
                  rw [pP_t rfl hc]
                · refine V2_iload (i := 8) d_R_plan_132 rfl ?_
                  refine V2_if_ne (tgt := 142) d_R_plan_134 rfl (fun _ => ?_) (fun c => (by first | exact absurd c (by decide) | exact absurd (by decide) c))
                  refine V2_iload (i := 7) d_R_plan_142 rfl ?_
                  refine V2_istore_n (i := 3) (l' := [some (.ref 65), some (.int (nI p)), some (.int w), some (.int (nI row)), some (.int (nI B)), some (.int hi), some (.int (nI (10 ^ p))), some (.int (nI row)), some (.int (1 : Int32)), some (.int (0 : Int32))]) d_R_plan_144 rfl (xst_i (Nat.le_of_ble_eq_true rfl) rfl rfl) ?_
                  refine V2_aload_n (i := 0) d_R_plan_145 rfl rfl ?_
                  refine V2_get (v := G2 65 13) d_R_plan_146 fl_R_200 (by decide) rfl (by decide) rfl rfl ?_
                  refine V2_topi (fun v55 ev55 => ?_)
                  refine V2_istore (i := 4) (l' := [some (.ref 65), some (.int (nI p)), some (.int w), some (.int (nI row)), some (.int v55), some (.int hi), some (.int (nI (10 ^ p))), some (.int (nI row)), some (.int (1 : Int32)), some (.int (0 : Int32))]) d_R_plan_149 (xst_i (Nat.le_of_ble_eq_true rfl) rfl rfl) ?_
                  refine V2_aload_n (i := 0) d_R_plan_151 rfl rfl ?_
                  refine V2_get (v := G2 65 14) d_R_plan_152 fl_R_203 (by decide) rfl (by decide) rfl rfl ?_
                  refine V2_topi (fun v56 ev56 => ?_)
                  refine V2_istore (i := 5) (l' := [some (.ref 65), some (.int (nI p)), some (.int w), some (.int (nI row)), some (.int v55), some (.int v56), some (.int (nI (10 ^ p))), some (.int (nI row)), some (.int (1 : Int32)), some (.int (0 : Int32))]) d_R_plan_155 (xst_i (Nat.le_of_ble_eq_true rfl) rfl rfl) ?_
                  obtain ⟨v57, ev57⟩ : ∃ y : Int32, y = nI row + 1 := ⟨_, rfl⟩
                  refine V2_iinc (i := 7) (v := v57) (l' := [some (.ref 65), some (.int (nI p)), some (.int w), some (.int (nI row)), some (.int v55), some (.int v56), some (.int (nI (10 ^ p))), some (.int v57), some (.int (1 : Int32)), some (.int (0 : Int32))]) d_R_plan_157 rfl (by rw [ev57]; rfl) (xst_i (Nat.le_of_ble_eq_true rfl) rfl rfl) ?_
                  refine V2_goto (tgt := 57) d_R_plan_160 rfl ?_
                  have ob1 := ob_le (P := PN S) (n := p) (row := row) (S := S)
                  have n13 : (G2 65 13).toInt = (obR (trN (PN S) p row S) : Int) := by rw [g2.2.2.1]; exact nI_toInt (by omega)
                  have n14 : (G2 65 14).toInt = (abR (trN (PN S) p row S)).toInt := by rw [g2.2.2.2]
                  have nB : (nI B).toInt = (B : Int) := nI_toInt (by omega)
                  have hc : (bst.toInt = -1 ∨ (0 < obR (trN (PN S) p row S) ∧ (B = 0 ∨ obR (trN (PN S) p row S) < B)) ∨ (obR (trN (PN S) p row S) = 0 ∧ B = 0 ∧ hi.toInt < (abR (trN (PN S) p row S)).toInt)) := (by (try clear hQ); (try subst ev57 ev56 ev55 ev49 ev32 ev2); ((try simp only [xb_eq, xb_ne, Int32.lt_iff_toInt_lt, Int32.le_iff_toInt_le] at *) <;> (try simp only [← Int32.toInt_inj, true_and, false_and, or_false, false_or, or_true, true_or, and_true, and_false] at *) <;> omega))
                  have e4 : v55 = nI (obR (trN (PN S) p row S)) := by subst ev57 ev56 ev55 ev49 ev32 ev2; exact g2.2.2.1
                  have e5 : v56 = abR (trN (PN S) p row S) := by subst ev57 ev56 ev55 ev49 ev32 ev2; exact g2.2.2.2
                  rw [e4, e5, ev57, nI_1]
                  refine V2.weak (l' := [some (.ref 65), some (.int (nI p)), some (.int w), some (.int (nI row)), some (.int (nI (obR (trN (PN S) p row S)))), some (.int (abR (trN (PN S) p row S))), some (.int (nI (10 ^ p))), some (.int (nI (row + 1))), none, none]) ?_ ⟨rfl, rfl, rfl, rfl, rfl, rfl, rfl, rfl, trivial⟩
                  refine V2.to (ih (row + 1) m (nI row) (obR (trN (PN S) p row S)) (abR (trN (PN S) p row S)) G2 (by omega) (by omega) (g1.tries g2) (by omega) ?_) rfl rfl rfl rfl
                  rw [h3]
                  show blk (procP p S) (row + 1) m (procP p S row (bst, B, hi)) = _
                  rw [pP_t rfl hc]
              · refine V2_iconst (v := 1) d_R_plan_120 rfl ?_
                refine V2_goto (tgt := 125) d_R_plan_121 rfl ?_
                refine V2_istore (i := 9) (l' := [some (.ref 65), some (.int (nI p)), some (.int w), some (.int bst), some (.int (nI B)), some (.int hi), some (.int (nI (10 ^ p))), some (.int (nI row)), some (.int (1 : Int32)), some (.int (1 : Int32))]) d_R_plan_125 (xst_i (Nat.le_of_ble_eq_true rfl) rfl rfl) ?_
                refine V2_iload_n (i := 3) d_R_plan_127 rfl rfl ?_
                refine V2_iconst (v := -1) d_R_plan_128 rfl ?_
                refine V2_icmp_eq (tgt := 142) d_R_plan_129 rfl (fun c58 => ?_) (fun c58 => ?_)
                · refine V2_iload (i := 7) d_R_plan_142 rfl ?_
                  refine V2_istore_n (i := 3) (l' := [some (.ref 65), some (.int (nI p)), some (.int w), some (.int (nI row)), some (.int (nI B)), some (.int hi), some (.int (nI (10 ^ p))), some (.int (nI row)), some (.int (1 : Int32)), some (.int (1 : Int32))]) d_R_plan_144 rfl (xst_i (Nat.le_of_ble_eq_true rfl) rfl rfl) ?_
                  refine V2_aload_n (i := 0) d_R_plan_145 rfl rfl ?_
                  refine V2_get (v := G2 65 13) d_R_plan_146 fl_R_200 (by decide) rfl (by decide) rfl rfl ?_
                  refine V2_topi (fun v59 ev59 => ?_)
                  refine V2_istore (i := 4) (l' := [some (.ref 65), some (.int (nI p)), some (.int w), some (.int (nI row)), some (.int v59), some (.int hi), some (.int (nI (10 ^ p))), some (.int (nI row)), some (.int (1 : Int32)), some (.int (1 : Int32))]) d_R_plan_149 (xst_i (Nat.le_of_ble_eq_true rfl) rfl rfl) ?_
                  refine V2_aload_n (i := 0) d_R_plan_151 rfl rfl ?_
                  refine V2_get (v := G2 65 14) d_R_plan_152 fl_R_203 (by decide) rfl (by decide) rfl rfl ?_
                  refine V2_topi (fun v60 ev60 => ?_)
                  refine V2_istore (i := 5) (l' := [some (.ref 65), some (.int (nI p)), some (.int w), some (.int (nI row)), some (.int v59), some (.int v60), some (.int (nI (10 ^ p))), some (.int (nI row)), some (.int (1 : Int32)), some (.int (1 : Int32))]) d_R_plan_155 (xst_i (Nat.le_of_ble_eq_true rfl) rfl rfl) ?_
                  obtain ⟨v61, ev61⟩ : ∃ y : Int32, y = nI row + 1 := ⟨_, rfl⟩
                  refine V2_iinc (i := 7) (v := v61) (l' := [some (.ref 65), some (.int (nI p)), some (.int w), some (.int (nI row)), some (.int v59), some (.int v60), some (.int (nI (10 ^ p))), some (.int v61), some (.int (1 : Int32)), some (.int (1 : Int32))]) d_R_plan_157 rfl (by rw [ev61]; rfl) (xst_i (Nat.le_of_ble_eq_true rfl) rfl rfl) ?_
                  refine V2_goto (tgt := 57) d_R_plan_160 rfl ?_
                  have ob1 := ob_le (P := PN S) (n := p) (row := row) (S := S)
                  have n13 : (G2 65 13).toInt = (obR (trN (PN S) p row S) : Int) := by rw [g2.2.2.1]; exact nI_toInt (by omega)
                  have n14 : (G2 65 14).toInt = (abR (trN (PN S) p row S)).toInt := by rw [g2.2.2.2]
                  have nB : (nI B).toInt = (B : Int) := nI_toInt (by omega)
                  have hc : (bst.toInt = -1 ∨ (0 < obR (trN (PN S) p row S) ∧ (B = 0 ∨ obR (trN (PN S) p row S) < B)) ∨ (obR (trN (PN S) p row S) = 0 ∧ B = 0 ∧ hi.toInt < (abR (trN (PN S) p row S)).toInt)) := (by (try clear hQ); (try subst ev61 ev60 ev59 ev49 ev32 ev2); ((try simp only [xb_eq, xb_ne, Int32.lt_iff_toInt_lt, Int32.le_iff_toInt_le] at *) <;> (try simp only [← Int32.toInt_inj, true_and, false_and, or_false, false_or, or_true, true_or, and_true, and_false] at *) <;> omega))
                  have e4 : v59 = nI (obR (trN (PN S) p row S)) := by subst ev61 ev60 ev59 ev49 ev32 ev2; exact g2.2.2.1
                  have e5 : v60 = abR (trN (PN S) p row S) := by subst ev61 ev60 ev59 ev49 ev32 ev2; exact g2.2.2.2
                  rw [e4, e5, ev61, nI_1]
                  refine V2.weak (l' := [some (.ref 65), some (.int (nI p)), some (.int w), some (.int (nI row)), some (.int (nI (obR (trN (PN S) p row S)))), some (.int (abR (trN (PN S) p row S))), some (.int (nI (10 ^ p))), some (.int (nI (row + 1))), none, none]) ?_ ⟨rfl, rfl, rfl, rfl, rfl, rfl, rfl, rfl, trivial⟩
                  refine V2.to (ih (row + 1) m (nI row) (obR (trN (PN S) p row S)) (abR (trN (PN S) p row S)) G2 (by omega) (by omega) (g1.tries g2) (by omega) ?_) rfl rfl rfl rfl
                  rw [h3]
                  show blk (procP p S) (row + 1) m (procP p S row (bst, B, hi)) = _
                  rw [pP_t rfl hc]
                · refine V2_iload (i := 8) d_R_plan_132 rfl ?_
                  refine V2_if_ne (tgt := 142) d_R_plan_134 rfl (fun _ => ?_) (fun c => (by first | exact absurd c (by decide) | exact absurd (by decide) c))
                  refine V2_iload (i := 7) d_R_plan_142 rfl ?_
                  refine V2_istore_n (i := 3) (l' := [some (.ref 65), some (.int (nI p)), some (.int w), some (.int (nI row)), some (.int (nI B)), some (.int hi), some (.int (nI (10 ^ p))), some (.int (nI row)), some (.int (1 : Int32)), some (.int (1 : Int32))]) d_R_plan_144 rfl (xst_i (Nat.le_of_ble_eq_true rfl) rfl rfl) ?_
                  refine V2_aload_n (i := 0) d_R_plan_145 rfl rfl ?_
                  refine V2_get (v := G2 65 13) d_R_plan_146 fl_R_200 (by decide) rfl (by decide) rfl rfl ?_
                  refine V2_topi (fun v62 ev62 => ?_)
                  refine V2_istore (i := 4) (l' := [some (.ref 65), some (.int (nI p)), some (.int w), some (.int (nI row)), some (.int v62), some (.int hi), some (.int (nI (10 ^ p))), some (.int (nI row)), some (.int (1 : Int32)), some (.int (1 : Int32))]) d_R_plan_149 (xst_i (Nat.le_of_ble_eq_true rfl) rfl rfl) ?_
                  refine V2_aload_n (i := 0) d_R_plan_151 rfl rfl ?_
                  refine V2_get (v := G2 65 14) d_R_plan_152 fl_R_203 (by decide) rfl (by decide) rfl rfl ?_
                  refine V2_topi (fun v63 ev63 => ?_)
                  refine V2_istore (i := 5) (l' := [some (.ref 65), some (.int (nI p)), some (.int w), some (.int (nI row)), some (.int v62), some (.int v63), some (.int (nI (10 ^ p))), some (.int (nI row)), some (.int (1 : Int32)), some (.int (1 : Int32))]) d_R_plan_155 (xst_i (Nat.le_of_ble_eq_true rfl) rfl rfl) ?_
                  obtain ⟨v64, ev64⟩ : ∃ y : Int32, y = nI row + 1 := ⟨_, rfl⟩
                  refine V2_iinc (i := 7) (v := v64) (l' := [some (.ref 65), some (.int (nI p)), some (.int w), some (.int (nI row)), some (.int v62), some (.int v63), some (.int (nI (10 ^ p))), some (.int v64), some (.int (1 : Int32)), some (.int (1 : Int32))]) d_R_plan_157 rfl (by rw [ev64]; rfl) (xst_i (Nat.le_of_ble_eq_true rfl) rfl rfl) ?_
                  refine V2_goto (tgt := 57) d_R_plan_160 rfl ?_
                  have ob1 := ob_le (P := PN S) (n := p) (row := row) (S := S)
                  have n13 : (G2 65 13).toInt = (obR (trN (PN S) p row S) : Int) := by rw [g2.2.2.1]; exact nI_toInt (by omega)
                  have n14 : (G2 65 14).toInt = (abR (trN (PN S) p row S)).toInt := by rw [g2.2.2.2]
                  have nB : (nI B).toInt = (B : Int) := nI_toInt (by omega)
                  have hc : (bst.toInt = -1 ∨ (0 < obR (trN (PN S) p row S) ∧ (B = 0 ∨ obR (trN (PN S) p row S) < B)) ∨ (obR (trN (PN S) p row S) = 0 ∧ B = 0 ∧ hi.toInt < (abR (trN (PN S) p row S)).toInt)) := (by (try clear hQ); (try subst ev64 ev63 ev62 ev49 ev32 ev2); ((try simp only [xb_eq, xb_ne, Int32.lt_iff_toInt_lt, Int32.le_iff_toInt_le] at *) <;> (try simp only [← Int32.toInt_inj, true_and, false_and, or_false, false_or, or_true, true_or, and_true, and_false] at *) <;> omega))
                  have e4 : v62 = nI (obR (trN (PN S) p row S)) := by subst ev64 ev63 ev62 ev49 ev32 ev2; exact g2.2.2.1
                  have e5 : v63 = abR (trN (PN S) p row S) := by subst ev64 ev63 ev62 ev49 ev32 ev2; exact g2.2.2.2
                  rw [e4, e5, ev64, nI_1]
                  refine V2.weak (l' := [some (.ref 65), some (.int (nI p)), some (.int w), some (.int (nI row)), some (.int (nI (obR (trN (PN S) p row S)))), some (.int (abR (trN (PN S) p row S))), some (.int (nI (10 ^ p))), some (.int (nI (row + 1))), none, none]) ?_ ⟨rfl, rfl, rfl, rfl, rfl, rfl, rfl, rfl, trivial⟩
                  refine V2.to (ih (row + 1) m (nI row) (obR (trN (PN S) p row S)) (abR (trN (PN S) p row S)) G2 (by omega) (by omega) (g1.tries g2) (by omega) ?_) rfl rfl rfl rfl
                  rw [h3]
                  show blk (procP p S) (row + 1) m (procP p S row (bst, B, hi)) = _
                  rw [pP_t rfl hc]
        · refine V2_aload_n (i := 0) d_R_plan_83 rfl rfl ?_
          refine V2_get (v := G2 65 13) d_R_plan_84 fl_R_200 (by decide) rfl (by decide) rfl rfl ?_
          refine V2_topi (fun v65 ev65 => ?_)
          refine V2_iload (i := 4) d_R_plan_87 rfl ?_
          refine V2_icmp_ge (tgt := 96) d_R_plan_89 rfl (fun c66 => ?_) (fun c66 => ?_)
          · refine V2_iconst (v := 0) d_R_plan_96 rfl ?_
            refine V2_istore (i := 8) (l' := [some (.ref 65), some (.int (nI p)), some (.int w), some (.int bst), some (.int (nI B)), some (.int hi), some (.int (nI (10 ^ p))), some (.int (nI row)), some (.int (0 : Int32)), none]) d_R_plan_97 (xst_i (Nat.le_of_ble_eq_true rfl) rfl rfl) ?_
            refine V2_aload_n (i := 0) d_R_plan_99 rfl rfl ?_
            refine V2_get (v := G2 65 13) d_R_plan_100 fl_R_200 (by decide) rfl (by decide) rfl rfl ?_
            refine V2_topi (fun v67 ev67 => ?_)
            refine V2_if_ne (tgt := 124) d_R_plan_103 rfl (fun c68 => ?_) (fun c68 => ?_)
            · refine V2_iconst (v := 0) d_R_plan_124 rfl ?_
              refine V2_istore (i := 9) (l' := [some (.ref 65), some (.int (nI p)), some (.int w), some (.int bst), some (.int (nI B)), some (.int hi), some (.int (nI (10 ^ p))), some (.int (nI row)), some (.int (0 : Int32)), some (.int (0 : Int32))]) d_R_plan_125 (xst_i (Nat.le_of_ble_eq_true rfl) rfl rfl) ?_
              refine V2_iload_n (i := 3) d_R_plan_127 rfl rfl ?_
              refine V2_iconst (v := -1) d_R_plan_128 rfl ?_
              refine V2_icmp_eq (tgt := 142) d_R_plan_129 rfl (fun c69 => ?_) (fun c69 => ?_)
              · refine V2_iload (i := 7) d_R_plan_142 rfl ?_
                refine V2_istore_n (i := 3) (l' := [some (.ref 65), some (.int (nI p)), some (.int w), some (.int (nI row)), some (.int (nI B)), some (.int hi), some (.int (nI (10 ^ p))), some (.int (nI row)), some (.int (0 : Int32)), some (.int (0 : Int32))]) d_R_plan_144 rfl (xst_i (Nat.le_of_ble_eq_true rfl) rfl rfl) ?_
                refine V2_aload_n (i := 0) d_R_plan_145 rfl rfl ?_
                refine V2_get (v := G2 65 13) d_R_plan_146 fl_R_200 (by decide) rfl (by decide) rfl rfl ?_
                refine V2_topi (fun v70 ev70 => ?_)
                refine V2_istore (i := 4) (l' := [some (.ref 65), some (.int (nI p)), some (.int w), some (.int (nI row)), some (.int v70), some (.int hi), some (.int (nI (10 ^ p))), some (.int (nI row)), some (.int (0 : Int32)), some (.int (0 : Int32))]) d_R_plan_149 (xst_i (Nat.le_of_ble_eq_true rfl) rfl rfl) ?_
                refine V2_aload_n (i := 0) d_R_plan_151 rfl rfl ?_
                refine V2_get (v := G2 65 14) d_R_plan_152 fl_R_203 (by decide) rfl (by decide) rfl rfl ?_
                refine V2_topi (fun v71 ev71 => ?_)
                refine V2_istore (i := 5) (l' := [some (.ref 65), some (.int (nI p)), some (.int w), some (.int (nI row)), some (.int v70), some (.int v71), some (.int (nI (10 ^ p))), some (.int (nI row)), some (.int (0 : Int32)), some (.int (0 : Int32))]) d_R_plan_155 (xst_i (Nat.le_of_ble_eq_true rfl) rfl rfl) ?_
                obtain ⟨v72, ev72⟩ : ∃ y : Int32, y = nI row + 1 := ⟨_, rfl⟩
                refine V2_iinc (i := 7) (v := v72) (l' := [some (.ref 65), some (.int (nI p)), some (.int w), some (.int (nI row)), some (.int v70), some (.int v71), some (.int (nI (10 ^ p))), some (.int v72), some (.int (0 : Int32)), some (.int (0 : Int32))]) d_R_plan_157 rfl (by rw [ev72]; rfl) (xst_i (Nat.le_of_ble_eq_true rfl) rfl rfl) ?_
                refine V2_goto (tgt := 57) d_R_plan_160 rfl ?_
                have ob1 := ob_le (P := PN S) (n := p) (row := row) (S := S)
                have n13 : (G2 65 13).toInt = (obR (trN (PN S) p row S) : Int) := by rw [g2.2.2.1]; exact nI_toInt (by omega)
                have n14 : (G2 65 14).toInt = (abR (trN (PN S) p row S)).toInt := by rw [g2.2.2.2]
                have nB : (nI B).toInt = (B : Int) := nI_toInt (by omega)
                have hc : (bst.toInt = -1 ∨ (0 < obR (trN (PN S) p row S) ∧ (B = 0 ∨ obR (trN (PN S) p row S) < B)) ∨ (obR (trN (PN S) p row S) = 0 ∧ B = 0 ∧ hi.toInt < (abR (trN (PN S) p row S)).toInt)) := (by (try clear hQ); (try subst ev72 ev71 ev70 ev67 ev65 ev2); ((try simp only [xb_eq, xb_ne, Int32.lt_iff_toInt_lt, Int32.le_iff_toInt_le] at *) <;> (try simp only [← Int32.toInt_inj, true_and, false_and, or_false, false_or, or_true, true_or, and_true, and_false] at *) <;> omega))
                have e4 : v70 = nI (obR (trN (PN S) p row S)) := by subst ev72 ev71 ev70 ev67 ev65 ev2; exact g2.2.2.1
                have e5 : v71 = abR (trN (PN S) p row S) := by subst ev72 ev71 ev70 ev67 ev65 ev2; exact g2.2.2.2
                rw [e4, e5, ev72, nI_1]
                refine V2.weak (l' := [some (.ref 65), some (.int (nI p)), some (.int w), some (.int (nI row)), some (.int (nI (obR (trN (PN S) p row S)))), some (.int (abR (trN (PN S) p row S))), some (.int (nI (10 ^ p))), some (.int (nI (row + 1))), none, none]) ?_ ⟨rfl, rfl, rfl, rfl, rfl, rfl, rfl, rfl, trivial⟩
                refine V2.to (ih (row + 1) m (nI row) (obR (trN (PN S) p row S)) (abR (trN (PN S) p row S)) G2 (by omega) (by omega) (g1.tries g2) (by omega) ?_) rfl rfl rfl rfl
                rw [h3]
                show blk (procP p S) (row + 1) m (procP p S row (bst, B, hi)) = _
                rw [pP_t rfl hc]
              · refine V2_iload (i := 8) d_R_plan_132 rfl ?_
                refine V2_if_ne (tgt := 142) d_R_plan_134 rfl (fun c => (by first | exact absurd c (by decide) | exact absurd (by decide) c)) (fun _ => ?_)
                refine V2_iload (i := 9) d_R_plan_137 rfl ?_
                refine V2_if_eq (tgt := 157) d_R_plan_139 rfl (fun _ => ?_) (fun c => (by first | exact absurd c (by decide) | exact absurd (by decide) c))
                obtain ⟨v73, ev73⟩ : ∃ y : Int32, y = nI row + 1 := ⟨_, rfl⟩
                refine V2_iinc (i := 7) (v := v73) (l' := [some (.ref 65), some (.int (nI p)), some (.int w), some (.int bst), some (.int (nI B)), some (.int hi), some (.int (nI (10 ^ p))), some (.int v73), some (.int (0 : Int32)), some (.int (0 : Int32))]) d_R_plan_157 rfl (by rw [ev73]; rfl) (xst_i (Nat.le_of_ble_eq_true rfl) rfl rfl) ?_
                refine V2_goto (tgt := 57) d_R_plan_160 rfl ?_
                have ob1 := ob_le (P := PN S) (n := p) (row := row) (S := S)
                have n13 : (G2 65 13).toInt = (obR (trN (PN S) p row S) : Int) := by rw [g2.2.2.1]; exact nI_toInt (by omega)
                have n14 : (G2 65 14).toInt = (abR (trN (PN S) p row S)).toInt := by rw [g2.2.2.2]
                have nB : (nI B).toInt = (B : Int) := nI_toInt (by omega)
                have hc : ¬ (bst.toInt = -1 ∨ (0 < obR (trN (PN S) p row S) ∧ (B = 0 ∨ obR (trN (PN S) p row S) < B)) ∨ (obR (trN (PN S) p row S) = 0 ∧ B = 0 ∧ hi.toInt < (abR (trN (PN S) p row S)).toInt)) := (by (try clear hQ); (try subst ev73 ev67 ev65 ev2); ((try simp only [xb_eq, xb_ne, Int32.lt_iff_toInt_lt, Int32.le_iff_toInt_le] at *) <;> (try simp only [← Int32.toInt_inj, true_and, false_and, or_false, false_or, or_true, true_or, and_true, and_false] at *) <;> omega))
                rw [ev73, nI_1]
                refine V2.weak (l' := [some (.ref 65), some (.int (nI p)), some (.int w), some (.int bst), some (.int (nI B)), some (.int hi), some (.int (nI (10 ^ p))), some (.int (nI (row + 1))), none, none]) ?_ ⟨rfl, rfl, rfl, rfl, rfl, rfl, rfl, rfl, trivial⟩
                refine V2.to (ih (row + 1) m bst B hi G2 (by omega) (by omega) (g1.tries g2) hB ?_) rfl rfl rfl rfl
                rw [h3]
                show blk (procP p S) (row + 1) m (procP p S row (bst, B, hi)) = _
                rw [pP_f rfl hc]
            · refine V2_iload (i := 4) d_R_plan_106 rfl ?_
              refine V2_if_ne (tgt := 124) d_R_plan_108 rfl (fun c74 => ?_) (fun c74 => ?_)
              · refine V2_iconst (v := 0) d_R_plan_124 rfl ?_
                refine V2_istore (i := 9) (l' := [some (.ref 65), some (.int (nI p)), some (.int w), some (.int bst), some (.int (nI B)), some (.int hi), some (.int (nI (10 ^ p))), some (.int (nI row)), some (.int (0 : Int32)), some (.int (0 : Int32))]) d_R_plan_125 (xst_i (Nat.le_of_ble_eq_true rfl) rfl rfl) ?_
                refine V2_iload_n (i := 3) d_R_plan_127 rfl rfl ?_
                refine V2_iconst (v := -1) d_R_plan_128 rfl ?_
                refine V2_icmp_eq (tgt := 142) d_R_plan_129 rfl (fun c75 => ?_) (fun c75 => ?_)
                · refine V2_iload (i := 7) d_R_plan_142 rfl ?_
                  refine V2_istore_n (i := 3) (l' := [some (.ref 65), some (.int (nI p)), some (.int w), some (.int (nI row)), some (.int (nI B)), some (.int hi), some (.int (nI (10 ^ p))), some (.int (nI row)), some (.int (0 : Int32)), some (.int (0 : Int32))]) d_R_plan_144 rfl (xst_i (Nat.le_of_ble_eq_true rfl) rfl rfl) ?_
                  refine V2_aload_n (i := 0) d_R_plan_145 rfl rfl ?_
                  refine V2_get (v := G2 65 13) d_R_plan_146 fl_R_200 (by decide) rfl (by decide) rfl rfl ?_
                  refine V2_topi (fun v76 ev76 => ?_)
                  refine V2_istore (i := 4) (l' := [some (.ref 65), some (.int (nI p)), some (.int w), some (.int (nI row)), some (.int v76), some (.int hi), some (.int (nI (10 ^ p))), some (.int (nI row)), some (.int (0 : Int32)), some (.int (0 : Int32))]) d_R_plan_149 (xst_i (Nat.le_of_ble_eq_true rfl) rfl rfl) ?_
                  refine V2_aload_n (i := 0) d_R_plan_151 rfl rfl ?_
                  refine V2_get (v := G2 65 14) d_R_plan_152 fl_R_203 (by decide) rfl (by decide) rfl rfl ?_
                  refine V2_topi (fun v77 ev77 => ?_)
                  refine V2_istore (i := 5) (l' := [some (.ref 65), some (.int (nI p)), some (.int w), some (.int (nI row)), some (.int v76), some (.int v77), some (.int (nI (10 ^ p))), some (.int (nI row)), some (.int (0 : Int32)), some (.int (0 : Int32))]) d_R_plan_155 (xst_i (Nat.le_of_ble_eq_true rfl) rfl rfl) ?_
                  obtain ⟨v78, ev78⟩ : ∃ y : Int32, y = nI row + 1 := ⟨_, rfl⟩
                  refine V2_iinc (i := 7) (v := v78) (l' := [some (.ref 65), some (.int (nI p)), some (.int w), some (.int (nI row)), some (.int v76), some (.int v77), some (.int (nI (10 ^ p))), some (.int v78), some (.int (0 : Int32)), some (.int (0 : Int32))]) d_R_plan_157 rfl (by rw [ev78]; rfl) (xst_i (Nat.le_of_ble_eq_true rfl) rfl rfl) ?_
                  refine V2_goto (tgt := 57) d_R_plan_160 rfl ?_
                  have ob1 := ob_le (P := PN S) (n := p) (row := row) (S := S)
                  have n13 : (G2 65 13).toInt = (obR (trN (PN S) p row S) : Int) := by rw [g2.2.2.1]; exact nI_toInt (by omega)
                  have n14 : (G2 65 14).toInt = (abR (trN (PN S) p row S)).toInt := by rw [g2.2.2.2]
                  have nB : (nI B).toInt = (B : Int) := nI_toInt (by omega)
                  have hc : (bst.toInt = -1 ∨ (0 < obR (trN (PN S) p row S) ∧ (B = 0 ∨ obR (trN (PN S) p row S) < B)) ∨ (obR (trN (PN S) p row S) = 0 ∧ B = 0 ∧ hi.toInt < (abR (trN (PN S) p row S)).toInt)) := (by (try clear hQ); (try subst ev78 ev77 ev76 ev67 ev65 ev2); ((try simp only [xb_eq, xb_ne, Int32.lt_iff_toInt_lt, Int32.le_iff_toInt_le] at *) <;> (try simp only [← Int32.toInt_inj, true_and, false_and, or_false, false_or, or_true, true_or, and_true, and_false] at *) <;> omega))
                  have e4 : v76 = nI (obR (trN (PN S) p row S)) := by subst ev78 ev77 ev76 ev67 ev65 ev2; exact g2.2.2.1
                  have e5 : v77 = abR (trN (PN S) p row S) := by subst ev78 ev77 ev76 ev67 ev65 ev2; exact g2.2.2.2
                  rw [e4, e5, ev78, nI_1]
                  refine V2.weak (l' := [some (.ref 65), some (.int (nI p)), some (.int w), some (.int (nI row)), some (.int (nI (obR (trN (PN S) p row S)))), some (.int (abR (trN (PN S) p row S))), some (.int (nI (10 ^ p))), some (.int (nI (row + 1))), none, none]) ?_ ⟨rfl, rfl, rfl, rfl, rfl, rfl, rfl, rfl, trivial⟩
                  refine V2.to (ih (row + 1) m (nI row) (obR (trN (PN S) p row S)) (abR (trN (PN S) p row S)) G2 (by omega) (by omega) (g1.tries g2) (by omega) ?_) rfl rfl rfl rfl
                  rw [h3]
                  show blk (procP p S) (row + 1) m (procP p S row (bst, B, hi)) = _
                  rw [pP_t rfl hc]
                · refine V2_iload (i := 8) d_R_plan_132 rfl ?_
                  refine V2_if_ne (tgt := 142) d_R_plan_134 rfl (fun c => (by first | exact absurd c (by decide) | exact absurd (by decide) c)) (fun _ => ?_)
                  refine V2_iload (i := 9) d_R_plan_137 rfl ?_
                  refine V2_if_eq (tgt := 157) d_R_plan_139 rfl (fun _ => ?_) (fun c => (by first | exact absurd c (by decide) | exact absurd (by decide) c))
                  obtain ⟨v79, ev79⟩ : ∃ y : Int32, y = nI row + 1 := ⟨_, rfl⟩
                  refine V2_iinc (i := 7) (v := v79) (l' := [some (.ref 65), some (.int (nI p)), some (.int w), some (.int bst), some (.int (nI B)), some (.int hi), some (.int (nI (10 ^ p))), some (.int v79), some (.int (0 : Int32)), some (.int (0 : Int32))]) d_R_plan_157 rfl (by rw [ev79]; rfl) (xst_i (Nat.le_of_ble_eq_true rfl) rfl rfl) ?_
                  refine V2_goto (tgt := 57) d_R_plan_160 rfl ?_
                  have ob1 := ob_le (P := PN S) (n := p) (row := row) (S := S)
                  have n13 : (G2 65 13).toInt = (obR (trN (PN S) p row S) : Int) := by rw [g2.2.2.1]; exact nI_toInt (by omega)
                  have n14 : (G2 65 14).toInt = (abR (trN (PN S) p row S)).toInt := by rw [g2.2.2.2]
                  have nB : (nI B).toInt = (B : Int) := nI_toInt (by omega)
                  have hc : ¬ (bst.toInt = -1 ∨ (0 < obR (trN (PN S) p row S) ∧ (B = 0 ∨ obR (trN (PN S) p row S) < B)) ∨ (obR (trN (PN S) p row S) = 0 ∧ B = 0 ∧ hi.toInt < (abR (trN (PN S) p row S)).toInt)) := (by (try clear hQ); (try subst ev79 ev67 ev65 ev2); ((try simp only [xb_eq, xb_ne, Int32.lt_iff_toInt_lt, Int32.le_iff_toInt_le] at *) <;> (try simp only [← Int32.toInt_inj, true_and, false_and, or_false, false_or, or_true, true_or, and_true, and_false] at *) <;> omega))
                  rw [ev79, nI_1]
                  refine V2.weak (l' := [some (.ref 65), some (.int (nI p)), some (.int w), some (.int bst), some (.int (nI B)), some (.int hi), some (.int (nI (10 ^ p))), some (.int (nI (row + 1))), none, none]) ?_ ⟨rfl, rfl, rfl, rfl, rfl, rfl, rfl, rfl, trivial⟩
                  refine V2.to (ih (row + 1) m bst B hi G2 (by omega) (by omega) (g1.tries g2) hB ?_) rfl rfl rfl rfl
                  rw [h3]
                  show blk (procP p S) (row + 1) m (procP p S row (bst, B, hi)) = _
                  rw [pP_f rfl hc]
              · refine V2_aload_n (i := 0) d_R_plan_111 rfl rfl ?_
                refine V2_get (v := G2 65 14) d_R_plan_112 fl_R_203 (by decide) rfl (by decide) rfl rfl ?_
                refine V2_topi (fun v80 ev80 => ?_)
                refine V2_iload (i := 5) d_R_plan_115 rfl ?_
                refine V2_icmp_le (tgt := 124) d_R_plan_117 rfl (fun c81 => ?_) (fun c81 => ?_)
                · refine V2_iconst (v := 0) d_R_plan_124 rfl ?_
                  refine V2_istore (i := 9) (l' := [some (.ref 65), some (.int (nI p)), some (.int w), some (.int bst), some (.int (nI B)), some (.int hi), some (.int (nI (10 ^ p))), some (.int (nI row)), some (.int (0 : Int32)), some (.int (0 : Int32))]) d_R_plan_125 (xst_i (Nat.le_of_ble_eq_true rfl) rfl rfl) ?_
                  refine V2_iload_n (i := 3) d_R_plan_127 rfl rfl ?_
                  refine V2_iconst (v := -1) d_R_plan_128 rfl ?_
                  refine V2_icmp_eq (tgt := 142) d_R_plan_129 rfl (fun c82 => ?_) (fun c82 => ?_)
                  · refine V2_iload (i := 7) d_R_plan_142 rfl ?_
                    refine V2_istore_n (i := 3) (l' := [some (.ref 65), some (.int (nI p)), some (.int w), some (.int (nI row)), some (.int (nI B)), some (.int hi), some (.int (nI (10 ^ p))), some (.int (nI row)), some (.int (0 : Int32)), some (.int (0 : Int32))]) d_R_plan_144 rfl (xst_i (Nat.le_of_ble_eq_true rfl) rfl rfl) ?_
                    refine V2_aload_n (i := 0) d_R_plan_145 rfl rfl ?_
                    refine V2_get (v := G2 65 13) d_R_plan_146 fl_R_200 (by decide) rfl (by decide) rfl rfl ?_
                    refine V2_topi (fun v83 ev83 => ?_)
                    refine V2_istore (i := 4) (l' := [some (.ref 65), some (.int (nI p)), some (.int w), some (.int (nI row)), some (.int v83), some (.int hi), some (.int (nI (10 ^ p))), some (.int (nI row)), some (.int (0 : Int32)), some (.int (0 : Int32))]) d_R_plan_149 (xst_i (Nat.le_of_ble_eq_true rfl) rfl rfl) ?_
                    refine V2_aload_n (i := 0) d_R_plan_151 rfl rfl ?_
                    refine V2_get (v := G2 65 14) d_R_plan_152 fl_R_203 (by decide) rfl (by decide) rfl rfl ?_
                    refine V2_topi (fun v84 ev84 => ?_)
                    refine V2_istore (i := 5) (l' := [some (.ref 65), some (.int (nI p)), some (.int w), some (.int (nI row)), some (.int v83), some (.int v84), some (.int (nI (10 ^ p))), some (.int (nI row)), some (.int (0 : Int32)), some (.int (0 : Int32))]) d_R_plan_155 (xst_i (Nat.le_of_ble_eq_true rfl) rfl rfl) ?_
                    obtain ⟨v85, ev85⟩ : ∃ y : Int32, y = nI row + 1 := ⟨_, rfl⟩
                    refine V2_iinc (i := 7) (v := v85) (l' := [some (.ref 65), some (.int (nI p)), some (.int w), some (.int (nI row)), some (.int v83), some (.int v84), some (.int (nI (10 ^ p))), some (.int v85), some (.int (0 : Int32)), some (.int (0 : Int32))]) d_R_plan_157 rfl (by rw [ev85]; rfl) (xst_i (Nat.le_of_ble_eq_true rfl) rfl rfl) ?_
                    refine V2_goto (tgt := 57) d_R_plan_160 rfl ?_
                    have ob1 := ob_le (P := PN S) (n := p) (row := row) (S := S)
                    have n13 : (G2 65 13).toInt = (obR (trN (PN S) p row S) : Int) := by rw [g2.2.2.1]; exact nI_toInt (by omega)
                    have n14 : (G2 65 14).toInt = (abR (trN (PN S) p row S)).toInt := by rw [g2.2.2.2]
                    have nB : (nI B).toInt = (B : Int) := nI_toInt (by omega)
                    have hc : (bst.toInt = -1 ∨ (0 < obR (trN (PN S) p row S) ∧ (B = 0 ∨ obR (trN (PN S) p row S) < B)) ∨ (obR (trN (PN S) p row S) = 0 ∧ B = 0 ∧ hi.toInt < (abR (trN (PN S) p row S)).toInt)) := (by (try clear hQ); (try subst ev85 ev84 ev83 ev80 ev67 ev65 ev2); ((try simp only [xb_eq, xb_ne, Int32.lt_iff_toInt_lt, Int32.le_iff_toInt_le] at *) <;> (try simp only [← Int32.toInt_inj, true_and, false_and, or_false, false_or, or_true, true_or, and_true, and_false] at *) <;> omega))
                    have e4 : v83 = nI (obR (trN (PN S) p row S)) := by subst ev85 ev84 ev83 ev80 ev67 ev65 ev2; exact g2.2.2.1
                    have e5 : v84 = abR (trN (PN S) p row S) := by subst ev85 ev84 ev83 ev80 ev67 ev65 ev2; exact g2.2.2.2
                    rw [e4, e5, ev85, nI_1]
                    refine V2.weak (l' := [some (.ref 65), some (.int (nI p)), some (.int w), some (.int (nI row)), some (.int (nI (obR (trN (PN S) p row S)))), some (.int (abR (trN (PN S) p row S))), some (.int (nI (10 ^ p))), some (.int (nI (row + 1))), none, none]) ?_ ⟨rfl, rfl, rfl, rfl, rfl, rfl, rfl, rfl, trivial⟩
                    refine V2.to (ih (row + 1) m (nI row) (obR (trN (PN S) p row S)) (abR (trN (PN S) p row S)) G2 (by omega) (by omega) (g1.tries g2) (by omega) ?_) rfl rfl rfl rfl
                    rw [h3]
                    show blk (procP p S) (row + 1) m (procP p S row (bst, B, hi)) = _
                    rw [pP_t rfl hc]
                  · refine V2_iload (i := 8) d_R_plan_132 rfl ?_
                    refine V2_if_ne (tgt := 142) d_R_plan_134 rfl (fun c => (by first | exact absurd c (by decide) | exact absurd (by decide) c)) (fun _ => ?_)
                    refine V2_iload (i := 9) d_R_plan_137 rfl ?_
                    refine V2_if_eq (tgt := 157) d_R_plan_139 rfl (fun _ => ?_) (fun c => (by first | exact absurd c (by decide) | exact absurd (by decide) c))
                    obtain ⟨v86, ev86⟩ : ∃ y : Int32, y = nI row + 1 := ⟨_, rfl⟩
                    refine V2_iinc (i := 7) (v := v86) (l' := [some (.ref 65), some (.int (nI p)), some (.int w), some (.int bst), some (.int (nI B)), some (.int hi), some (.int (nI (10 ^ p))), some (.int v86), some (.int (0 : Int32)), some (.int (0 : Int32))]) d_R_plan_157 rfl (by rw [ev86]; rfl) (xst_i (Nat.le_of_ble_eq_true rfl) rfl rfl) ?_
                    refine V2_goto (tgt := 57) d_R_plan_160 rfl ?_
                    have ob1 := ob_le (P := PN S) (n := p) (row := row) (S := S)
                    have n13 : (G2 65 13).toInt = (obR (trN (PN S) p row S) : Int) := by rw [g2.2.2.1]; exact nI_toInt (by omega)
                    have n14 : (G2 65 14).toInt = (abR (trN (PN S) p row S)).toInt := by rw [g2.2.2.2]
                    have nB : (nI B).toInt = (B : Int) := nI_toInt (by omega)
                    have hc : ¬ (bst.toInt = -1 ∨ (0 < obR (trN (PN S) p row S) ∧ (B = 0 ∨ obR (trN (PN S) p row S) < B)) ∨ (obR (trN (PN S) p row S) = 0 ∧ B = 0 ∧ hi.toInt < (abR (trN (PN S) p row S)).toInt)) := (by (try clear hQ); (try subst ev86 ev80 ev67 ev65 ev2); ((try simp only [xb_eq, xb_ne, Int32.lt_iff_toInt_lt, Int32.le_iff_toInt_le] at *) <;> (try simp only [← Int32.toInt_inj, true_and, false_and, or_false, false_or, or_true, true_or, and_true, and_false] at *) <;> omega))
                    rw [ev86, nI_1]
                    refine V2.weak (l' := [some (.ref 65), some (.int (nI p)), some (.int w), some (.int bst), some (.int (nI B)), some (.int hi), some (.int (nI (10 ^ p))), some (.int (nI (row + 1))), none, none]) ?_ ⟨rfl, rfl, rfl, rfl, rfl, rfl, rfl, rfl, trivial⟩
                    refine V2.to (ih (row + 1) m bst B hi G2 (by omega) (by omega) (g1.tries g2) hB ?_) rfl rfl rfl rfl
                    rw [h3]
                    show blk (procP p S) (row + 1) m (procP p S row (bst, B, hi)) = _
                    rw [pP_f rfl hc]
                · refine V2_iconst (v := 1) d_R_plan_120 rfl ?_
                  refine V2_goto (tgt := 125) d_R_plan_121 rfl ?_
                  refine V2_istore (i := 9) (l' := [some (.ref 65), some (.int (nI p)), some (.int w), some (.int bst), some (.int (nI B)), some (.int hi), some (.int (nI (10 ^ p))), some (.int (nI row)), some (.int (0 : Int32)), some (.int (1 : Int32))]) d_R_plan_125 (xst_i (Nat.le_of_ble_eq_true rfl) rfl rfl) ?_
                  refine V2_iload_n (i := 3) d_R_plan_127 rfl rfl ?_
                  refine V2_iconst (v := -1) d_R_plan_128 rfl ?_
                  refine V2_icmp_eq (tgt := 142) d_R_plan_129 rfl (fun c87 => ?_) (fun c87 => ?_)
                  · refine V2_iload (i := 7) d_R_plan_142 rfl ?_
                    refine V2_istore_n (i := 3) (l' := [some (.ref 65), some (.int (nI p)), some (.int w), some (.int (nI row)), some (.int (nI B)), some (.int hi), some (.int (nI (10 ^ p))), some (.int (nI row)), some (.int (0 : Int32)), some (.int (1 : Int32))]) d_R_plan_144 rfl (xst_i (Nat.le_of_ble_eq_true rfl) rfl rfl) ?_
                    refine V2_aload_n (i := 0) d_R_plan_145 rfl rfl ?_
                    refine V2_get (v := G2 65 13) d_R_plan_146 fl_R_200 (by decide) rfl (by decide) rfl rfl ?_
                    refine V2_topi (fun v88 ev88 => ?_)
                    refine V2_istore (i := 4) (l' := [some (.ref 65), some (.int (nI p)), some (.int w), some (.int (nI row)), some (.int v88), some (.int hi), some (.int (nI (10 ^ p))), some (.int (nI row)), some (.int (0 : Int32)), some (.int (1 : Int32))]) d_R_plan_149 (xst_i (Nat.le_of_ble_eq_true rfl) rfl rfl) ?_
                    refine V2_aload_n (i := 0) d_R_plan_151 rfl rfl ?_
                    refine V2_get (v := G2 65 14) d_R_plan_152 fl_R_203 (by decide) rfl (by decide) rfl rfl ?_
                    refine V2_topi (fun v89 ev89 => ?_)
                    refine V2_istore (i := 5) (l' := [some (.ref 65), some (.int (nI p)), some (.int w), some (.int (nI row)), some (.int v88), some (.int v89), some (.int (nI (10 ^ p))), some (.int (nI row)), some (.int (0 : Int32)), some (.int (1 : Int32))]) d_R_plan_155 (xst_i (Nat.le_of_ble_eq_true rfl) rfl rfl) ?_
                    obtain ⟨v90, ev90⟩ : ∃ y : Int32, y = nI row + 1 := ⟨_, rfl⟩
                    refine V2_iinc (i := 7) (v := v90) (l' := [some (.ref 65), some (.int (nI p)), some (.int w), some (.int (nI row)), some (.int v88), some (.int v89), some (.int (nI (10 ^ p))), some (.int v90), some (.int (0 : Int32)), some (.int (1 : Int32))]) d_R_plan_157 rfl (by rw [ev90]; rfl) (xst_i (Nat.le_of_ble_eq_true rfl) rfl rfl) ?_
                    refine V2_goto (tgt := 57) d_R_plan_160 rfl ?_
                    have ob1 := ob_le (P := PN S) (n := p) (row := row) (S := S)
                    have n13 : (G2 65 13).toInt = (obR (trN (PN S) p row S) : Int) := by rw [g2.2.2.1]; exact nI_toInt (by omega)
                    have n14 : (G2 65 14).toInt = (abR (trN (PN S) p row S)).toInt := by rw [g2.2.2.2]
                    have nB : (nI B).toInt = (B : Int) := nI_toInt (by omega)
                    have hc : (bst.toInt = -1 ∨ (0 < obR (trN (PN S) p row S) ∧ (B = 0 ∨ obR (trN (PN S) p row S) < B)) ∨ (obR (trN (PN S) p row S) = 0 ∧ B = 0 ∧ hi.toInt < (abR (trN (PN S) p row S)).toInt)) := (by (try clear hQ); (try subst ev90 ev89 ev88 ev80 ev67 ev65 ev2); ((try simp only [xb_eq, xb_ne, Int32.lt_iff_toInt_lt, Int32.le_iff_toInt_le] at *) <;> (try simp only [← Int32.toInt_inj, true_and, false_and, or_false, false_or, or_true, true_or, and_true, and_false] at *) <;> omega))
                    have e4 : v88 = nI (obR (trN (PN S) p row S)) := by subst ev90 ev89 ev88 ev80 ev67 ev65 ev2; exact g2.2.2.1
                    have e5 : v89 = abR (trN (PN S) p row S) := by subst ev90 ev89 ev88 ev80 ev67 ev65 ev2; exact g2.2.2.2
                    rw [e4, e5, ev90, nI_1]
                    refine V2.weak (l' := [some (.ref 65), some (.int (nI p)), some (.int w), some (.int (nI row)), some (.int (nI (obR (trN (PN S) p row S)))), some (.int (abR (trN (PN S) p row S))), some (.int (nI (10 ^ p))), some (.int (nI (row + 1))), none, none]) ?_ ⟨rfl, rfl, rfl, rfl, rfl, rfl, rfl, rfl, trivial⟩
                    refine V2.to (ih (row + 1) m (nI row) (obR (trN (PN S) p row S)) (abR (trN (PN S) p row S)) G2 (by omega) (by omega) (g1.tries g2) (by omega) ?_) rfl rfl rfl rfl
                    rw [h3]
                    show blk (procP p S) (row + 1) m (procP p S row (bst, B, hi)) = _
                    rw [pP_t rfl hc]
                  · refine V2_iload (i := 8) d_R_plan_132 rfl ?_
                    refine V2_if_ne (tgt := 142) d_R_plan_134 rfl (fun c => (by first | exact absurd c (by decide) | exact absurd (by decide) c)) (fun _ => ?_)
                    refine V2_iload (i := 9) d_R_plan_137 rfl ?_
                    refine V2_if_eq (tgt := 157) d_R_plan_139 rfl (fun c => (by first | exact absurd c (by decide) | exact absurd (by decide) c)) (fun _ => ?_)
                    refine V2_iload (i := 7) d_R_plan_142 rfl ?_
                    refine V2_istore_n (i := 3) (l' := [some (.ref 65), some (.int (nI p)), some (.int w), some (.int (nI row)), some (.int (nI B)), some (.int hi), some (.int (nI (10 ^ p))), some (.int (nI row)), some (.int (0 : Int32)), some (.int (1 : Int32))]) d_R_plan_144 rfl (xst_i (Nat.le_of_ble_eq_true rfl) rfl rfl) ?_
                    refine V2_aload_n (i := 0) d_R_plan_145 rfl rfl ?_
                    refine V2_get (v := G2 65 13) d_R_plan_146 fl_R_200 (by decide) rfl (by decide) rfl rfl ?_
                    refine V2_topi (fun v91 ev91 => ?_)
                    refine V2_istore (i := 4) (l' := [some (.ref 65), some (.int (nI p)), some (.int w), some (.int (nI row)), some (.int v91), some (.int hi), some (.int (nI (10 ^ p))), some (.int (nI row)), some (.int (0 : Int32)), some (.int (1 : Int32))]) d_R_plan_149 (xst_i (Nat.le_of_ble_eq_true rfl) rfl rfl) ?_
                    refine V2_aload_n (i := 0) d_R_plan_151 rfl rfl ?_
                    refine V2_get (v := G2 65 14) d_R_plan_152 fl_R_203 (by decide) rfl (by decide) rfl rfl ?_
                    refine V2_topi (fun v92 ev92 => ?_)
                    refine V2_istore (i := 5) (l' := [some (.ref 65), some (.int (nI p)), some (.int w), some (.int (nI row)), some (.int v91), some (.int v92), some (.int (nI (10 ^ p))), some (.int (nI row)), some (.int (0 : Int32)), some (.int (1 : Int32))]) d_R_plan_155 (xst_i (Nat.le_of_ble_eq_true rfl) rfl rfl) ?_
                    obtain ⟨v93, ev93⟩ : ∃ y : Int32, y = nI row + 1 := ⟨_, rfl⟩
                    refine V2_iinc (i := 7) (v := v93) (l' := [some (.ref 65), some (.int (nI p)), some (.int w), some (.int (nI row)), some (.int v91), some (.int v92), some (.int (nI (10 ^ p))), some (.int v93), some (.int (0 : Int32)), some (.int (1 : Int32))]) d_R_plan_157 rfl (by rw [ev93]; rfl) (xst_i (Nat.le_of_ble_eq_true rfl) rfl rfl) ?_
                    refine V2_goto (tgt := 57) d_R_plan_160 rfl ?_
                    have ob1 := ob_le (P := PN S) (n := p) (row := row) (S := S)
                    have n13 : (G2 65 13).toInt = (obR (trN (PN S) p row S) : Int) := by rw [g2.2.2.1]; exact nI_toInt (by omega)
                    have n14 : (G2 65 14).toInt = (abR (trN (PN S) p row S)).toInt := by rw [g2.2.2.2]
                    have nB : (nI B).toInt = (B : Int) := nI_toInt (by omega)
                    have hc : (bst.toInt = -1 ∨ (0 < obR (trN (PN S) p row S) ∧ (B = 0 ∨ obR (trN (PN S) p row S) < B)) ∨ (obR (trN (PN S) p row S) = 0 ∧ B = 0 ∧ hi.toInt < (abR (trN (PN S) p row S)).toInt)) := (by (try clear hQ); (try subst ev93 ev92 ev91 ev80 ev67 ev65 ev2); ((try simp only [xb_eq, xb_ne, Int32.lt_iff_toInt_lt, Int32.le_iff_toInt_le] at *) <;> (try simp only [← Int32.toInt_inj, true_and, false_and, or_false, false_or, or_true, true_or, and_true, and_false] at *) <;> omega))
                    have e4 : v91 = nI (obR (trN (PN S) p row S)) := by subst ev93 ev92 ev91 ev80 ev67 ev65 ev2; exact g2.2.2.1
                    have e5 : v92 = abR (trN (PN S) p row S) := by subst ev93 ev92 ev91 ev80 ev67 ev65 ev2; exact g2.2.2.2
                    rw [e4, e5, ev93, nI_1]
                    refine V2.weak (l' := [some (.ref 65), some (.int (nI p)), some (.int w), some (.int (nI row)), some (.int (nI (obR (trN (PN S) p row S)))), some (.int (abR (trN (PN S) p row S))), some (.int (nI (10 ^ p))), some (.int (nI (row + 1))), none, none]) ?_ ⟨rfl, rfl, rfl, rfl, rfl, rfl, rfl, rfl, trivial⟩
                    refine V2.to (ih (row + 1) m (nI row) (obR (trN (PN S) p row S)) (abR (trN (PN S) p row S)) G2 (by omega) (by omega) (g1.tries g2) (by omega) ?_) rfl rfl rfl rfl
                    rw [h3]
                    show blk (procP p S) (row + 1) m (procP p S row (bst, B, hi)) = _
                    rw [pP_t rfl hc]
          · refine V2_iconst (v := 1) d_R_plan_92 rfl ?_
            refine V2_goto (tgt := 97) d_R_plan_93 rfl ?_
            refine V2_istore (i := 8) (l' := [some (.ref 65), some (.int (nI p)), some (.int w), some (.int bst), some (.int (nI B)), some (.int hi), some (.int (nI (10 ^ p))), some (.int (nI row)), some (.int (1 : Int32)), none]) d_R_plan_97 (xst_i (Nat.le_of_ble_eq_true rfl) rfl rfl) ?_
            refine V2_aload_n (i := 0) d_R_plan_99 rfl rfl ?_
            refine V2_get (v := G2 65 13) d_R_plan_100 fl_R_200 (by decide) rfl (by decide) rfl rfl ?_
            refine V2_topi (fun v94 ev94 => ?_)
            refine V2_if_ne (tgt := 124) d_R_plan_103 rfl (fun c95 => ?_) (fun c95 => ?_)
            · refine V2_iconst (v := 0) d_R_plan_124 rfl ?_
              refine V2_istore (i := 9) (l' := [some (.ref 65), some (.int (nI p)), some (.int w), some (.int bst), some (.int (nI B)), some (.int hi), some (.int (nI (10 ^ p))), some (.int (nI row)), some (.int (1 : Int32)), some (.int (0 : Int32))]) d_R_plan_125 (xst_i (Nat.le_of_ble_eq_true rfl) rfl rfl) ?_
              refine V2_iload_n (i := 3) d_R_plan_127 rfl rfl ?_
              refine V2_iconst (v := -1) d_R_plan_128 rfl ?_
              refine V2_icmp_eq (tgt := 142) d_R_plan_129 rfl (fun c96 => ?_) (fun c96 => ?_)
              · refine V2_iload (i := 7) d_R_plan_142 rfl ?_
                refine V2_istore_n (i := 3) (l' := [some (.ref 65), some (.int (nI p)), some (.int w), some (.int (nI row)), some (.int (nI B)), some (.int hi), some (.int (nI (10 ^ p))), some (.int (nI row)), some (.int (1 : Int32)), some (.int (0 : Int32))]) d_R_plan_144 rfl (xst_i (Nat.le_of_ble_eq_true rfl) rfl rfl) ?_
                refine V2_aload_n (i := 0) d_R_plan_145 rfl rfl ?_
                refine V2_get (v := G2 65 13) d_R_plan_146 fl_R_200 (by decide) rfl (by decide) rfl rfl ?_
                refine V2_topi (fun v97 ev97 => ?_)
                refine V2_istore (i := 4) (l' := [some (.ref 65), some (.int (nI p)), some (.int w), some (.int (nI row)), some (.int v97), some (.int hi), some (.int (nI (10 ^ p))), some (.int (nI row)), some (.int (1 : Int32)), some (.int (0 : Int32))]) d_R_plan_149 (xst_i (Nat.le_of_ble_eq_true rfl) rfl rfl) ?_
                refine V2_aload_n (i := 0) d_R_plan_151 rfl rfl ?_
                refine V2_get (v := G2 65 14) d_R_plan_152 fl_R_203 (by decide) rfl (by decide) rfl rfl ?_
                refine V2_topi (fun v98 ev98 => ?_)
                refine V2_istore (i := 5) (l' := [some (.ref 65), some (.int (nI p)), some (.int w), some (.int (nI row)), some (.int v97), some (.int v98), some (.int (nI (10 ^ p))), some (.int (nI row)), some (.int (1 : Int32)), some (.int (0 : Int32))]) d_R_plan_155 (xst_i (Nat.le_of_ble_eq_true rfl) rfl rfl) ?_
                obtain ⟨v99, ev99⟩ : ∃ y : Int32, y = nI row + 1 := ⟨_, rfl⟩
                refine V2_iinc (i := 7) (v := v99) (l' := [some (.ref 65), some (.int (nI p)), some (.int w), some (.int (nI row)), some (.int v97), some (.int v98), some (.int (nI (10 ^ p))), some (.int v99), some (.int (1 : Int32)), some (.int (0 : Int32))]) d_R_plan_157 rfl (by rw [ev99]; rfl) (xst_i (Nat.le_of_ble_eq_true rfl) rfl rfl) ?_
                refine V2_goto (tgt := 57) d_R_plan_160 rfl ?_
                have ob1 := ob_le (P := PN S) (n := p) (row := row) (S := S)
                have n13 : (G2 65 13).toInt = (obR (trN (PN S) p row S) : Int) := by rw [g2.2.2.1]; exact nI_toInt (by omega)
                have n14 : (G2 65 14).toInt = (abR (trN (PN S) p row S)).toInt := by rw [g2.2.2.2]
                have nB : (nI B).toInt = (B : Int) := nI_toInt (by omega)
                have hc : (bst.toInt = -1 ∨ (0 < obR (trN (PN S) p row S) ∧ (B = 0 ∨ obR (trN (PN S) p row S) < B)) ∨ (obR (trN (PN S) p row S) = 0 ∧ B = 0 ∧ hi.toInt < (abR (trN (PN S) p row S)).toInt)) := (by (try clear hQ); (try subst ev99 ev98 ev97 ev94 ev65 ev2); ((try simp only [xb_eq, xb_ne, Int32.lt_iff_toInt_lt, Int32.le_iff_toInt_le] at *) <;> (try simp only [← Int32.toInt_inj, true_and, false_and, or_false, false_or, or_true, true_or, and_true, and_false] at *) <;> omega))
                have e4 : v97 = nI (obR (trN (PN S) p row S)) := by subst ev99 ev98 ev97 ev94 ev65 ev2; exact g2.2.2.1
                have e5 : v98 = abR (trN (PN S) p row S) := by subst ev99 ev98 ev97 ev94 ev65 ev2; exact g2.2.2.2
                rw [e4, e5, ev99, nI_1]
                refine V2.weak (l' := [some (.ref 65), some (.int (nI p)), some (.int w), some (.int (nI row)), some (.int (nI (obR (trN (PN S) p row S)))), some (.int (abR (trN (PN S) p row S))), some (.int (nI (10 ^ p))), some (.int (nI (row + 1))), none, none]) ?_ ⟨rfl, rfl, rfl, rfl, rfl, rfl, rfl, rfl, trivial⟩
                refine V2.to (ih (row + 1) m (nI row) (obR (trN (PN S) p row S)) (abR (trN (PN S) p row S)) G2 (by omega) (by omega) (g1.tries g2) (by omega) ?_) rfl rfl rfl rfl
                rw [h3]
                show blk (procP p S) (row + 1) m (procP p S row (bst, B, hi)) = _
                rw [pP_t rfl hc]
              · refine V2_iload (i := 8) d_R_plan_132 rfl ?_
                refine V2_if_ne (tgt := 142) d_R_plan_134 rfl (fun _ => ?_) (fun c => (by first | exact absurd c (by decide) | exact absurd (by decide) c))
                refine V2_iload (i := 7) d_R_plan_142 rfl ?_
                refine V2_istore_n (i := 3) (l' := [some (.ref 65), some (.int (nI p)), some (.int w), some (.int (nI row)), some (.int (nI B)), some (.int hi), some (.int (nI (10 ^ p))), some (.int (nI row)), some (.int (1 : Int32)), some (.int (0 : Int32))]) d_R_plan_144 rfl (xst_i (Nat.le_of_ble_eq_true rfl) rfl rfl) ?_
                refine V2_aload_n (i := 0) d_R_plan_145 rfl rfl ?_
                refine V2_get (v := G2 65 13) d_R_plan_146 fl_R_200 (by decide) rfl (by decide) rfl rfl ?_
                refine V2_topi (fun v100 ev100 => ?_)
                refine V2_istore (i := 4) (l' := [some (.ref 65), some (.int (nI p)), some (.int w), some (.int (nI row)), some (.int v100), some (.int hi), some (.int (nI (10 ^ p))), some (.int (nI row)), some (.int (1 : Int32)), some (.int (0 : Int32))]) d_R_plan_149 (xst_i (Nat.le_of_ble_eq_true rfl) rfl rfl) ?_
                refine V2_aload_n (i := 0) d_R_plan_151 rfl rfl ?_
                refine V2_get (v := G2 65 14) d_R_plan_152 fl_R_203 (by decide) rfl (by decide) rfl rfl ?_
                refine V2_topi (fun v101 ev101 => ?_)
                refine V2_istore (i := 5) (l' := [some (.ref 65), some (.int (nI p)), some (.int w), some (.int (nI row)), some (.int v100), some (.int v101), some (.int (nI (10 ^ p))), some (.int (nI row)), some (.int (1 : Int32)), some (.int (0 : Int32))]) d_R_plan_155 (xst_i (Nat.le_of_ble_eq_true rfl) rfl rfl) ?_
                obtain ⟨v102, ev102⟩ : ∃ y : Int32, y = nI row + 1 := ⟨_, rfl⟩
                refine V2_iinc (i := 7) (v := v102) (l' := [some (.ref 65), some (.int (nI p)), some (.int w), some (.int (nI row)), some (.int v100), some (.int v101), some (.int (nI (10 ^ p))), some (.int v102), some (.int (1 : Int32)), some (.int (0 : Int32))]) d_R_plan_157 rfl (by rw [ev102]; rfl) (xst_i (Nat.le_of_ble_eq_true rfl) rfl rfl) ?_
                refine V2_goto (tgt := 57) d_R_plan_160 rfl ?_
                have ob1 := ob_le (P := PN S) (n := p) (row := row) (S := S)
                have n13 : (G2 65 13).toInt = (obR (trN (PN S) p row S) : Int) := by rw [g2.2.2.1]; exact nI_toInt (by omega)
                have n14 : (G2 65 14).toInt = (abR (trN (PN S) p row S)).toInt := by rw [g2.2.2.2]
                have nB : (nI B).toInt = (B : Int) := nI_toInt (by omega)
                have hc : (bst.toInt = -1 ∨ (0 < obR (trN (PN S) p row S) ∧ (B = 0 ∨ obR (trN (PN S) p row S) < B)) ∨ (obR (trN (PN S) p row S) = 0 ∧ B = 0 ∧ hi.toInt < (abR (trN (PN S) p row S)).toInt)) := (by (try clear hQ); (try subst ev102 ev101 ev100 ev94 ev65 ev2); ((try simp only [xb_eq, xb_ne, Int32.lt_iff_toInt_lt, Int32.le_iff_toInt_le] at *) <;> (try simp only [← Int32.toInt_inj, true_and, false_and, or_false, false_or, or_true, true_or, and_true, and_false] at *) <;> omega))
                have e4 : v100 = nI (obR (trN (PN S) p row S)) := by subst ev102 ev101 ev100 ev94 ev65 ev2; exact g2.2.2.1
                have e5 : v101 = abR (trN (PN S) p row S) := by subst ev102 ev101 ev100 ev94 ev65 ev2; exact g2.2.2.2
                rw [e4, e5, ev102, nI_1]
                refine V2.weak (l' := [some (.ref 65), some (.int (nI p)), some (.int w), some (.int (nI row)), some (.int (nI (obR (trN (PN S) p row S)))), some (.int (abR (trN (PN S) p row S))), some (.int (nI (10 ^ p))), some (.int (nI (row + 1))), none, none]) ?_ ⟨rfl, rfl, rfl, rfl, rfl, rfl, rfl, rfl, trivial⟩
                refine V2.to (ih (row + 1) m (nI row) (obR (trN (PN S) p row S)) (abR (trN (PN S) p row S)) G2 (by omega) (by omega) (g1.tries g2) (by omega) ?_) rfl rfl rfl rfl
                rw [h3]
                show blk (procP p S) (row + 1) m (procP p S row (bst, B, hi)) = _
                rw [pP_t rfl hc]
            · refine V2_iload (i := 4) d_R_plan_106 rfl ?_
              refine V2_if_ne (tgt := 124) d_R_plan_108 rfl (fun c103 => ?_) (fun c103 => ?_)
              · refine V2_iconst (v := 0) d_R_plan_124 rfl ?_
                refine V2_istore (i := 9) (l' := [some (.ref 65), some (.int (nI p)), some (.int w), some (.int bst), some (.int (nI B)), some (.int hi), some (.int (nI (10 ^ p))), some (.int (nI row)), some (.int (1 : Int32)), some (.int (0 : Int32))]) d_R_plan_125 (xst_i (Nat.le_of_ble_eq_true rfl) rfl rfl) ?_
                refine V2_iload_n (i := 3) d_R_plan_127 rfl rfl ?_
                refine V2_iconst (v := -1) d_R_plan_128 rfl ?_
                refine V2_icmp_eq (tgt := 142) d_R_plan_129 rfl (fun c104 => ?_) (fun c104 => ?_)
                · refine V2_iload (i := 7) d_R_plan_142 rfl ?_
                  refine V2_istore_n (i := 3) (l' := [some (.ref 65), some (.int (nI p)), some (.int w), some (.int (nI row)), some (.int (nI B)), some (.int hi), some (.int (nI (10 ^ p))), some (.int (nI row)), some (.int (1 : Int32)), some (.int (0 : Int32))]) d_R_plan_144 rfl (xst_i (Nat.le_of_ble_eq_true rfl) rfl rfl) ?_
                  refine V2_aload_n (i := 0) d_R_plan_145 rfl rfl ?_
                  refine V2_get (v := G2 65 13) d_R_plan_146 fl_R_200 (by decide) rfl (by decide) rfl rfl ?_
                  refine V2_topi (fun v105 ev105 => ?_)
                  refine V2_istore (i := 4) (l' := [some (.ref 65), some (.int (nI p)), some (.int w), some (.int (nI row)), some (.int v105), some (.int hi), some (.int (nI (10 ^ p))), some (.int (nI row)), some (.int (1 : Int32)), some (.int (0 : Int32))]) d_R_plan_149 (xst_i (Nat.le_of_ble_eq_true rfl) rfl rfl) ?_
                  refine V2_aload_n (i := 0) d_R_plan_151 rfl rfl ?_
                  refine V2_get (v := G2 65 14) d_R_plan_152 fl_R_203 (by decide) rfl (by decide) rfl rfl ?_
                  refine V2_topi (fun v106 ev106 => ?_)
                  refine V2_istore (i := 5) (l' := [some (.ref 65), some (.int (nI p)), some (.int w), some (.int (nI row)), some (.int v105), some (.int v106), some (.int (nI (10 ^ p))), some (.int (nI row)), some (.int (1 : Int32)), some (.int (0 : Int32))]) d_R_plan_155 (xst_i (Nat.le_of_ble_eq_true rfl) rfl rfl) ?_
                  obtain ⟨v107, ev107⟩ : ∃ y : Int32, y = nI row + 1 := ⟨_, rfl⟩
                  refine V2_iinc (i := 7) (v := v107) (l' := [some (.ref 65), some (.int (nI p)), some (.int w), some (.int (nI row)), some (.int v105), some (.int v106), some (.int (nI (10 ^ p))), some (.int v107), some (.int (1 : Int32)), some (.int (0 : Int32))]) d_R_plan_157 rfl (by rw [ev107]; rfl) (xst_i (Nat.le_of_ble_eq_true rfl) rfl rfl) ?_
                  refine V2_goto (tgt := 57) d_R_plan_160 rfl ?_
                  have ob1 := ob_le (P := PN S) (n := p) (row := row) (S := S)
                  have n13 : (G2 65 13).toInt = (obR (trN (PN S) p row S) : Int) := by rw [g2.2.2.1]; exact nI_toInt (by omega)
                  have n14 : (G2 65 14).toInt = (abR (trN (PN S) p row S)).toInt := by rw [g2.2.2.2]
                  have nB : (nI B).toInt = (B : Int) := nI_toInt (by omega)
                  have hc : (bst.toInt = -1 ∨ (0 < obR (trN (PN S) p row S) ∧ (B = 0 ∨ obR (trN (PN S) p row S) < B)) ∨ (obR (trN (PN S) p row S) = 0 ∧ B = 0 ∧ hi.toInt < (abR (trN (PN S) p row S)).toInt)) := (by (try clear hQ); (try subst ev107 ev106 ev105 ev94 ev65 ev2); ((try simp only [xb_eq, xb_ne, Int32.lt_iff_toInt_lt, Int32.le_iff_toInt_le] at *) <;> (try simp only [← Int32.toInt_inj, true_and, false_and, or_false, false_or, or_true, true_or, and_true, and_false] at *) <;> omega))
                  have e4 : v105 = nI (obR (trN (PN S) p row S)) := by subst ev107 ev106 ev105 ev94 ev65 ev2; exact g2.2.2.1
                  have e5 : v106 = abR (trN (PN S) p row S) := by subst ev107 ev106 ev105 ev94 ev65 ev2; exact g2.2.2.2
                  rw [e4, e5, ev107, nI_1]
                  refine V2.weak (l' := [some (.ref 65), some (.int (nI p)), some (.int w), some (.int (nI row)), some (.int (nI (obR (trN (PN S) p row S)))), some (.int (abR (trN (PN S) p row S))), some (.int (nI (10 ^ p))), some (.int (nI (row + 1))), none, none]) ?_ ⟨rfl, rfl, rfl, rfl, rfl, rfl, rfl, rfl, trivial⟩
                  refine V2.to (ih (row + 1) m (nI row) (obR (trN (PN S) p row S)) (abR (trN (PN S) p row S)) G2 (by omega) (by omega) (g1.tries g2) (by omega) ?_) rfl rfl rfl rfl
                  rw [h3]
                  show blk (procP p S) (row + 1) m (procP p S row (bst, B, hi)) = _
                  rw [pP_t rfl hc]
                · refine V2_iload (i := 8) d_R_plan_132 rfl ?_
                  refine V2_if_ne (tgt := 142) d_R_plan_134 rfl (fun _ => ?_) (fun c => (by first | exact absurd c (by decide) | exact absurd (by decide) c))
                  refine V2_iload (i := 7) d_R_plan_142 rfl ?_
                  refine V2_istore_n (i := 3) (l' := [some (.ref 65), some (.int (nI p)), some (.int w), some (.int (nI row)), some (.int (nI B)), some (.int hi), some (.int (nI (10 ^ p))), some (.int (nI row)), some (.int (1 : Int32)), some (.int (0 : Int32))]) d_R_plan_144 rfl (xst_i (Nat.le_of_ble_eq_true rfl) rfl rfl) ?_
                  refine V2_aload_n (i := 0) d_R_plan_145 rfl rfl ?_
                  refine V2_get (v := G2 65 13) d_R_plan_146 fl_R_200 (by decide) rfl (by decide) rfl rfl ?_
                  refine V2_topi (fun v108 ev108 => ?_)
                  refine V2_istore (i := 4) (l' := [some (.ref 65), some (.int (nI p)), some (.int w), some (.int (nI row)), some (.int v108), some (.int hi), some (.int (nI (10 ^ p))), some (.int (nI row)), some (.int (1 : Int32)), some (.int (0 : Int32))]) d_R_plan_149 (xst_i (Nat.le_of_ble_eq_true rfl) rfl rfl) ?_
                  refine V2_aload_n (i := 0) d_R_plan_151 rfl rfl ?_
                  refine V2_get (v := G2 65 14) d_R_plan_152 fl_R_203 (by decide) rfl (by decide) rfl rfl ?_
                  refine V2_topi (fun v109 ev109 => ?_)
                  refine V2_istore (i := 5) (l' := [some (.ref 65), some (.int (nI p)), some (.int w), some (.int (nI row)), some (.int v108), some (.int v109), some (.int (nI (10 ^ p))), some (.int (nI row)), some (.int (1 : Int32)), some (.int (0 : Int32))]) d_R_plan_155 (xst_i (Nat.le_of_ble_eq_true rfl) rfl rfl) ?_
                  obtain ⟨v110, ev110⟩ : ∃ y : Int32, y = nI row + 1 := ⟨_, rfl⟩
                  refine V2_iinc (i := 7) (v := v110) (l' := [some (.ref 65), some (.int (nI p)), some (.int w), some (.int (nI row)), some (.int v108), some (.int v109), some (.int (nI (10 ^ p))), some (.int v110), some (.int (1 : Int32)), some (.int (0 : Int32))]) d_R_plan_157 rfl (by rw [ev110]; rfl) (xst_i (Nat.le_of_ble_eq_true rfl) rfl rfl) ?_
                  refine V2_goto (tgt := 57) d_R_plan_160 rfl ?_
                  have ob1 := ob_le (P := PN S) (n := p) (row := row) (S := S)
                  have n13 : (G2 65 13).toInt = (obR (trN (PN S) p row S) : Int) := by rw [g2.2.2.1]; exact nI_toInt (by omega)
                  have n14 : (G2 65 14).toInt = (abR (trN (PN S) p row S)).toInt := by rw [g2.2.2.2]
                  have nB : (nI B).toInt = (B : Int) := nI_toInt (by omega)
                  have hc : (bst.toInt = -1 ∨ (0 < obR (trN (PN S) p row S) ∧ (B = 0 ∨ obR (trN (PN S) p row S) < B)) ∨ (obR (trN (PN S) p row S) = 0 ∧ B = 0 ∧ hi.toInt < (abR (trN (PN S) p row S)).toInt)) := (by (try clear hQ); (try subst ev110 ev109 ev108 ev94 ev65 ev2); ((try simp only [xb_eq, xb_ne, Int32.lt_iff_toInt_lt, Int32.le_iff_toInt_le] at *) <;> (try simp only [← Int32.toInt_inj, true_and, false_and, or_false, false_or, or_true, true_or, and_true, and_false] at *) <;> omega))
                  have e4 : v108 = nI (obR (trN (PN S) p row S)) := by subst ev110 ev109 ev108 ev94 ev65 ev2; exact g2.2.2.1
                  have e5 : v109 = abR (trN (PN S) p row S) := by subst ev110 ev109 ev108 ev94 ev65 ev2; exact g2.2.2.2
                  rw [e4, e5, ev110, nI_1]
                  refine V2.weak (l' := [some (.ref 65), some (.int (nI p)), some (.int w), some (.int (nI row)), some (.int (nI (obR (trN (PN S) p row S)))), some (.int (abR (trN (PN S) p row S))), some (.int (nI (10 ^ p))), some (.int (nI (row + 1))), none, none]) ?_ ⟨rfl, rfl, rfl, rfl, rfl, rfl, rfl, rfl, trivial⟩
                  refine V2.to (ih (row + 1) m (nI row) (obR (trN (PN S) p row S)) (abR (trN (PN S) p row S)) G2 (by omega) (by omega) (g1.tries g2) (by omega) ?_) rfl rfl rfl rfl
                  rw [h3]
                  show blk (procP p S) (row + 1) m (procP p S row (bst, B, hi)) = _
                  rw [pP_t rfl hc]
              · refine V2_aload_n (i := 0) d_R_plan_111 rfl rfl ?_
                refine V2_get (v := G2 65 14) d_R_plan_112 fl_R_203 (by decide) rfl (by decide) rfl rfl ?_
                refine V2_topi (fun v111 ev111 => ?_)
                refine V2_iload (i := 5) d_R_plan_115 rfl ?_
                refine V2_icmp_le (tgt := 124) d_R_plan_117 rfl (fun c112 => ?_) (fun c112 => ?_)
                · refine V2_iconst (v := 0) d_R_plan_124 rfl ?_
                  refine V2_istore (i := 9) (l' := [some (.ref 65), some (.int (nI p)), some (.int w), some (.int bst), some (.int (nI B)), some (.int hi), some (.int (nI (10 ^ p))), some (.int (nI row)), some (.int (1 : Int32)), some (.int (0 : Int32))]) d_R_plan_125 (xst_i (Nat.le_of_ble_eq_true rfl) rfl rfl) ?_
                  refine V2_iload_n (i := 3) d_R_plan_127 rfl rfl ?_
                  refine V2_iconst (v := -1) d_R_plan_128 rfl ?_
                  refine V2_icmp_eq (tgt := 142) d_R_plan_129 rfl (fun c113 => ?_) (fun c113 => ?_)
                  · refine V2_iload (i := 7) d_R_plan_142 rfl ?_
                    refine V2_istore_n (i := 3) (l' := [some (.ref 65), some (.int (nI p)), some (.int w), some (.int (nI row)), some (.int (nI B)), some (.int hi), some (.int (nI (10 ^ p))), some (.int (nI row)), some (.int (1 : Int32)), some (.int (0 : Int32))]) d_R_plan_144 rfl (xst_i (Nat.le_of_ble_eq_true rfl) rfl rfl) ?_
                    refine V2_aload_n (i := 0) d_R_plan_145 rfl rfl ?_
                    refine V2_get (v := G2 65 13) d_R_plan_146 fl_R_200 (by decide) rfl (by decide) rfl rfl ?_
                    refine V2_topi (fun v114 ev114 => ?_)
                    refine V2_istore (i := 4) (l' := [some (.ref 65), some (.int (nI p)), some (.int w), some (.int (nI row)), some (.int v114), some (.int hi), some (.int (nI (10 ^ p))), some (.int (nI row)), some (.int (1 : Int32)), some (.int (0 : Int32))]) d_R_plan_149 (xst_i (Nat.le_of_ble_eq_true rfl) rfl rfl) ?_
                    refine V2_aload_n (i := 0) d_R_plan_151 rfl rfl ?_
                    refine V2_get (v := G2 65 14) d_R_plan_152 fl_R_203 (by decide) rfl (by decide) rfl rfl ?_
                    refine V2_topi (fun v115 ev115 => ?_)
                    refine V2_istore (i := 5) (l' := [some (.ref 65), some (.int (nI p)), some (.int w), some (.int (nI row)), some (.int v114), some (.int v115), some (.int (nI (10 ^ p))), some (.int (nI row)), some (.int (1 : Int32)), some (.int (0 : Int32))]) d_R_plan_155 (xst_i (Nat.le_of_ble_eq_true rfl) rfl rfl) ?_
                    obtain ⟨v116, ev116⟩ : ∃ y : Int32, y = nI row + 1 := ⟨_, rfl⟩
                    refine V2_iinc (i := 7) (v := v116) (l' := [some (.ref 65), some (.int (nI p)), some (.int w), some (.int (nI row)), some (.int v114), some (.int v115), some (.int (nI (10 ^ p))), some (.int v116), some (.int (1 : Int32)), some (.int (0 : Int32))]) d_R_plan_157 rfl (by rw [ev116]; rfl) (xst_i (Nat.le_of_ble_eq_true rfl) rfl rfl) ?_
                    refine V2_goto (tgt := 57) d_R_plan_160 rfl ?_
                    have ob1 := ob_le (P := PN S) (n := p) (row := row) (S := S)
                    have n13 : (G2 65 13).toInt = (obR (trN (PN S) p row S) : Int) := by rw [g2.2.2.1]; exact nI_toInt (by omega)
                    have n14 : (G2 65 14).toInt = (abR (trN (PN S) p row S)).toInt := by rw [g2.2.2.2]
                    have nB : (nI B).toInt = (B : Int) := nI_toInt (by omega)
                    have hc : (bst.toInt = -1 ∨ (0 < obR (trN (PN S) p row S) ∧ (B = 0 ∨ obR (trN (PN S) p row S) < B)) ∨ (obR (trN (PN S) p row S) = 0 ∧ B = 0 ∧ hi.toInt < (abR (trN (PN S) p row S)).toInt)) := (by (try clear hQ); (try subst ev116 ev115 ev114 ev111 ev94 ev65 ev2); ((try simp only [xb_eq, xb_ne, Int32.lt_iff_toInt_lt, Int32.le_iff_toInt_le] at *) <;> (try simp only [← Int32.toInt_inj, true_and, false_and, or_false, false_or, or_true, true_or, and_true, and_false] at *) <;> omega))
                    have e4 : v114 = nI (obR (trN (PN S) p row S)) := by subst ev116 ev115 ev114 ev111 ev94 ev65 ev2; exact g2.2.2.1
                    have e5 : v115 = abR (trN (PN S) p row S) := by subst ev116 ev115 ev114 ev111 ev94 ev65 ev2; exact g2.2.2.2
                    rw [e4, e5, ev116, nI_1]
                    refine V2.weak (l' := [some (.ref 65), some (.int (nI p)), some (.int w), some (.int (nI row)), some (.int (nI (obR (trN (PN S) p row S)))), some (.int (abR (trN (PN S) p row S))), some (.int (nI (10 ^ p))), some (.int (nI (row + 1))), none, none]) ?_ ⟨rfl, rfl, rfl, rfl, rfl, rfl, rfl, rfl, trivial⟩
                    refine V2.to (ih (row + 1) m (nI row) (obR (trN (PN S) p row S)) (abR (trN (PN S) p row S)) G2 (by omega) (by omega) (g1.tries g2) (by omega) ?_) rfl rfl rfl rfl
                    rw [h3]
                    show blk (procP p S) (row + 1) m (procP p S row (bst, B, hi)) = _
                    rw [pP_t rfl hc]
                  · refine V2_iload (i := 8) d_R_plan_132 rfl ?_
                    refine V2_if_ne (tgt := 142) d_R_plan_134 rfl (fun _ => ?_) (fun c => (by first | exact absurd c (by decide) | exact absurd (by decide) c))
                    refine V2_iload (i := 7) d_R_plan_142 rfl ?_
                    refine V2_istore_n (i := 3) (l' := [some (.ref 65), some (.int (nI p)), some (.int w), some (.int (nI row)), some (.int (nI B)), some (.int hi), some (.int (nI (10 ^ p))), some (.int (nI row)), some (.int (1 : Int32)), some (.int (0 : Int32))]) d_R_plan_144 rfl (xst_i (Nat.le_of_ble_eq_true rfl) rfl rfl) ?_
                    refine V2_aload_n (i := 0) d_R_plan_145 rfl rfl ?_
                    refine V2_get (v := G2 65 13) d_R_plan_146 fl_R_200 (by decide) rfl (by decide) rfl rfl ?_
                    refine V2_topi (fun v117 ev117 => ?_)
                    refine V2_istore (i := 4) (l' := [some (.ref 65), some (.int (nI p)), some (.int w), some (.int (nI row)), some (.int v117), some (.int hi), some (.int (nI (10 ^ p))), some (.int (nI row)), some (.int (1 : Int32)), some (.int (0 : Int32))]) d_R_plan_149 (xst_i (Nat.le_of_ble_eq_true rfl) rfl rfl) ?_
                    refine V2_aload_n (i := 0) d_R_plan_151 rfl rfl ?_
                    refine V2_get (v := G2 65 14) d_R_plan_152 fl_R_203 (by decide) rfl (by decide) rfl rfl ?_
                    refine V2_topi (fun v118 ev118 => ?_)
                    refine V2_istore (i := 5) (l' := [some (.ref 65), some (.int (nI p)), some (.int w), some (.int (nI row)), some (.int v117), some (.int v118), some (.int (nI (10 ^ p))), some (.int (nI row)), some (.int (1 : Int32)), some (.int (0 : Int32))]) d_R_plan_155 (xst_i (Nat.le_of_ble_eq_true rfl) rfl rfl) ?_
                    obtain ⟨v119, ev119⟩ : ∃ y : Int32, y = nI row + 1 := ⟨_, rfl⟩
                    refine V2_iinc (i := 7) (v := v119) (l' := [some (.ref 65), some (.int (nI p)), some (.int w), some (.int (nI row)), some (.int v117), some (.int v118), some (.int (nI (10 ^ p))), some (.int v119), some (.int (1 : Int32)), some (.int (0 : Int32))]) d_R_plan_157 rfl (by rw [ev119]; rfl) (xst_i (Nat.le_of_ble_eq_true rfl) rfl rfl) ?_
                    refine V2_goto (tgt := 57) d_R_plan_160 rfl ?_
                    have ob1 := ob_le (P := PN S) (n := p) (row := row) (S := S)
                    have n13 : (G2 65 13).toInt = (obR (trN (PN S) p row S) : Int) := by rw [g2.2.2.1]; exact nI_toInt (by omega)
                    have n14 : (G2 65 14).toInt = (abR (trN (PN S) p row S)).toInt := by rw [g2.2.2.2]
                    have nB : (nI B).toInt = (B : Int) := nI_toInt (by omega)
                    have hc : (bst.toInt = -1 ∨ (0 < obR (trN (PN S) p row S) ∧ (B = 0 ∨ obR (trN (PN S) p row S) < B)) ∨ (obR (trN (PN S) p row S) = 0 ∧ B = 0 ∧ hi.toInt < (abR (trN (PN S) p row S)).toInt)) := (by (try clear hQ); (try subst ev119 ev118 ev117 ev111 ev94 ev65 ev2); ((try simp only [xb_eq, xb_ne, Int32.lt_iff_toInt_lt, Int32.le_iff_toInt_le] at *) <;> (try simp only [← Int32.toInt_inj, true_and, false_and, or_false, false_or, or_true, true_or, and_true, and_false] at *) <;> omega))
                    have e4 : v117 = nI (obR (trN (PN S) p row S)) := by subst ev119 ev118 ev117 ev111 ev94 ev65 ev2; exact g2.2.2.1
                    have e5 : v118 = abR (trN (PN S) p row S) := by subst ev119 ev118 ev117 ev111 ev94 ev65 ev2; exact g2.2.2.2
                    rw [e4, e5, ev119, nI_1]
                    refine V2.weak (l' := [some (.ref 65), some (.int (nI p)), some (.int w), some (.int (nI row)), some (.int (nI (obR (trN (PN S) p row S)))), some (.int (abR (trN (PN S) p row S))), some (.int (nI (10 ^ p))), some (.int (nI (row + 1))), none, none]) ?_ ⟨rfl, rfl, rfl, rfl, rfl, rfl, rfl, rfl, trivial⟩
                    refine V2.to (ih (row + 1) m (nI row) (obR (trN (PN S) p row S)) (abR (trN (PN S) p row S)) G2 (by omega) (by omega) (g1.tries g2) (by omega) ?_) rfl rfl rfl rfl
                    rw [h3]
                    show blk (procP p S) (row + 1) m (procP p S row (bst, B, hi)) = _
                    rw [pP_t rfl hc]
                · refine V2_iconst (v := 1) d_R_plan_120 rfl ?_
                  refine V2_goto (tgt := 125) d_R_plan_121 rfl ?_
                  refine V2_istore (i := 9) (l' := [some (.ref 65), some (.int (nI p)), some (.int w), some (.int bst), some (.int (nI B)), some (.int hi), some (.int (nI (10 ^ p))), some (.int (nI row)), some (.int (1 : Int32)), some (.int (1 : Int32))]) d_R_plan_125 (xst_i (Nat.le_of_ble_eq_true rfl) rfl rfl) ?_
                  refine V2_iload_n (i := 3) d_R_plan_127 rfl rfl ?_
                  refine V2_iconst (v := -1) d_R_plan_128 rfl ?_
                  refine V2_icmp_eq (tgt := 142) d_R_plan_129 rfl (fun c120 => ?_) (fun c120 => ?_)
                  · refine V2_iload (i := 7) d_R_plan_142 rfl ?_
                    refine V2_istore_n (i := 3) (l' := [some (.ref 65), some (.int (nI p)), some (.int w), some (.int (nI row)), some (.int (nI B)), some (.int hi), some (.int (nI (10 ^ p))), some (.int (nI row)), some (.int (1 : Int32)), some (.int (1 : Int32))]) d_R_plan_144 rfl (xst_i (Nat.le_of_ble_eq_true rfl) rfl rfl) ?_
                    refine V2_aload_n (i := 0) d_R_plan_145 rfl rfl ?_
                    refine V2_get (v := G2 65 13) d_R_plan_146 fl_R_200 (by decide) rfl (by decide) rfl rfl ?_
                    refine V2_topi (fun v121 ev121 => ?_)
                    refine V2_istore (i := 4) (l' := [some (.ref 65), some (.int (nI p)), some (.int w), some (.int (nI row)), some (.int v121), some (.int hi), some (.int (nI (10 ^ p))), some (.int (nI row)), some (.int (1 : Int32)), some (.int (1 : Int32))]) d_R_plan_149 (xst_i (Nat.le_of_ble_eq_true rfl) rfl rfl) ?_
                    refine V2_aload_n (i := 0) d_R_plan_151 rfl rfl ?_
                    refine V2_get (v := G2 65 14) d_R_plan_152 fl_R_203 (by decide) rfl (by decide) rfl rfl ?_
                    refine V2_topi (fun v122 ev122 => ?_)
                    refine V2_istore (i := 5) (l' := [some (.ref 65), some (.int (nI p)), some (.int w), some (.int (nI row)), some (.int v121), some (.int v122), some (.int (nI (10 ^ p))), some (.int (nI row)), some (.int (1 : Int32)), some (.int (1 : Int32))]) d_R_plan_155 (xst_i (Nat.le_of_ble_eq_true rfl) rfl rfl) ?_
                    obtain ⟨v123, ev123⟩ : ∃ y : Int32, y = nI row + 1 := ⟨_, rfl⟩
                    refine V2_iinc (i := 7) (v := v123) (l' := [some (.ref 65), some (.int (nI p)), some (.int w), some (.int (nI row)), some (.int v121), some (.int v122), some (.int (nI (10 ^ p))), some (.int v123), some (.int (1 : Int32)), some (.int (1 : Int32))]) d_R_plan_157 rfl (by rw [ev123]; rfl) (xst_i (Nat.le_of_ble_eq_true rfl) rfl rfl) ?_
                    refine V2_goto (tgt := 57) d_R_plan_160 rfl ?_
                    have ob1 := ob_le (P := PN S) (n := p) (row := row) (S := S)
                    have n13 : (G2 65 13).toInt = (obR (trN (PN S) p row S) : Int) := by rw [g2.2.2.1]; exact nI_toInt (by omega)
                    have n14 : (G2 65 14).toInt = (abR (trN (PN S) p row S)).toInt := by rw [g2.2.2.2]
                    have nB : (nI B).toInt = (B : Int) := nI_toInt (by omega)
                    have hc : (bst.toInt = -1 ∨ (0 < obR (trN (PN S) p row S) ∧ (B = 0 ∨ obR (trN (PN S) p row S) < B)) ∨ (obR (trN (PN S) p row S) = 0 ∧ B = 0 ∧ hi.toInt < (abR (trN (PN S) p row S)).toInt)) := (by (try clear hQ); (try subst ev123 ev122 ev121 ev111 ev94 ev65 ev2); ((try simp only [xb_eq, xb_ne, Int32.lt_iff_toInt_lt, Int32.le_iff_toInt_le] at *) <;> (try simp only [← Int32.toInt_inj, true_and, false_and, or_false, false_or, or_true, true_or, and_true, and_false] at *) <;> omega))
                    have e4 : v121 = nI (obR (trN (PN S) p row S)) := by subst ev123 ev122 ev121 ev111 ev94 ev65 ev2; exact g2.2.2.1
                    have e5 : v122 = abR (trN (PN S) p row S) := by subst ev123 ev122 ev121 ev111 ev94 ev65 ev2; exact g2.2.2.2
                    rw [e4, e5, ev123, nI_1]
                    refine V2.weak (l' := [some (.ref 65), some (.int (nI p)), some (.int w), some (.int (nI row)), some (.int (nI (obR (trN (PN S) p row S)))), some (.int (abR (trN (PN S) p row S))), some (.int (nI (10 ^ p))), some (.int (nI (row + 1))), none, none]) ?_ ⟨rfl, rfl, rfl, rfl, rfl, rfl, rfl, rfl, trivial⟩
                    refine V2.to (ih (row + 1) m (nI row) (obR (trN (PN S) p row S)) (abR (trN (PN S) p row S)) G2 (by omega) (by omega) (g1.tries g2) (by omega) ?_) rfl rfl rfl rfl
                    rw [h3]
                    show blk (procP p S) (row + 1) m (procP p S row (bst, B, hi)) = _
                    rw [pP_t rfl hc]
                  · refine V2_iload (i := 8) d_R_plan_132 rfl ?_
                    refine V2_if_ne (tgt := 142) d_R_plan_134 rfl (fun _ => ?_) (fun c => (by first | exact absurd c (by decide) | exact absurd (by decide) c))
                    refine V2_iload (i := 7) d_R_plan_142 rfl ?_
                    refine V2_istore_n (i := 3) (l' := [some (.ref 65), some (.int (nI p)), some (.int w), some (.int (nI row)), some (.int (nI B)), some (.int hi), some (.int (nI (10 ^ p))), some (.int (nI row)), some (.int (1 : Int32)), some (.int (1 : Int32))]) d_R_plan_144 rfl (xst_i (Nat.le_of_ble_eq_true rfl) rfl rfl) ?_
                    refine V2_aload_n (i := 0) d_R_plan_145 rfl rfl ?_
                    refine V2_get (v := G2 65 13) d_R_plan_146 fl_R_200 (by decide) rfl (by decide) rfl rfl ?_
                    refine V2_topi (fun v124 ev124 => ?_)
                    refine V2_istore (i := 4) (l' := [some (.ref 65), some (.int (nI p)), some (.int w), some (.int (nI row)), some (.int v124), some (.int hi), some (.int (nI (10 ^ p))), some (.int (nI row)), some (.int (1 : Int32)), some (.int (1 : Int32))]) d_R_plan_149 (xst_i (Nat.le_of_ble_eq_true rfl) rfl rfl) ?_
                    refine V2_aload_n (i := 0) d_R_plan_151 rfl rfl ?_
                    refine V2_get (v := G2 65 14) d_R_plan_152 fl_R_203 (by decide) rfl (by decide) rfl rfl ?_
                    refine V2_topi (fun v125 ev125 => ?_)
                    refine V2_istore (i := 5) (l' := [some (.ref 65), some (.int (nI p)), some (.int w), some (.int (nI row)), some (.int v124), some (.int v125), some (.int (nI (10 ^ p))), some (.int (nI row)), some (.int (1 : Int32)), some (.int (1 : Int32))]) d_R_plan_155 (xst_i (Nat.le_of_ble_eq_true rfl) rfl rfl) ?_
                    obtain ⟨v126, ev126⟩ : ∃ y : Int32, y = nI row + 1 := ⟨_, rfl⟩
                    refine V2_iinc (i := 7) (v := v126) (l' := [some (.ref 65), some (.int (nI p)), some (.int w), some (.int (nI row)), some (.int v124), some (.int v125), some (.int (nI (10 ^ p))), some (.int v126), some (.int (1 : Int32)), some (.int (1 : Int32))]) d_R_plan_157 rfl (by rw [ev126]; rfl) (xst_i (Nat.le_of_ble_eq_true rfl) rfl rfl) ?_
                    refine V2_goto (tgt := 57) d_R_plan_160 rfl ?_
                    have ob1 := ob_le (P := PN S) (n := p) (row := row) (S := S)
                    have n13 : (G2 65 13).toInt = (obR (trN (PN S) p row S) : Int) := by rw [g2.2.2.1]; exact nI_toInt (by omega)
                    have n14 : (G2 65 14).toInt = (abR (trN (PN S) p row S)).toInt := by rw [g2.2.2.2]
                    have nB : (nI B).toInt = (B : Int) := nI_toInt (by omega)
                    have hc : (bst.toInt = -1 ∨ (0 < obR (trN (PN S) p row S) ∧ (B = 0 ∨ obR (trN (PN S) p row S) < B)) ∨ (obR (trN (PN S) p row S) = 0 ∧ B = 0 ∧ hi.toInt < (abR (trN (PN S) p row S)).toInt)) := (by (try clear hQ); (try subst ev126 ev125 ev124 ev111 ev94 ev65 ev2); ((try simp only [xb_eq, xb_ne, Int32.lt_iff_toInt_lt, Int32.le_iff_toInt_le] at *) <;> (try simp only [← Int32.toInt_inj, true_and, false_and, or_false, false_or, or_true, true_or, and_true, and_false] at *) <;> omega))
                    have e4 : v124 = nI (obR (trN (PN S) p row S)) := by subst ev126 ev125 ev124 ev111 ev94 ev65 ev2; exact g2.2.2.1
                    have e5 : v125 = abR (trN (PN S) p row S) := by subst ev126 ev125 ev124 ev111 ev94 ev65 ev2; exact g2.2.2.2
                    rw [e4, e5, ev126, nI_1]
                    refine V2.weak (l' := [some (.ref 65), some (.int (nI p)), some (.int w), some (.int (nI row)), some (.int (nI (obR (trN (PN S) p row S)))), some (.int (abR (trN (PN S) p row S))), some (.int (nI (10 ^ p))), some (.int (nI (row + 1))), none, none]) ?_ ⟨rfl, rfl, rfl, rfl, rfl, rfl, rfl, rfl, trivial⟩
                    refine V2.to (ih (row + 1) m (nI row) (obR (trN (PN S) p row S)) (abR (trN (PN S) p row S)) G2 (by omega) (by omega) (g1.tries g2) (by omega) ?_) rfl rfl rfl rfl
                    rw [h3]
                    show blk (procP p S) (row + 1) m (procP p S row (bst, B, hi)) = _
                    rw [pP_t rfl hc]
theorem c_R_plan_end {L : Nat} {xs : Nat → Int32} {d : Nat} {Q : Option Value → xF → Prop} {F : xF} {p : Nat} {w : Int32} {s9 : Int32 × Nat × Int32} (h1 : 1 ≤ p) (hp : p ≤ 4) (hw1 : -2 ≤ w.toInt) (hw2 : w.toInt ≤ (p : Int) - 1) (hpi : planI p s9) (hQ : Q (some (.int (planA p s9 w))) F) : V2 L xs (d + 6) m_R_plan 163 ([some (.ref 65), some (.int (nI p)), some (.int w), some (.int s9.1), some (.int (nI s9.2.1)), some (.int s9.2.2), some (.int (nI (10 ^ p))), some (.int (nI (10 ^ p))), none, none]) [] F Q := by
  have qm1 : (-1 : Int32).toInt = -1 := by decide
  have qm2 : (-2 : Int32).toInt = -2 := by decide
  have hp4 := pow4 hp
  refine V2_iload_n (i := 2) d_R_plan_163 rfl rfl ?_
  refine V2_bipush (v := -2) d_R_plan_164 rfl ?_
  refine V2_icmp_ne (tgt := 174) d_R_plan_166 rfl (fun c1 => ?_) (fun c1 => ?_)
  · refine V2_iload_n (i := 2) d_R_plan_174 rfl rfl ?_
    refine V2_iconst (v := -1) d_R_plan_175 rfl ?_
    refine V2_icmp_ne (tgt := 184) d_R_plan_176 rfl (fun c2 => ?_) (fun c2 => ?_)
    · obtain ⟨b9, eb9, hb9⟩ := hpi.2
      obtain ⟨z, hz9, epz⟩ := in_of (x := w) (P := p) (by (try clear hQ); (try skip); ((try simp only [xb_eq, xb_ne, Int32.lt_iff_toInt_lt, Int32.le_iff_toInt_le] at *) <;> (try simp only [← Int32.toInt_inj, true_and, false_and, or_false, false_or, or_true, true_or, and_true, and_false] at *) <;> omega)) (by (try clear hQ); (try skip); ((try simp only [xb_eq, xb_ne, Int32.lt_iff_toInt_lt, Int32.le_iff_toInt_le] at *) <;> (try simp only [← Int32.toInt_inj, true_and, false_and, or_false, false_or, or_true, true_or, and_true, and_false] at *) <;> omega)) (by omega)
      subst epz
      have nz : (nI z).toInt = (z : Int) := nI_toInt (by omega)
      have kz : (nI z).toNatClampNeg = z := nI_clamp (by omega)
      rw [eb9]
      refine V2_iload_n (i := 3) d_R_plan_184 rfl rfl ?_
      refine V2_iload_n (i := 2) d_R_plan_185 rfl rfl ?_
      refine V2_iload_n (i := 1) d_R_plan_186 rfl rfl ?_
      refine V2_callS [.int (nI b9), .int (nI z), .int (nI p)] d_R_plan_187 rfl rfl lk_R_197 mo_R_gasAt (Nat.le_of_ble_eq_true rfl) (Nat.le_of_ble_eq_true rfl) ?_
      refine c_R_gasAt (row := b9) (k := z) (n := p) (by omega) (by omega) (by omega) ?_
      refine V2_ireturn d_R_plan_190 rfl ?_
      skip
      exact xQi hQ ((if_neg (by omega)).trans ((if_neg (by omega)).trans (by rw [eb9, kz, nI_clamp (by omega)]))).symm rfl
    · refine V2_iload (i := 5) d_R_plan_179 rfl ?_
      refine V2_goto (tgt := 190) d_R_plan_181 rfl ?_
      refine V2_ireturn d_R_plan_190 rfl ?_
      skip
      exact xQi hQ ((if_neg (by (try clear hQ); (try skip); ((try simp only [xb_eq, xb_ne, Int32.lt_iff_toInt_lt, Int32.le_iff_toInt_le] at *) <;> (try simp only [← Int32.toInt_inj, true_and, false_and, or_false, false_or, or_true, true_or, and_true, and_false] at *) <;> omega))).trans (if_pos (by (try clear hQ); (try skip); ((try simp only [xb_eq, xb_ne, Int32.lt_iff_toInt_lt, Int32.le_iff_toInt_le] at *) <;> (try simp only [← Int32.toInt_inj, true_and, false_and, or_false, false_or, or_true, true_or, and_true, and_false] at *) <;> omega)))).symm rfl
  · refine V2_iload (i := 4) d_R_plan_169 rfl ?_
    refine V2_goto (tgt := 190) d_R_plan_171 rfl ?_
    refine V2_ireturn d_R_plan_190 rfl ?_
    skip
    exact xQi hQ (if_pos (by (try clear hQ); (try skip); ((try simp only [xb_eq, xb_ne, Int32.lt_iff_toInt_lt, Int32.le_iff_toInt_le] at *) <;> (try simp only [← Int32.toInt_inj, true_and, false_and, or_false, false_or, or_true, true_or, and_true, and_false] at *) <;> omega))).symm rfl
set_option maxHeartbeats 2000000 in
theorem c_mod_plan {L : Nat} {xs : Nat → Int32} {d : Nat} {Q : Option Value → xF → Prop} {F : xF} {n w : Int32} {F0 : xF} (hR : Rel F0) (hM : Mid F0 F (k_plan F0 n w).2) (hQ : ∀ F2, Rel F2 → Q (some (.int (k_plan F0 n w).1)) F2) : V2 L xs (d + 6) m_R_plan 0 (xEntry [.ref 65, .int n, .int w] 10) [] F Q := by
  have q0 : (0 : Int32).toInt = 0 := by decide
  have q1 : (1 : Int32).toInt = 1 := by decide
  have q2 : (2 : Int32).toInt = 2 := by decide
  have q3 : (3 : Int32).toInt = 3 := by decide
  have q4 : (4 : Int32).toInt = 4 := by decide
  have q5 : (5 : Int32).toInt = 5 := by decide
  have q6 : (6 : Int32).toInt = 6 := by decide
  have q7 : (7 : Int32).toInt = 7 := by decide
  have q8 : (8 : Int32).toInt = 8 := by decide
  have q9 : (9 : Int32).toInt = 9 := by decide
  have q10 : (10 : Int32).toInt = 10 := by decide
  have q12 : (12 : Int32).toInt = 12 := by decide
  have q16 : (16 : Int32).toInt = 16 := by decide
  have q20 : (20 : Int32).toInt = 20 := by decide
  have q24 : (24 : Int32).toInt = 24 := by decide
  have q30 : (30 : Int32).toInt = 30 := by decide
  have q32 : (32 : Int32).toInt = 32 := by decide
  have q40 : (40 : Int32).toInt = 40 := by decide
  have q60 : (60 : Int32).toInt = 60 := by decide
  have q69 : (69 : Int32).toInt = 69 := by decide
  have q99 : (99 : Int32).toInt = 99 := by decide
  have q9999 : (9999 : Int32).toInt = 9999 := by decide
  have q274 : (274 : Int32).toInt = 274 := by decide
  have q334 : (334 : Int32).toInt = 334 := by decide
  have e66 : F 66 = F0 66 := hM.1 66 (by decide)
  have e66_5 : F 66 5 = F0 66 5 := congrFun e66 5
  have e66_7 : F 66 7 = F0 66 7 := congrFun e66 7
  have s5 : F0 66 5 = 0 ∨ F0 66 5 = 1 := hR.2.1.1.2.2.2.2.2.1
  have e63 : F 65 5 = 63 := (congrFun (hM.1 65 (by decide)) 5).trans hR.2.2.2.1
  have sn1 : 1 ≤ n.toInt → n.toInt ≤ 4 → (n - 1).toInt = n.toInt - 1 := fun a b => toI_sub (by omega) (by omega) (by decide) (by decide)
  have qm1 : (-1 : Int32).toInt = -1 := by decide
  have qm2 : (-2 : Int32).toInt = -2 := by decide
  refine V2.to (l' := [some (.ref 65), some (.int n), some (.int w), none, none, none, none, none, none, none]) ?_ rfl rfl rfl rfl
  refine V2_iload_n (i := 1) d_R_plan_0 rfl rfl ?_
  refine V2_iconst (v := 1) d_R_plan_1 rfl ?_
  refine V2_iconst (v := 4) d_R_plan_2 rfl ?_
  refine V2_callS [.int n, .int (1 : Int32), .int (4 : Int32)] d_R_plan_3 rfl rfl lk_R_51 mo_R_in (Nat.le_of_ble_eq_true rfl) (Nat.le_of_ble_eq_true rfl) ?_
  refine V2.to (l' := [some (.int n), some (.int (1 : Int32)), some (.int (4 : Int32))]) ?_ rfl rfl rfl rfl
  refine V2_iload_n (i := 0) d_R_in_0 rfl rfl ?_
  refine V2_iload_n (i := 1) d_R_in_1 rfl rfl ?_
  refine V2_icmp_lt (tgt := 14) d_R_in_2 rfl (fun c1 => ?_) (fun c1 => ?_)
  · refine V2_iconst (v := 0) d_R_in_14 rfl ?_
    refine V2_zreturn d_R_in_15 rfl (by decide) ?_
    refine V2.to (st' := [.int (0 : Int32)]) ?_ rfl rfl rfl rfl
    refine V2_if_eq (tgt := 21) d_R_plan_6 rfl (fun _ => ?_) (fun c => (by first | exact absurd c (by decide) | exact absurd (by decide) c))
    refine V2_aload_n (i := 0) d_R_plan_21 rfl rfl ?_
    refine V2_iconst (v := 1) d_R_plan_22 rfl ?_
    refine V2_callV [.int (1 : Int32)] d_R_plan_23 rfl rfl lk_R_55 mo_R_error (by decide) rfl rfl rfl (Nat.le_of_ble_eq_true rfl) (Nat.le_of_ble_eq_true rfl) ?_
    refine c_R_error1 ?_
    refine V2_topi (fun v2 ev2 => ?_)
    refine V2_ireturn d_R_plan_26 rfl ?_
    have hb0 : ¬ ((1 ≤ n.toInt ∧ n.toInt ≤ 4) ∧ -2 ≤ w.toInt ∧ w.toInt ≤ n.toInt - 1) := (by (try clear hQ); (try subst ev2); ((try simp only [xb_eq, xb_ne, Int32.lt_iff_toInt_lt, Int32.le_iff_toInt_le] at *) <;> (try simp only [← Int32.toInt_inj, true_and, false_and, or_false, false_or, or_true, true_or, and_true, and_false] at *) <;> omega))
    have e : k_plan F0 n w = (-1000000000 - 1, errF F0 1) := if_neg hb0
    rw [e] at hQ hM
    subst ev2
    exact xQi (hQ _ (rel_err hR hM)) rfl rfl
  · refine V2_iload_n (i := 0) d_R_in_5 rfl rfl ?_
    refine V2_iload_n (i := 2) d_R_in_6 rfl rfl ?_
    refine V2_icmp_gt (tgt := 14) d_R_in_7 rfl (fun c3 => ?_) (fun c3 => ?_)
    · refine V2_iconst (v := 0) d_R_in_14 rfl ?_
      refine V2_zreturn d_R_in_15 rfl (by decide) ?_
      refine V2.to (st' := [.int (0 : Int32)]) ?_ rfl rfl rfl rfl
      refine V2_if_eq (tgt := 21) d_R_plan_6 rfl (fun _ => ?_) (fun c => (by first | exact absurd c (by decide) | exact absurd (by decide) c))
      refine V2_aload_n (i := 0) d_R_plan_21 rfl rfl ?_
      refine V2_iconst (v := 1) d_R_plan_22 rfl ?_
      refine V2_callV [.int (1 : Int32)] d_R_plan_23 rfl rfl lk_R_55 mo_R_error (by decide) rfl rfl rfl (Nat.le_of_ble_eq_true rfl) (Nat.le_of_ble_eq_true rfl) ?_
      refine c_R_error1 ?_
      refine V2_topi (fun v4 ev4 => ?_)
      refine V2_ireturn d_R_plan_26 rfl ?_
      have hb0 : ¬ ((1 ≤ n.toInt ∧ n.toInt ≤ 4) ∧ -2 ≤ w.toInt ∧ w.toInt ≤ n.toInt - 1) := (by (try clear hQ); (try subst ev4); ((try simp only [xb_eq, xb_ne, Int32.lt_iff_toInt_lt, Int32.le_iff_toInt_le] at *) <;> (try simp only [← Int32.toInt_inj, true_and, false_and, or_false, false_or, or_true, true_or, and_true, and_false] at *) <;> omega))
      have e : k_plan F0 n w = (-1000000000 - 1, errF F0 1) := if_neg hb0
      rw [e] at hQ hM
      subst ev4
      exact xQi (hQ _ (rel_err hR hM)) rfl rfl
    · refine V2_iconst (v := 1) d_R_in_10 rfl ?_
      refine V2_goto (tgt := 15) d_R_in_11 rfl ?_
      refine V2_zreturn d_R_in_15 rfl (by decide) ?_
      refine V2.to (st' := [.int (1 : Int32)]) ?_ rfl rfl rfl rfl
      refine V2_if_eq (tgt := 21) d_R_plan_6 rfl (fun c => (by first | exact absurd c (by decide) | exact absurd (by decide) c)) (fun _ => ?_)
      refine V2_iload_n (i := 2) d_R_plan_9 rfl rfl ?_
      refine V2_bipush (v := -2) d_R_plan_10 rfl ?_
      refine V2_iload_n (i := 1) d_R_plan_12 rfl rfl ?_
      refine V2_iconst (v := 1) d_R_plan_13 rfl ?_
      refine V2_isub d_R_plan_14 ?_
      refine V2_topi (fun v5 ev5 => ?_)
      refine V2_callS [.int w, .int (-2 : Int32), .int v5] d_R_plan_15 rfl rfl lk_R_51 mo_R_in (Nat.le_of_ble_eq_true rfl) (Nat.le_of_ble_eq_true rfl) ?_
      refine V2.to (l' := [some (.int w), some (.int (-2 : Int32)), some (.int v5)]) ?_ rfl rfl rfl rfl
      refine V2_iload_n (i := 0) d_R_in_0 rfl rfl ?_
      refine V2_iload_n (i := 1) d_R_in_1 rfl rfl ?_
      refine V2_icmp_lt (tgt := 14) d_R_in_2 rfl (fun c6 => ?_) (fun c6 => ?_)
      · refine V2_iconst (v := 0) d_R_in_14 rfl ?_
        refine V2_zreturn d_R_in_15 rfl (by decide) ?_
        refine V2.to (st' := [.int (0 : Int32)]) ?_ rfl rfl rfl rfl
        refine V2_if_ne (tgt := 27) d_R_plan_18 rfl (fun c => (by first | exact absurd c (by decide) | exact absurd (by decide) c)) (fun _ => ?_)
        refine V2_aload_n (i := 0) d_R_plan_21 rfl rfl ?_
        refine V2_iconst (v := 1) d_R_plan_22 rfl ?_
        refine V2_callV [.int (1 : Int32)] d_R_plan_23 rfl rfl lk_R_55 mo_R_error (by decide) rfl rfl rfl (Nat.le_of_ble_eq_true rfl) (Nat.le_of_ble_eq_true rfl) ?_
        refine c_R_error1 ?_
        refine V2_topi (fun v7 ev7 => ?_)
        refine V2_ireturn d_R_plan_26 rfl ?_
        have hb0 : ¬ ((1 ≤ n.toInt ∧ n.toInt ≤ 4) ∧ -2 ≤ w.toInt ∧ w.toInt ≤ n.toInt - 1) := (by (try clear hQ); (try subst ev7 ev5); ((try simp only [xb_eq, xb_ne, Int32.lt_iff_toInt_lt, Int32.le_iff_toInt_le] at *) <;> (try simp only [← Int32.toInt_inj, true_and, false_and, or_false, false_or, or_true, true_or, and_true, and_false] at *) <;> omega))
        have e : k_plan F0 n w = (-1000000000 - 1, errF F0 1) := if_neg hb0
        rw [e] at hQ hM
        subst ev7 ev5
        exact xQi (hQ _ (rel_err hR hM)) rfl rfl
      · refine V2_iload_n (i := 0) d_R_in_5 rfl rfl ?_
        refine V2_iload_n (i := 2) d_R_in_6 rfl rfl ?_
        refine V2_icmp_gt (tgt := 14) d_R_in_7 rfl (fun c8 => ?_) (fun c8 => ?_)
        · refine V2_iconst (v := 0) d_R_in_14 rfl ?_
          refine V2_zreturn d_R_in_15 rfl (by decide) ?_
          refine V2.to (st' := [.int (0 : Int32)]) ?_ rfl rfl rfl rfl
          refine V2_if_ne (tgt := 27) d_R_plan_18 rfl (fun c => (by first | exact absurd c (by decide) | exact absurd (by decide) c)) (fun _ => ?_)
          refine V2_aload_n (i := 0) d_R_plan_21 rfl rfl ?_
          refine V2_iconst (v := 1) d_R_plan_22 rfl ?_
          refine V2_callV [.int (1 : Int32)] d_R_plan_23 rfl rfl lk_R_55 mo_R_error (by decide) rfl rfl rfl (Nat.le_of_ble_eq_true rfl) (Nat.le_of_ble_eq_true rfl) ?_
          refine c_R_error1 ?_
          refine V2_topi (fun v9 ev9 => ?_)
          refine V2_ireturn d_R_plan_26 rfl ?_
          have hb0 : ¬ ((1 ≤ n.toInt ∧ n.toInt ≤ 4) ∧ -2 ≤ w.toInt ∧ w.toInt ≤ n.toInt - 1) := (by (try clear hQ); (try subst ev9 ev5); ((try simp only [xb_eq, xb_ne, Int32.lt_iff_toInt_lt, Int32.le_iff_toInt_le] at *) <;> (try simp only [← Int32.toInt_inj, true_and, false_and, or_false, false_or, or_true, true_or, and_true, and_false] at *) <;> omega))
          have e : k_plan F0 n w = (-1000000000 - 1, errF F0 1) := if_neg hb0
          rw [e] at hQ hM
          subst ev9 ev5
          exact xQi (hQ _ (rel_err hR hM)) rfl rfl
        · refine V2_iconst (v := 1) d_R_in_10 rfl ?_
          refine V2_goto (tgt := 15) d_R_in_11 rfl ?_
          refine V2_zreturn d_R_in_15 rfl (by decide) ?_
          refine V2.to (st' := [.int (1 : Int32)]) ?_ rfl rfl rfl rfl
          refine V2_if_ne (tgt := 27) d_R_plan_18 rfl (fun _ => ?_) (fun c => (by first | exact absurd c (by decide) | exact absurd (by decide) c))
          obtain ⟨p, hp, epp⟩ := in_of (x := n) (P := 5) (by (try clear hQ); (try subst ev5); ((try simp only [xb_eq, xb_ne, Int32.lt_iff_toInt_lt, Int32.le_iff_toInt_le] at *) <;> (try simp only [← Int32.toInt_inj, true_and, false_and, or_false, false_or, or_true, true_or, and_true, and_false] at *) <;> omega)) (by (try clear hQ); (try subst ev5); ((try simp only [xb_eq, xb_ne, Int32.lt_iff_toInt_lt, Int32.le_iff_toInt_le] at *) <;> (try simp only [← Int32.toInt_inj, true_and, false_and, or_false, false_or, or_true, true_or, and_true, and_false] at *) <;> omega)) (by omega)
          subst epp
          have np : (nI p).toInt = (p : Int) := nI_toInt (by omega)
          have kp : (nI p).toNatClampNeg = p := nI_clamp (by omega)
          have hp1 : 1 ≤ p := (by (try clear hQ); (try subst ev5); ((try simp only [xb_eq, xb_ne, Int32.lt_iff_toInt_lt, Int32.le_iff_toInt_le] at *) <;> (try simp only [← Int32.toInt_inj, true_and, false_and, or_false, false_or, or_true, true_or, and_true, and_false] at *) <;> omega))
          have hp4 := pow4 (n := p) (by omega)
          refine V2_aload_n (i := 0) d_R_plan_27 rfl rfl ?_
          refine V2_callV [] d_R_plan_28 rfl rfl lk_R_152 mo_R_isOut (by decide) rfl rfl rfl (Nat.le_of_ble_eq_true rfl) (Nat.le_of_ble_eq_true rfl) ?_
          refine c_R_isOut ?_
          refine V2_topi (fun v10 ev10 => ?_)
          refine V2_if_eq (tgt := 40) d_R_plan_31 rfl (fun c11 => ?_) (fun c11 => ?_)
          · have s9 : ¬ (F0 66 5).toInt = 1 := (by (try clear hQ); (try subst ev10 ev5); ((try simp only [xb_eq, xb_ne, Int32.lt_iff_toInt_lt, Int32.le_iff_toInt_le] at *) <;> (try simp only [← Int32.toInt_inj, true_and, false_and, or_false, false_or, or_true, true_or, and_true, and_false] at *) <;> omega))
            refine V2_iconst (v := -1) d_R_plan_40 rfl ?_
            refine V2_istore_n (i := 3) (l' := [some (.ref 65), some (.int (nI p)), some (.int w), some (.int (-1 : Int32)), none, none, none, none, none, none]) d_R_plan_41 rfl (xst_i (Nat.le_of_ble_eq_true rfl) rfl rfl) ?_
            refine V2_iconst (v := 0) d_R_plan_42 rfl ?_
            refine V2_istore (i := 4) (l' := [some (.ref 65), some (.int (nI p)), some (.int w), some (.int (-1 : Int32)), some (.int (0 : Int32)), none, none, none, none, none]) d_R_plan_43 (xst_i (Nat.le_of_ble_eq_true rfl) rfl rfl) ?_
            refine V2_iconst (v := 0) d_R_plan_45 rfl ?_
            refine V2_istore (i := 5) (l' := [some (.ref 65), some (.int (nI p)), some (.int w), some (.int (-1 : Int32)), some (.int (0 : Int32)), some (.int (0 : Int32)), none, none, none, none]) d_R_plan_46 (xst_i (Nat.le_of_ble_eq_true rfl) rfl rfl) ?_
            refine V2_iload_n (i := 1) d_R_plan_48 rfl rfl ?_
            refine V2_callS [.int (nI p)] d_R_plan_49 rfl rfl lk_R_194 mo_R_tens (Nat.le_of_ble_eq_true rfl) (Nat.le_of_ble_eq_true rfl) ?_
            refine c_R_tens (m := p) (by omega) ?_
            refine V2_istore (i := 6) (l' := [some (.ref 65), some (.int (nI p)), some (.int w), some (.int (-1 : Int32)), some (.int (0 : Int32)), some (.int (0 : Int32)), some (.int (nI (10 ^ p))), none, none, none]) d_R_plan_52 (xst_i (Nat.le_of_ble_eq_true rfl) rfl rfl) ?_
            refine V2_iconst (v := 0) d_R_plan_54 rfl ?_
            refine V2_istore (i := 7) (l' := [some (.ref 65), some (.int (nI p)), some (.int w), some (.int (-1 : Int32)), some (.int (0 : Int32)), some (.int (0 : Int32)), some (.int (nI (10 ^ p))), some (.int (0 : Int32)), none, none]) d_R_plan_55 (xst_i (Nat.le_of_ble_eq_true rfl) rfl rfl) ?_
            have hb0 : (1 ≤ (nI p).toInt ∧ (nI p).toInt ≤ 4) ∧ -2 ≤ w.toInt ∧ w.toInt ≤ (nI p).toInt - 1 := (by (try clear hQ); (try subst ev10 ev5); ((try simp only [xb_eq, xb_ne, Int32.lt_iff_toInt_lt, Int32.le_iff_toInt_le] at *) <;> (try simp only [← Int32.toInt_inj, true_and, false_and, or_false, false_or, or_true, true_or, and_true, and_false] at *) <;> omega))
            have hb1 : ¬ ((F0 66 5).toInt = 1) := (by (try clear hQ); (try subst ev10 ev5); ((try simp only [xb_eq, xb_ne, Int32.lt_iff_toInt_lt, Int32.le_iff_toInt_le] at *) <;> (try simp only [← Int32.toInt_inj, true_and, false_and, or_false, false_or, or_true, true_or, and_true, and_false] at *) <;> omega))
            have e : k_plan F0 (nI p) w = (planA p (planS F0 p) w, F0) := (if_pos hb0).trans ((if_neg hb1).trans (by rw [kp]))
            rw [e] at hQ hM
            exact V2.to (c_R_plan_loop (F := F) (S := F0 66) (p := p) (w := w) (s9 := planS F0 p) hR.2.1 e66 e63 (by omega) (fun G g1 => c_R_plan_end hp1 (by omega) (by omega) (by omega) (planS_i F0 p) (hQ G (rel_tr hR hM g1))) (10 ^ p + 1) 0 (10 ^ p) (-1) 0 0 F (by omega) (by omega) (trF.refl F) (Nat.zero_le _) rfl) rfl rfl rfl rfl
          · refine V2_aload_n (i := 0) d_R_plan_34 rfl rfl ?_
            refine V2_iconst (v := 3) d_R_plan_35 rfl ?_
            refine V2_callV [.int (3 : Int32)] d_R_plan_36 rfl rfl lk_R_55 mo_R_error (by decide) rfl rfl rfl (Nat.le_of_ble_eq_true rfl) (Nat.le_of_ble_eq_true rfl) ?_
            refine c_R_error3 ?_
            refine V2_topi (fun v12 ev12 => ?_)
            refine V2_ireturn d_R_plan_39 rfl ?_
            have hb0 : (1 ≤ (nI p).toInt ∧ (nI p).toInt ≤ 4) ∧ -2 ≤ w.toInt ∧ w.toInt ≤ (nI p).toInt - 1 := (by (try clear hQ); (try subst ev12 ev10 ev5); ((try simp only [xb_eq, xb_ne, Int32.lt_iff_toInt_lt, Int32.le_iff_toInt_le] at *) <;> (try simp only [← Int32.toInt_inj, true_and, false_and, or_false, false_or, or_true, true_or, and_true, and_false] at *) <;> omega))
            have hb1 : (F0 66 5).toInt = 1 := (by (try clear hQ); (try subst ev12 ev10 ev5); ((try simp only [xb_eq, xb_ne, Int32.lt_iff_toInt_lt, Int32.le_iff_toInt_le] at *) <;> (try simp only [← Int32.toInt_inj, true_and, false_and, or_false, false_or, or_true, true_or, and_true, and_false] at *) <;> omega))
            have e : k_plan F0 (nI p) w = (-1000000000 - 3, errF F0 3) := (if_pos hb0).trans (if_pos hb1)
            rw [e] at hQ hM
            subst ev12 ev10 ev5
            exact xQi (hQ _ (rel_err hR hM)) rfl rfl
