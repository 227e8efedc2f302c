/-! shovel, feed -/
/-- strokes with a shovel, one by one -/
def shS (S : Nat → Int32) : Nat → (Nat → Int32)
  | 0 => S
  | k + 1 => upd (upd (shS S k) 0 (heldS (shS S k 0 - 1) 1 60)) 1 (heldS (shS S k 1 - 2) 0 99)
theorem shS_hi (S : Nat → Int32) (k : Nat) {j : Nat} (h : 2 ≤ j) : shS S k j = S j := by
  induction k with
  | zero => rfl
  | succ k ih =>
    unfold shS
    rw [upd_ne (by omega), upd_ne (by omega)]
    exact ih
theorem shS_0 {S : Nat → Int32} (h : invC S) (k : Nat) : (shS S k 0).toInt = if 1 ≤ (S 0).toInt - k then (S 0).toInt - k else 1 := by
  have q1 : (1 : Int32).toInt = 1 := by decide
  have q60 : (60 : Int32).toInt = 60 := by decide
  have h0 := h.1
  induction k with
  | zero =>
    show (S 0).toInt = _
    rw [if_pos (by omega)]
    omega
  | succ k ih =>
    unfold shS
    rw [upd_ne (by decide), upd_same, heldI, q1, q60]
    have hb : 1 ≤ (shS S k 0).toInt ∧ (shS S k 0).toInt ≤ 60 := by
      rw [ih]
      split <;> omega
    rw [toI_sub (by omega) (by omega) (by decide) (by decide), q1, ih]
    split <;> split <;> (try split) <;> (try split) <;> omega
theorem shS_1 {S : Nat → Int32} (h : invC S) (k : Nat) : (shS S k 1).toInt = if 0 ≤ (S 1).toInt - 2 * k then (S 1).toInt - 2 * k else 0 := by
  have q0 : (0 : Int32).toInt = 0 := by decide
  have q2 : (2 : Int32).toInt = 2 := by decide
  have q99 : (99 : Int32).toInt = 99 := by decide
  have h0 := h.2.1
  induction k with
  | zero =>
    show (S 1).toInt = _
    rw [if_pos (by omega)]
    omega
  | succ k ih =>
    unfold shS
    rw [upd_same, heldI, q0, q99]
    have hb : 0 ≤ (shS S k 1).toInt ∧ (shS S k 1).toInt ≤ 99 := by
      rw [ih]
      split <;> omega
    rw [toI_sub (by omega) (by omega) (by decide) (by decide), q2, ih]
    split <;> split <;> (try split) <;> (try split) <;> omega
theorem invC_sh {S : Nat → Int32} (h : invC S) (k : Nat) : invC (shS S k) := by
  have e0 := shS_0 h k
  have e1 := shS_1 h k
  have h0 := h.1
  have h1 := h.2.1
  refine ⟨?_, ?_, ?_⟩
  · rw [e0]
    split <;> omega
  · rw [e1]
    split <;> omega
  · rw [shS_hi S k (by omega), shS_hi S k (by omega), shS_hi S k (by omega), shS_hi S k (by omega), shS_hi S k (by omega)]
    exact h.2.2
/-- the class's strokes, all at once -/
def digC (r : Nat → Int32) (n : Int32) : Nat → Int32 := upd (upd r 0 (mx 1 (r 0 - n))) 1 (mx 0 (r 1 - 2 * n))
theorem mul2 {n : Nat} (h : n ≤ 1000) : (2 * nI n : Int32) = nI (2 * n) := by
  simp only [nI, Int32.ofNat_mul]
  rfl
theorem dig_rel {r S : Nat → Int32} {n : Nat} (h : relCr r S) (hi : invC S) (hn : n ≤ 1000) : relCr (digC r (nI n)) (shS S n) := by
  have q0 : (0 : Int32).toInt = 0 := by decide
  have q1 : (1 : Int32).toInt = 1 := by decide
  have en := nI_toInt (n := n) (by omega)
  have e2n := nI_toInt (n := 2 * n) (by omega)
  have h0 := hi.1
  have h1 := hi.2.1
  obtain ⟨g0, g1, g2⟩ := h
  unfold digC
  refine ⟨?_, ?_, ?_⟩
  · rw [upd_ne (by decide), upd_same]
    refine Int32.toInt_inj.mp ?_
    rw [mxI, shS_0 hi, g0, toI_sub (by omega) (by omega) (by omega) (by omega), en, q1]
    split <;> split <;> omega
  · rw [upd_same]
    refine Int32.toInt_inj.mp ?_
    rw [mxI, shS_1 hi, mul2 hn, g1, toI_sub (by omega) (by omega) (by omega) (by omega), e2n, q0]
    split <;> split <;> omega
  · rw [upd_ne (by decide), upd_ne (by decide), upd_ne (by decide), upd_ne (by decide), upd_ne (by decide), upd_ne (by decide), upd_ne (by decide), upd_ne (by decide), upd_ne (by decide), upd_ne (by decide), upd_ne (by decide), upd_ne (by decide), shS_hi S n (by omega), shS_hi S n (by omega), shS_hi S n (by omega), shS_hi S n (by omega), shS_hi S n (by omega), shS_hi S n (by omega)]
    exact g2
def k_shovel (F : xF) (n : Int32) : Int32 × xF := if 1 ≤ n.toInt ∧ n.toInt ≤ 20 then (shS (F 66) n.toNatClampNeg 0, xrw F 66 (shS (F 66) n.toNatClampNeg)) else (-1000000000 - 1, errF F 1)
theorem c_Car_dig_2 {L : Nat} {xs : Nat → Int32} {d : Nat} {Q : Option Value → xF → Prop} {F : xF} {n : Int32}  (hQ : Q none (xrw F 2 (digC (F 2) n))) : V2 L xs (d + 1) m_Car_dig 0 (xEntry [.ref 2, .int n] 2) [] F Q := by
  refine V2.to (l' := [some (.ref 2), some (.int n)]) ?_ rfl rfl rfl rfl
  refine V2_aload_n (i := 0) d_Car_dig_0 rfl rfl ?_
  refine V2_iconst (v := 1) d_Car_dig_1 rfl ?_
  refine V2_aload_n (i := 0) d_Car_dig_2 rfl rfl ?_
  refine V2_get (v := F 2 0) d_Car_dig_3 fl_Car_7 (by decide) rfl (by decide) rfl rfl ?_
  refine V2_topi (fun v1 ev1 => ?_)
  refine V2_iload_n (i := 1) d_Car_dig_6 rfl rfl ?_
  refine V2_isub d_Car_dig_7 ?_
  refine V2_topi (fun v2 ev2 => ?_)
  refine V2_mmax d_Car_dig_8 lz_Car_41 (Nat.le_of_ble_eq_true rfl) ?_
  refine V2_topi (fun v3 ev3 => ?_)
  refine V2_put d_Car_dig_11 fl_Car_7 (by decide) rfl (by decide) rfl ?_
  refine V2_aload_n (i := 0) d_Car_dig_14 rfl rfl ?_
  refine V2_iconst (v := 0) d_Car_dig_15 rfl ?_
  refine V2_aload_n (i := 0) d_Car_dig_16 rfl rfl ?_
  refine V2_get (v := F 2 1) d_Car_dig_17 fl_Car_13 (by decide) rfl (by decide) rfl rfl ?_
  refine V2_topi (fun v4 ev4 => ?_)
  refine V2_iconst (v := 2) d_Car_dig_20 rfl ?_
  refine V2_iload_n (i := 1) d_Car_dig_21 rfl rfl ?_
  refine V2_imul d_Car_dig_22 ?_
  refine V2_topi (fun v5 ev5 => ?_)
  refine V2_isub d_Car_dig_23 ?_
  refine V2_topi (fun v6 ev6 => ?_)
  refine V2_mmax d_Car_dig_24 lz_Car_41 (Nat.le_of_ble_eq_true rfl) ?_
  refine V2_topi (fun v7 ev7 => ?_)
  refine V2_put d_Car_dig_27 fl_Car_13 (by decide) rfl (by decide) rfl ?_
  refine V2_return d_Car_dig_30 rfl ?_
  subst ev7 ev6 ev5 ev4 ev3 ev2 ev1
  exact xQv hQ (by rw [xp_row F, xp_xrw]; rfl)
theorem c_Car_dig_35 {L : Nat} {xs : Nat → Int32} {d : Nat} {Q : Option Value → xF → Prop} {F : xF} {n : Int32}  (hQ : Q none (xrw F 35 (digC (F 35) n))) : V2 L xs (d + 1) m_Car_dig 0 (xEntry [.ref 35, .int n] 2) [] F Q := by
  refine V2.to (l' := [some (.ref 35), some (.int n)]) ?_ rfl rfl rfl rfl
  refine V2_aload_n (i := 0) d_Car_dig_0 rfl rfl ?_
  refine V2_iconst (v := 1) d_Car_dig_1 rfl ?_
  refine V2_aload_n (i := 0) d_Car_dig_2 rfl rfl ?_
  refine V2_get (v := F 35 0) d_Car_dig_3 fl_Car_7 (by decide) rfl (by decide) rfl rfl ?_
  refine V2_topi (fun v1 ev1 => ?_)
  refine V2_iload_n (i := 1) d_Car_dig_6 rfl rfl ?_
  refine V2_isub d_Car_dig_7 ?_
  refine V2_topi (fun v2 ev2 => ?_)
  refine V2_mmax d_Car_dig_8 lz_Car_41 (Nat.le_of_ble_eq_true rfl) ?_
  refine V2_topi (fun v3 ev3 => ?_)
  refine V2_put d_Car_dig_11 fl_Car_7 (by decide) rfl (by decide) rfl ?_
  refine V2_aload_n (i := 0) d_Car_dig_14 rfl rfl ?_
  refine V2_iconst (v := 0) d_Car_dig_15 rfl ?_
  refine V2_aload_n (i := 0) d_Car_dig_16 rfl rfl ?_
  refine V2_get (v := F 35 1) d_Car_dig_17 fl_Car_13 (by decide) rfl (by decide) rfl rfl ?_
  refine V2_topi (fun v4 ev4 => ?_)
  refine V2_iconst (v := 2) d_Car_dig_20 rfl ?_
  refine V2_iload_n (i := 1) d_Car_dig_21 rfl rfl ?_
  refine V2_imul d_Car_dig_22 ?_
  refine V2_topi (fun v5 ev5 => ?_)
  refine V2_isub d_Car_dig_23 ?_
  refine V2_topi (fun v6 ev6 => ?_)
  refine V2_mmax d_Car_dig_24 lz_Car_41 (Nat.le_of_ble_eq_true rfl) ?_
  refine V2_topi (fun v7 ev7 => ?_)
  refine V2_put d_Car_dig_27 fl_Car_13 (by decide) rfl (by decide) rfl ?_
  refine V2_return d_Car_dig_30 rfl ?_
  subst ev7 ev6 ev5 ev4 ev3 ev2 ev1
  exact xQv hQ (by rw [xp_row F, xp_xrw]; rfl)
theorem c_cls_shovel {L : Nat} {xs : Nat → Int32} {d : Nat} {Q : Option Value → xF → Prop} {F : xF} {n : Int32} (hR : Rel F) (hQ : ∀ F1, Mid F F1 (k_shovel F n).2 → Q (some (.int (k_shovel F n).1)) F1) : V2 L xs (d + 2) m_P_shovel 0 (xEntry [.ref 0, .int n] 2) [] F Q := by
  have q0 : (0 : Int32).toInt = 0 := by decide
  have q1 : (1 : Int32).toInt = 1 := by decide
  have q2 : (2 : Int32).toInt = 2 := by decide
  have q3 : (3 : Int32).toInt = 3 := by decide
  have q4 : (4 : Int32).toInt = 4 := by decide
  have q5 : (5 : Int32).toInt = 5 := by decide
  have q6 : (6 : Int32).toInt = 6 := by decide
  have q7 : (7 : Int32).toInt = 7 := by decide
  have q8 : (8 : Int32).toInt = 8 := by decide
  have q9 : (9 : Int32).toInt = 9 := by decide
  have q10 : (10 : Int32).toInt = 10 := by decide
  have q12 : (12 : Int32).toInt = 12 := by decide
  have q16 : (16 : Int32).toInt = 16 := by decide
  have q20 : (20 : Int32).toInt = 20 := by decide
  have q24 : (24 : Int32).toInt = 24 := by decide
  have q30 : (30 : Int32).toInt = 30 := by decide
  have q32 : (32 : Int32).toInt = 32 := by decide
  have q40 : (40 : Int32).toInt = 40 := by decide
  have q60 : (60 : Int32).toInt = 60 := by decide
  have q69 : (69 : Int32).toInt = 69 := by decide
  have q99 : (99 : Int32).toInt = 99 := by decide
  have q9999 : (9999 : Int32).toInt = 9999 := by decide
  have q274 : (274 : Int32).toInt = 274 := by decide
  have q334 : (334 : Int32).toInt = 334 := by decide
  refine V2.to (l' := [some (.ref 0), some (.int n)]) ?_ rfl rfl rfl rfl
  refine V2_iload_n (i := 1) d_P_shovel_0 rfl rfl ?_
  refine V2_iconst (v := 1) d_P_shovel_1 rfl ?_
  refine V2_bipush (v := 20) d_P_shovel_2 rfl ?_
  refine V2_callS [.int n, .int (1 : Int32), .int (20 : Int32)] d_P_shovel_4 rfl rfl lk_P_133 mo_P_within (Nat.le_of_ble_eq_true rfl) (Nat.le_of_ble_eq_true rfl) ?_
  refine V2.to (l' := [some (.int n), some (.int (1 : Int32)), some (.int (20 : Int32))]) ?_ rfl rfl rfl rfl
  refine V2_iload_n (i := 0) d_P_within_0 rfl rfl ?_
  refine V2_iload_n (i := 1) d_P_within_1 rfl rfl ?_
  refine V2_icmp_lt (tgt := 14) d_P_within_2 rfl (fun c1 => ?_) (fun c1 => ?_)
  · refine V2_iconst (v := 0) d_P_within_14 rfl ?_
    refine V2_zreturn d_P_within_15 rfl (by decide) ?_
    refine V2.to (st' := [.int (0 : Int32)]) ?_ rfl rfl rfl rfl
    refine V2_if_ne (tgt := 16) d_P_shovel_7 rfl (fun c => (by first | exact absurd c (by decide) | exact absurd (by decide) c)) (fun _ => ?_)
    refine V2_aload_n (i := 0) d_P_shovel_10 rfl rfl ?_
    refine V2_iconst (v := 1) d_P_shovel_11 rfl ?_
    refine V2_callV [.int (1 : Int32)] d_P_shovel_12 rfl rfl lk_P_66 mo_P_fails (by decide) rfl rfl rfl (Nat.le_of_ble_eq_true rfl) (Nat.le_of_ble_eq_true rfl) ?_
    refine c_P_fails1 ?_
    refine V2_topi (fun v2 ev2 => ?_)
    refine V2_ireturn d_P_shovel_15 rfl ?_
    have hb0 : ¬ (1 ≤ n.toInt ∧ n.toInt ≤ 20) := (by (try clear hQ); (try subst ev2); ((try simp only [xb_eq, xb_ne, Int32.lt_iff_toInt_lt, Int32.le_iff_toInt_le] at *) <;> (try simp only [← Int32.toInt_inj, true_and, false_and, or_false, false_or, or_true, true_or, and_true, and_false] at *) <;> omega))
    have e : k_shovel F n = (-1000000000 - 1, errF F 1) := if_neg hb0
    rw [e] at hQ
    subst ev2
    exact xQi (hQ _ (mid_err hR (by decide))) rfl rfl
  · refine V2_iload_n (i := 0) d_P_within_5 rfl rfl ?_
    refine V2_iload_n (i := 2) d_P_within_6 rfl rfl ?_
    refine V2_icmp_gt (tgt := 14) d_P_within_7 rfl (fun c3 => ?_) (fun c3 => ?_)
    · refine V2_iconst (v := 0) d_P_within_14 rfl ?_
      refine V2_zreturn d_P_within_15 rfl (by decide) ?_
      refine V2.to (st' := [.int (0 : Int32)]) ?_ rfl rfl rfl rfl
      refine V2_if_ne (tgt := 16) d_P_shovel_7 rfl (fun c => (by first | exact absurd c (by decide) | exact absurd (by decide) c)) (fun _ => ?_)
      refine V2_aload_n (i := 0) d_P_shovel_10 rfl rfl ?_
      refine V2_iconst (v := 1) d_P_shovel_11 rfl ?_
      refine V2_callV [.int (1 : Int32)] d_P_shovel_12 rfl rfl lk_P_66 mo_P_fails (by decide) rfl rfl rfl (Nat.le_of_ble_eq_true rfl) (Nat.le_of_ble_eq_true rfl) ?_
      refine c_P_fails1 ?_
      refine V2_topi (fun v4 ev4 => ?_)
      refine V2_ireturn d_P_shovel_15 rfl ?_
      have hb0 : ¬ (1 ≤ n.toInt ∧ n.toInt ≤ 20) := (by (try clear hQ); (try subst ev4); ((try simp only [xb_eq, xb_ne, Int32.lt_iff_toInt_lt, Int32.le_iff_toInt_le] at *) <;> (try simp only [← Int32.toInt_inj, true_and, false_and, or_false, false_or, or_true, true_or, and_true, and_false] at *) <;> omega))
      have e : k_shovel F n = (-1000000000 - 1, errF F 1) := if_neg hb0
      rw [e] at hQ
      subst ev4
      exact xQi (hQ _ (mid_err hR (by decide))) rfl rfl
    · refine V2_iconst (v := 1) d_P_within_10 rfl ?_
      refine V2_goto (tgt := 15) d_P_within_11 rfl ?_
      refine V2_zreturn d_P_within_15 rfl (by decide) ?_
      refine V2.to (st' := [.int (1 : Int32)]) ?_ rfl rfl rfl rfl
      refine V2_if_ne (tgt := 16) d_P_shovel_7 rfl (fun _ => ?_) (fun c => (by first | exact absurd c (by decide) | exact absurd (by decide) c))
      obtain ⟨p, hp, epp⟩ := in_of (x := n) (P := 21) (by (try clear hQ); (try skip); ((try simp only [xb_eq, xb_ne, Int32.lt_iff_toInt_lt, Int32.le_iff_toInt_le] at *) <;> (try simp only [← Int32.toInt_inj, true_and, false_and, or_false, false_or, or_true, true_or, and_true, and_false] at *) <;> omega)) (by (try clear hQ); (try skip); ((try simp only [xb_eq, xb_ne, Int32.lt_iff_toInt_lt, Int32.le_iff_toInt_le] at *) <;> (try simp only [← Int32.toInt_inj, true_and, false_and, or_false, false_or, or_true, true_or, and_true, and_false] at *) <;> omega)) (by omega)
      subst epp
      have np : (nI p).toInt = (p : Int) := nI_toInt (by omega)
      have kp : (nI p).toNatClampNeg = p := nI_clamp (by omega)
      refine V2_aload_n (i := 0) d_P_shovel_16 rfl rfl ?_
      refine V2_getr (a := 1) d_P_shovel_17 fl_P_10 (by decide) rfl (by decide) rfl ?_
      refine V2_getr (a := 2) d_P_shovel_20 fl_P_93 (by decide) rfl (by decide) rfl ?_
      refine V2_iload_n (i := 1) d_P_shovel_23 rfl rfl ?_
      refine V2_callV [.int (nI p)] d_P_shovel_24 rfl rfl lk_P_211 mo_Car_dig (by decide) rfl rfl rfl (Nat.le_of_ble_eq_true rfl) (Nat.le_of_ble_eq_true rfl) ?_
      refine c_Car_dig_2 ?_
      refine V2_aload_n (i := 0) d_P_shovel_27 rfl rfl ?_
      refine V2_getr (a := 1) d_P_shovel_28 fl_P_10 (by decide) rfl (by decide) rfl ?_
      refine V2_getr (a := 2) d_P_shovel_31 fl_P_93 (by decide) rfl (by decide) rfl ?_
      refine V2_get (v := _) d_P_shovel_34 fl_P_214 (by decide) rfl (by decide) rfl rfl ?_
      refine V2_ireturn d_P_shovel_37 rfl ?_
      have hb0 : 1 ≤ (nI p).toInt ∧ (nI p).toInt ≤ 20 := (by (try clear hQ); (try skip); ((try simp only [xb_eq, xb_ne, Int32.lt_iff_toInt_lt, Int32.le_iff_toInt_le] at *) <;> (try simp only [← Int32.toInt_inj, true_and, false_and, or_false, false_or, or_true, true_or, and_true, and_false] at *) <;> omega))
      have e : k_shovel F (nI p) = (shS (F 66) p 0, xrw F 66 (shS (F 66) p)) := (if_pos hb0).trans (by rw [kp])
      rw [e] at hQ
      skip
      exact xQi (hQ _ (mid_low hR (dig_rel hR.1.1.1 hR.2.1.1 (by omega)) (shS_hi _ _ (by omega)) (fun j hj => shS_hi _ _ (by omega)))) ((congrFun (xrw_same F 2 _) 0).trans (dig_rel hR.1.1.1 hR.2.1.1 (n := p) (by omega)).1) rfl
theorem c_R_shovels_loop {L : Nat} {xs : Nat → Int32} {d : Nat} {Q : Option Value → xF → Prop} {F : xF} {m : Nat} (hm : m ≤ 1000) (hQ : Q none (xrw F 66 (shS (F 66) m))) : ∀ (n : Nat) (k : Nat), k ≤ m → m < n + k → V2 L xs (d + 1) m_R_shovels 2 [some (.ref 65), some (.int (nI m)), some (.int (nI k))] [] (xrw F 66 (shS (F 66) k)) Q := by
  intro n
  induction n with
  | zero => exact fun k h1 h2 => absurd h2 (by omega)
  | succ n ih =>
    intro k h1 h2
    refine V2_iload_n (i := 2) d_R_shovels_2 rfl rfl ?_
    refine V2_iload_n (i := 1) d_R_shovels_3 rfl rfl ?_
    refine V2_icmp_ge (tgt := 53) d_R_shovels_4 rfl (fun c1 => ?_) (fun c1 => ?_)
    · refine V2_return d_R_shovels_53 rfl ?_
      have hk : k = m := Nat.le_antisymm h1 ((nI_leI (by omega) (by omega)).mp c1)
      subst hk
      exact xQv hQ rfl
    · have hk : k < m := Nat.not_le.mp (fun hh => c1 ((nI_leI (by omega) (by omega)).mpr hh))
      refine V2_aload_n (i := 0) d_R_shovels_7 rfl rfl ?_
      refine V2_getr (a := 66) d_R_shovels_8 fl_R_7 (by decide) rfl (by decide) rfl ?_
      refine V2_iconst (v := 0) d_R_shovels_11 rfl ?_
      refine V2_aload_n (i := 0) d_R_shovels_12 rfl rfl ?_
      refine V2_getr (a := 66) d_R_shovels_13 fl_R_7 (by decide) rfl (by decide) rfl ?_
      refine V2_iconst (v := 0) d_R_shovels_16 rfl ?_
      refine V2_iaload (v := xrw F 66 (shS (F 66) k) 66 0) d_R_shovels_17 (by decide) rfl (xixA (n := 0) rfl (by decide) (by decide)) rfl ?_
      refine V2_topi (fun v2 ev2 => ?_)
      refine V2_iconst (v := 1) d_R_shovels_18 rfl ?_
      refine V2_isub d_R_shovels_19 ?_
      refine V2_topi (fun v3 ev3 => ?_)
      refine V2_iconst (v := 1) d_R_shovels_20 rfl ?_
      refine V2_bipush (v := 60) d_R_shovels_21 rfl ?_
      refine V2_callS [.int v3, .int (1 : Int32), .int (60 : Int32)] d_R_shovels_23 rfl rfl lk_R_127 mo_R_held (Nat.le_of_ble_eq_true rfl) (Nat.le_of_ble_eq_true rfl) ?_
      refine c_R_held ?_
      refine V2_topi (fun v4 ev4 => ?_)
      refine V2_iastore (j := 0) d_R_shovels_26 (by decide) rfl (xixA (n := 0) rfl (by decide) (by decide)) rfl ?_
      refine V2_aload_n (i := 0) d_R_shovels_27 rfl rfl ?_
      refine V2_getr (a := 66) d_R_shovels_28 fl_R_7 (by decide) rfl (by decide) rfl ?_
      refine V2_iconst (v := 1) d_R_shovels_31 rfl ?_
      refine V2_aload_n (i := 0) d_R_shovels_32 rfl rfl ?_
      refine V2_getr (a := 66) d_R_shovels_33 fl_R_7 (by decide) rfl (by decide) rfl ?_
      refine V2_iconst (v := 1) d_R_shovels_36 rfl ?_
      refine V2_iaload (v := xrw F 66 (shS (F 66) k) 66 1) d_R_shovels_37 (by decide) rfl (xixA (n := 1) rfl (by decide) (by decide)) rfl ?_
      refine V2_topi (fun v5 ev5 => ?_)
      refine V2_iconst (v := 2) d_R_shovels_38 rfl ?_
      refine V2_isub d_R_shovels_39 ?_
      refine V2_topi (fun v6 ev6 => ?_)
      refine V2_iconst (v := 0) d_R_shovels_40 rfl ?_
      refine V2_bipush (v := 99) d_R_shovels_41 rfl ?_
      refine V2_callS [.int v6, .int (0 : Int32), .int (99 : Int32)] d_R_shovels_43 rfl rfl lk_R_127 mo_R_held (Nat.le_of_ble_eq_true rfl) (Nat.le_of_ble_eq_true rfl) ?_
      refine c_R_held ?_
      refine V2_topi (fun v7 ev7 => ?_)
      refine V2_iastore (j := 1) d_R_shovels_46 (by decide) rfl (xixA (n := 1) rfl (by decide) (by decide)) rfl ?_
      obtain ⟨v8, ev8⟩ : ∃ y : Int32, y = nI k + 1 := ⟨_, rfl⟩
      refine V2_iinc (i := 2) (v := v8) (l' := [some (.ref 65), some (.int (nI m)), some (.int v8)]) d_R_shovels_47 rfl (by rw [ev8]; rfl) (xst_i (Nat.le_of_ble_eq_true rfl) rfl rfl) ?_
      refine V2_goto (tgt := 2) d_R_shovels_50 rfl ?_
      exact V2.to (ih (k + 1) (by omega) (by omega)) rfl (by rw [ev8, nI_1]) rfl (by subst ev8 ev7 ev6 ev5 ev4 ev3 ev2; rw [xp_xrw, xp_xrw]; rfl)
theorem c_R_shovels {L : Nat} {xs : Nat → Int32} {d : Nat} {Q : Option Value → xF → Prop} {F : xF} {m : Nat} (hm : m ≤ 1000) (hQ : Q none (xrw F 66 (shS (F 66) m))) : V2 L xs (d + 1) m_R_shovels 0 (xEntry [.ref 65, .int (nI m)] 3) [] F Q := by
  refine V2.to (l' := [some (.ref 65), some (.int (nI m)), none]) ?_ rfl rfl rfl rfl
  refine V2_iconst (v := 0) d_R_shovels_0 rfl ?_
  refine V2_istore_n (i := 2) (l' := [some (.ref 65), some (.int (nI m)), some (.int (0 : Int32))]) d_R_shovels_1 rfl (xst_i (Nat.le_of_ble_eq_true rfl) rfl rfl) ?_
  exact V2.to (c_R_shovels_loop hm hQ (m + 1) 0 (by omega) (by omega)) rfl rfl rfl (xrw_self F 66).symm
theorem c_mod_shovel {L : Nat} {xs : Nat → Int32} {d : Nat} {Q : Option Value → xF → Prop} {F : xF} {n : Int32} {F0 : xF} (hR : Rel F0) (hM : Mid F0 F (k_shovel F0 n).2) (hQ : ∀ F2, Rel F2 → Q (some (.int (k_shovel F0 n).1)) F2) : V2 L xs (d + 2) m_R_shovel 0 (xEntry [.ref 65, .int n] 2) [] F Q := by
  have q0 : (0 : Int32).toInt = 0 := by decide
  have q1 : (1 : Int32).toInt = 1 := by decide
  have q2 : (2 : Int32).toInt = 2 := by decide
  have q3 : (3 : Int32).toInt = 3 := by decide
  have q4 : (4 : Int32).toInt = 4 := by decide
  have q5 : (5 : Int32).toInt = 5 := by decide
  have q6 : (6 : Int32).toInt = 6 := by decide
  have q7 : (7 : Int32).toInt = 7 := by decide
  have q8 : (8 : Int32).toInt = 8 := by decide
  have q9 : (9 : Int32).toInt = 9 := by decide
  have q10 : (10 : Int32).toInt = 10 := by decide
  have q12 : (12 : Int32).toInt = 12 := by decide
  have q16 : (16 : Int32).toInt = 16 := by decide
  have q20 : (20 : Int32).toInt = 20 := by decide
  have q24 : (24 : Int32).toInt = 24 := by decide
  have q30 : (30 : Int32).toInt = 30 := by decide
  have q32 : (32 : Int32).toInt = 32 := by decide
  have q40 : (40 : Int32).toInt = 40 := by decide
  have q60 : (60 : Int32).toInt = 60 := by decide
  have q69 : (69 : Int32).toInt = 69 := by decide
  have q99 : (99 : Int32).toInt = 99 := by decide
  have q9999 : (9999 : Int32).toInt = 9999 := by decide
  have q274 : (274 : Int32).toInt = 274 := by decide
  have q334 : (334 : Int32).toInt = 334 := by decide
  have e66 : F 66 = F0 66 := hM.1 66 (by decide)
  refine V2.to (l' := [some (.ref 65), some (.int n)]) ?_ rfl rfl rfl rfl
  refine V2_iload_n (i := 1) d_R_shovel_0 rfl rfl ?_
  refine V2_iconst (v := 1) d_R_shovel_1 rfl ?_
  refine V2_bipush (v := 20) d_R_shovel_2 rfl ?_
  refine V2_callS [.int n, .int (1 : Int32), .int (20 : Int32)] d_R_shovel_4 rfl rfl lk_R_51 mo_R_in (Nat.le_of_ble_eq_true rfl) (Nat.le_of_ble_eq_true rfl) ?_
  refine c_R_in ?_
  refine V2_topi (fun v1 ev1 => ?_)
  refine V2_if_ne (tgt := 16) d_R_shovel_7 rfl (fun c2 => ?_) (fun c2 => ?_)
  · obtain ⟨p, hp, epp⟩ := in_of (x := n) (P := 21) (by (try clear hQ); (try subst ev1); ((try simp only [xb_eq, xb_ne, Int32.lt_iff_toInt_lt, Int32.le_iff_toInt_le] at *) <;> (try simp only [← Int32.toInt_inj, true_and, false_and, or_false, false_or, or_true, true_or, and_true, and_false] at *) <;> omega)) (by (try clear hQ); (try subst ev1); ((try simp only [xb_eq, xb_ne, Int32.lt_iff_toInt_lt, Int32.le_iff_toInt_le] at *) <;> (try simp only [← Int32.toInt_inj, true_and, false_and, or_false, false_or, or_true, true_or, and_true, and_false] at *) <;> omega)) (by omega)
    subst epp
    have np : (nI p).toInt = (p : Int) := nI_toInt (by omega)
    have kp : (nI p).toNatClampNeg = p := nI_clamp (by omega)
    refine V2_aload_n (i := 0) d_R_shovel_16 rfl rfl ?_
    refine V2_iload_n (i := 1) d_R_shovel_17 rfl rfl ?_
    refine V2_callV [.int (nI p)] d_R_shovel_18 rfl rfl lk_R_190 mo_R_shovels (by decide) rfl rfl rfl (Nat.le_of_ble_eq_true rfl) (Nat.le_of_ble_eq_true rfl) ?_
    refine c_R_shovels (m := p) (by omega) ?_
    refine V2_aload_n (i := 0) d_R_shovel_21 rfl rfl ?_
    refine V2_getr (a := 66) d_R_shovel_22 fl_R_7 (by decide) rfl (by decide) rfl ?_
    refine V2_iconst (v := 0) d_R_shovel_25 rfl ?_
    refine V2_ialoadJ 0 d_R_shovel_26 (by decide) rfl (xixA (n := 0) rfl (by decide) (by decide)) rfl rfl ?_
    refine V2_ireturn d_R_shovel_27 rfl ?_
    have hb0 : 1 ≤ (nI p).toInt ∧ (nI p).toInt ≤ 20 := (by (try clear hQ); (try subst ev1); ((try simp only [xb_eq, xb_ne, Int32.lt_iff_toInt_lt, Int32.le_iff_toInt_le] at *) <;> (try simp only [← Int32.toInt_inj, true_and, false_and, or_false, false_or, or_true, true_or, and_true, and_false] at *) <;> omega))
    have e : k_shovel F0 (nI p) = (shS (F0 66) p 0, xrw F0 66 (shS (F0 66) p)) := (if_pos hb0).trans (by rw [kp])
    rw [e] at hQ hM
    subst ev1
    refine xQi (hQ (xrw F 66 (shS (F0 66) p)) (rel_low hR hM (invC_sh hR.2.1.1 p) (by rw [shS_hi _ _ (by omega)]; exact hR.2.1.2.1) (fun j hj => shS_hi _ _ (by omega)))) ?_ (by rw [e66])
    rw [xrw_same, e66]
  · refine V2_aload_n (i := 0) d_R_shovel_10 rfl rfl ?_
    refine V2_iconst (v := 1) d_R_shovel_11 rfl ?_
    refine V2_callV [.int (1 : Int32)] d_R_shovel_12 rfl rfl lk_R_55 mo_R_error (by decide) rfl rfl rfl (Nat.le_of_ble_eq_true rfl) (Nat.le_of_ble_eq_true rfl) ?_
    refine c_R_error1 ?_
    refine V2_topi (fun v3 ev3 => ?_)
    refine V2_ireturn d_R_shovel_15 rfl ?_
    have hb0 : ¬ (1 ≤ n.toInt ∧ n.toInt ≤ 20) := (by (try clear hQ); (try subst ev3 ev1); ((try simp only [xb_eq, xb_ne, Int32.lt_iff_toInt_lt, Int32.le_iff_toInt_le] at *) <;> (try simp only [← Int32.toInt_inj, true_and, false_and, or_false, false_or, or_true, true_or, and_true, and_false] at *) <;> omega))
    have e : k_shovel F0 n = (-1000000000 - 1, errF F0 1) := if_neg hb0
    rw [e] at hQ hM
    subst ev3 ev1
    exact xQi (hQ _ (rel_err hR hM)) rfl rfl
/-- the k-th byte of a word -/
def byteS (w : Int64) (k : Nat) : Int32 := ((w.toUInt64 >>> ((8 * nI k).toInt64.toUInt64 &&& Int64.toUInt64 63)).toInt64 &&& 255).toInt32
theorem byte_eq {w : Int64} {k : Nat} (hk : k < 8) : (w >>> ((8 * nI k : Int32).toInt64 &&& 63)) &&& 255 = (w.toUInt64 >>> ((8 * nI k).toInt64.toUInt64 &&& Int64.toUInt64 63)).toInt64 &&& 255 := by
  have h8 : k = 0 ∨ k = 1 ∨ k = 2 ∨ k = 3 ∨ k = 4 ∨ k = 5 ∨ k = 6 ∨ k = 7 := by omega
  have key : ∀ (b : BitVec 64) (s : Nat), s ≤ 56 → (b.sshiftRight s) &&& 255#64 = (b >>> s) &&& 255#64 := by
    intro b s hs
    apply BitVec.eq_of_getLsbD_eq
    intro i hi
    rw [BitVec.getLsbD_and, BitVec.getLsbD_and, BitVec.getLsbD_sshiftRight, BitVec.getLsbD_ushiftRight]
    by_cases h : i < 8
    · have h1 : s + i < 64 := by omega
      simp [h1, hi, show ¬ 64 ≤ i by omega]
    · have h2 : (255#64).getLsbD i = false := by
        rw [show (255#64) = BitVec.ofNat 64 (2 ^ 8 - 1) from rfl, BitVec.getLsbD_ofNat, Nat.testBit_two_pow_sub_one]
        simp [h]
      simp [h2]
  apply Int64.toBitVec_inj.mp
  rcases h8 with rfl | rfl | rfl | rfl | rfl | rfl | rfl | rfl
  · exact key w.toBitVec 0 (by decide)
  · exact key w.toBitVec 8 (by decide)
  · exact key w.toBitVec 16 (by decide)
  · exact key w.toBitVec 24 (by decide)
  · exact key w.toBitVec 32 (by decide)
  · exact key w.toBitVec 40 (by decide)
  · exact key w.toBitVec 48 (by decide)
  · exact key w.toBitVec 56 (by decide)
theorem byte_range (x : Int64) : 0 ≤ (x &&& 255).toInt32.toInt ∧ (x &&& 255).toInt32.toInt ≤ 255 := by
  have h1 : (x &&& 255).toInt32.toBitVec = (x.toBitVec &&& 255#64).setWidth 32 := by
    rw [← BitVec.signExtend_eq_setWidth_of_le _ (by decide)]
    rfl
  have h2 : ((x.toBitVec &&& 255#64).setWidth 32).toNat ≤ 255 := by
    rw [BitVec.toNat_setWidth, BitVec.toNat_and]
    refine Nat.le_trans (Nat.mod_le _ _) ?_
    exact Nat.and_le_right
  have h3 : (x &&& 255).toInt32.toInt = (((x.toBitVec &&& 255#64).setWidth 32).toNat : Int) := by
    show (x &&& 255).toInt32.toBitVec.toInt = _
    rw [h1, BitVec.toInt_eq_toNat_of_lt (by omega)]
  omega
def feedS (S : Nat → Int32) (T : Nat) (f : Nat → Int32) : Nat → (Nat → Int32)
  | 0 => S
  | k + 1 => upd (upd (feedS S T f k) (274 + (T + k)) (f k)) 9 (nI (T + k + 1))
theorem feedS_9 {S : Nat → Int32} {T : Nat} {f : Nat → Int32} (e : S 9 = nI T) (k : Nat) : feedS S T f k 9 = nI (T + k) := by
  cases k with
  | zero => exact e
  | succ k => exact upd_same
theorem feedS_o {S : Nat → Int32} {T : Nat} {f : Nat → Int32} (k : Nat) {j : Nat} (h9 : ¬ j = 9) (hj : j < 274 ∨ 334 ≤ j) (hT : T + k ≤ 60) : feedS S T f k j = S j := by
  induction k with
  | zero => rfl
  | succ k ih =>
    unfold feedS
    rw [upd_ne h9, upd_ne (by omega)]
    exact ih (by omega)
theorem invTape_feed {S : Nat → Int32} {T : Nat} {f : Nat → Int32} (h : invTape S) (e : S 9 = nI T) (hf : ∀ k, 0 ≤ (f k).toInt ∧ (f k).toInt ≤ 255) (k : Nat) (hT : T + k ≤ 60) : invTape (feedS S T f k) := by
  induction k with
  | zero => exact h
  | succ k ih => exact invTape_add (ih (by omega)) (feedS_9 e k) (by omega) (hf k)
def k_feed (F : xF) (w : Int64) (n : Int32) : Int32 × xF := if 1 ≤ n.toInt ∧ n.toInt ≤ 8 then (if (TN (F 66) : Int) + n.toInt ≤ 60 then (nI (TN (F 66) + n.toNatClampNeg), xrw F 66 (feedS (F 66) (TN (F 66)) (byteS w) n.toNatClampNeg)) else (-1000000000 - 4, errF F 4)) else (-1000000000 - 1, errF F 1)
theorem c_P_feed_loop {L : Nat} {xs : Nat → Int32} {d : Nat} {Q : Option Value → xF → Prop} {F : xF} {w : Int64} {p T : Nat} (hi : invS (F 66)) (eT : F 66 9 = nI T) (hT : T + p ≤ 60) (hQ : ∀ G : xF, relTape G 1 (feedS (F 66) T (byteS w) p) → (∀ a, ¬ a = 14 → ¬ a = 15 → G a = F a) → Q (some (.int (nI (T + p)))) G) : ∀ (n : Nat) (k : Nat) (G : xF), relTape G 1 (feedS (F 66) T (byteS w) k) → (∀ a, ¬ a = 14 → ¬ a = 15 → G a = F a) → k ≤ p → p < n + k → V2 L xs (d + 1) m_P_feed 39 [some (.ref 0), some (.long w), none, some (.int (nI p)), some (.int (nI k))] [] G Q := by
  intro n
  induction n with
  | zero => exact fun k G g1 g2 h1 h2 => absurd h2 (by omega)
  | succ n ih =>
    intro k G g1 g2 h1 h2
    refine V2_iload (i := 4) d_P_feed_39 rfl ?_
    refine V2_iload_n (i := 3) d_P_feed_41 rfl rfl ?_
    refine V2_icmp_ge (tgt := 73) d_P_feed_42 rfl (fun c1 => ?_) (fun c1 => ?_)
    · refine V2_aload_n (i := 0) d_P_feed_73 rfl rfl ?_
      refine V2_getr (a := 1) d_P_feed_74 fl_P_10 (by decide) rfl (by decide) rfl ?_
      refine V2_getr (a := 14) d_P_feed_77 fl_P_144 (by decide) rfl (by decide) rfl ?_
      refine V2_callV [] d_P_feed_80 rfl rfl lk_P_157 mo_Nums_size (by decide) rfl rfl rfl (Nat.le_of_ble_eq_true rfl) (Nat.le_of_ble_eq_true rfl) ?_
      refine V2.to (l' := [some (.ref 14)]) ?_ rfl rfl rfl rfl
      refine V2_aload_n (i := 0) d_Nums_size_0 rfl rfl ?_
      refine V2_get (v := G 14 1) d_Nums_size_1 fl_Nums_7 (by decide) rfl (by decide) rfl rfl ?_
      refine V2_topi (fun v2 ev2 => ?_)
      refine V2_ireturn d_Nums_size_4 rfl ?_
      refine V2.to (st' := [.int v2]) ?_ rfl rfl rfl rfl
      refine V2_ireturn d_P_feed_83 rfl ?_
      have hk : k = p := Nat.le_antisymm h1 ((nI_leI (by omega) (by omega)).mp c1)
      subst hk
      subst ev2
      exact xQi (hQ G g1 g2) (g1.1.trans (feedS_9 eT k)) rfl
    · have hk : k < p := Nat.not_le.mp (fun hh => c1 ((nI_leI (by omega) (by omega)).mpr hh))
      refine V2_aload_n (i := 0) d_P_feed_45 rfl rfl ?_
      refine V2_getr (a := 1) d_P_feed_46 fl_P_10 (by decide) rfl (by decide) rfl ?_
      refine V2_getr (a := 14) d_P_feed_49 fl_P_144 (by decide) rfl (by decide) rfl ?_
      refine V2_lload_n (i := 1) d_P_feed_52 rfl rfl ?_
      refine V2_bipush (v := 8) d_P_feed_53 rfl ?_
      refine V2_iload (i := 4) d_P_feed_55 rfl ?_
      refine V2_imul d_P_feed_57 ?_
      refine V2_topi (fun v3 ev3 => ?_)
      refine V2_lushr d_P_feed_58 ?_
      refine V2_topl (fun w4 ew4 => ?_)
      refine V2_ldc2 (v := 255) d_P_feed_59 kc_P_152 ?_
      refine V2_land d_P_feed_62 ?_
      refine V2_topl (fun w5 ew5 => ?_)
      refine V2_l2i d_P_feed_63 ?_
      refine V2_topi (fun v6 ev6 => ?_)
      refine V2_callV [.int v6] d_P_feed_64 rfl rfl lk_P_154 mo_Nums_add (by decide) rfl rfl rfl (Nat.le_of_ble_eq_true rfl) (Nat.le_of_ble_eq_true rfl) ?_
      have eb : v6 = byteS w k := by subst ev6 ew5 ew4 ev3; rfl
      rw [eb]
      refine c_Nums_add_14 (P := T + k) (g1.1.trans (feedS_9 eT k)) (by omega) ?_
      obtain ⟨v7, ev7⟩ : ∃ y : Int32, y = nI k + 1 := ⟨_, rfl⟩
      refine V2_iinc (i := 4) (v := v7) (l' := [some (.ref 0), some (.long w), none, some (.int (nI p)), some (.int v7)]) d_P_feed_67 rfl (by rw [ev7]; rfl) (xst_i (Nat.le_of_ble_eq_true rfl) rfl rfl) ?_
      refine V2_goto (tgt := 39) d_P_feed_70 rfl ?_
      refine V2.to (ih (k + 1) _ (relTape_add g1 (feedS_9 eT k) (by omega)) (fun a b c => (xp_row_ne b).trans ((xp_row_ne c).trans (g2 a b c))) (by omega) (by omega)) ?_ ?_ rfl ?_
      · rfl
      · rw [ev7, nI_1]
      · subst ev7 ev6 ew5 ew4 ev3
        rw [Nat.add_comm]
theorem c_cls_feed {L : Nat} {xs : Nat → Int32} {d : Nat} {Q : Option Value → xF → Prop} {F : xF} {w : Int64} {n : Int32} (hR : Rel F) (hQ : ∀ F1, Mid F F1 (k_feed F w n).2 → Q (some (.int (k_feed F w n).1)) F1) : V2 L xs (d + 1) m_P_feed 0 (xEntry [.ref 0, .long w, .int n] 5) [] F Q := by
  have q0 : (0 : Int32).toInt = 0 := by decide
  have q1 : (1 : Int32).toInt = 1 := by decide
  have q2 : (2 : Int32).toInt = 2 := by decide
  have q3 : (3 : Int32).toInt = 3 := by decide
  have q4 : (4 : Int32).toInt = 4 := by decide
  have q5 : (5 : Int32).toInt = 5 := by decide
  have q6 : (6 : Int32).toInt = 6 := by decide
  have q7 : (7 : Int32).toInt = 7 := by decide
  have q8 : (8 : Int32).toInt = 8 := by decide
  have q9 : (9 : Int32).toInt = 9 := by decide
  have q10 : (10 : Int32).toInt = 10 := by decide
  have q12 : (12 : Int32).toInt = 12 := by decide
  have q16 : (16 : Int32).toInt = 16 := by decide
  have q20 : (20 : Int32).toInt = 20 := by decide
  have q24 : (24 : Int32).toInt = 24 := by decide
  have q30 : (30 : Int32).toInt = 30 := by decide
  have q32 : (32 : Int32).toInt = 32 := by decide
  have q40 : (40 : Int32).toInt = 40 := by decide
  have q60 : (60 : Int32).toInt = 60 := by decide
  have q69 : (69 : Int32).toInt = 69 := by decide
  have q99 : (99 : Int32).toInt = 99 := by decide
  have q9999 : (9999 : Int32).toInt = 9999 := by decide
  have q274 : (274 : Int32).toInt = 274 := by decide
  have q334 : (334 : Int32).toInt = 334 := by decide
  obtain ⟨eT, hT⟩ := inv_TN hR.2.1.2.2.2.2.2.1
  have nT : (F 66 9).toInt = (TN (F 66) : Int) := TN_int hR.2.1.2.2.2.2.2.1
  have e14 : F 14 1 = F 66 9 := hR.1.1.2.2.2.2.1.1
  have s14 : ((60 : Int32) - F 14 1).toInt = (60 : Int) - (TN (F 66) : Int) := by
    rw [e14, eT]
    exact sub_nI (n := 60) rfl (by omega) (by omega)
  refine V2.to (l' := [some (.ref 0), some (.long w), none, some (.int n), none]) ?_ rfl rfl rfl rfl
  refine V2_iload_n (i := 3) d_P_feed_0 rfl rfl ?_
  refine V2_iconst (v := 1) d_P_feed_1 rfl ?_
  refine V2_bipush (v := 8) d_P_feed_2 rfl ?_
  refine V2_callS [.int n, .int (1 : Int32), .int (8 : Int32)] d_P_feed_4 rfl rfl lk_P_133 mo_P_within (Nat.le_of_ble_eq_true rfl) (Nat.le_of_ble_eq_true rfl) ?_
  refine V2.to (l' := [some (.int n), some (.int (1 : Int32)), some (.int (8 : Int32))]) ?_ rfl rfl rfl rfl
  refine V2_iload_n (i := 0) d_P_within_0 rfl rfl ?_
  refine V2_iload_n (i := 1) d_P_within_1 rfl rfl ?_
  refine V2_icmp_lt (tgt := 14) d_P_within_2 rfl (fun c1 => ?_) (fun c1 => ?_)
  · refine V2_iconst (v := 0) d_P_within_14 rfl ?_
    refine V2_zreturn d_P_within_15 rfl (by decide) ?_
    refine V2.to (st' := [.int (0 : Int32)]) ?_ rfl rfl rfl rfl
    refine V2_if_ne (tgt := 16) d_P_feed_7 rfl (fun c => (by first | exact absurd c (by decide) | exact absurd (by decide) c)) (fun _ => ?_)
    refine V2_aload_n (i := 0) d_P_feed_10 rfl rfl ?_
    refine V2_iconst (v := 1) d_P_feed_11 rfl ?_
    refine V2_callV [.int (1 : Int32)] d_P_feed_12 rfl rfl lk_P_66 mo_P_fails (by decide) rfl rfl rfl (Nat.le_of_ble_eq_true rfl) (Nat.le_of_ble_eq_true rfl) ?_
    refine c_P_fails1 ?_
    refine V2_topi (fun v2 ev2 => ?_)
    refine V2_ireturn d_P_feed_15 rfl ?_
    have hb0 : ¬ (1 ≤ n.toInt ∧ n.toInt ≤ 8) := (by (try clear hQ); (try subst ev2); ((try simp only [xb_eq, xb_ne, Int32.lt_iff_toInt_lt, Int32.le_iff_toInt_le] at *) <;> (try simp only [← Int32.toInt_inj, true_and, false_and, or_false, false_or, or_true, true_or, and_true, and_false] at *) <;> omega))
    have e : k_feed F w n = (-1000000000 - 1, errF F 1) := if_neg hb0
    rw [e] at hQ
    subst ev2
    exact xQi (hQ _ (mid_err hR (by decide))) rfl rfl
  · refine V2_iload_n (i := 0) d_P_within_5 rfl rfl ?_
    refine V2_iload_n (i := 2) d_P_within_6 rfl rfl ?_
    refine V2_icmp_gt (tgt := 14) d_P_within_7 rfl (fun c3 => ?_) (fun c3 => ?_)
    · refine V2_iconst (v := 0) d_P_within_14 rfl ?_
      refine V2_zreturn d_P_within_15 rfl (by decide) ?_
      refine V2.to (st' := [.int (0 : Int32)]) ?_ rfl rfl rfl rfl
      refine V2_if_ne (tgt := 16) d_P_feed_7 rfl (fun c => (by first | exact absurd c (by decide) | exact absurd (by decide) c)) (fun _ => ?_)
      refine V2_aload_n (i := 0) d_P_feed_10 rfl rfl ?_
      refine V2_iconst (v := 1) d_P_feed_11 rfl ?_
      refine V2_callV [.int (1 : Int32)] d_P_feed_12 rfl rfl lk_P_66 mo_P_fails (by decide) rfl rfl rfl (Nat.le_of_ble_eq_true rfl) (Nat.le_of_ble_eq_true rfl) ?_
      refine c_P_fails1 ?_
      refine V2_topi (fun v4 ev4 => ?_)
      refine V2_ireturn d_P_feed_15 rfl ?_
      have hb0 : ¬ (1 ≤ n.toInt ∧ n.toInt ≤ 8) := (by (try clear hQ); (try subst ev4); ((try simp only [xb_eq, xb_ne, Int32.lt_iff_toInt_lt, Int32.le_iff_toInt_le] at *) <;> (try simp only [← Int32.toInt_inj, true_and, false_and, or_false, false_or, or_true, true_or, and_true, and_false] at *) <;> omega))
      have e : k_feed F w n = (-1000000000 - 1, errF F 1) := if_neg hb0
      rw [e] at hQ
      subst ev4
      exact xQi (hQ _ (mid_err hR (by decide))) rfl rfl
    · refine V2_iconst (v := 1) d_P_within_10 rfl ?_
      refine V2_goto (tgt := 15) d_P_within_11 rfl ?_
      refine V2_zreturn d_P_within_15 rfl (by decide) ?_
      refine V2.to (st' := [.int (1 : Int32)]) ?_ rfl rfl rfl rfl
      refine V2_if_ne (tgt := 16) d_P_feed_7 rfl (fun _ => ?_) (fun c => (by first | exact absurd c (by decide) | exact absurd (by decide) c))
      obtain ⟨p, hp, epp⟩ := in_of (x := n) (P := 9) (by (try clear hQ); (try skip); ((try simp only [xb_eq, xb_ne, Int32.lt_iff_toInt_lt, Int32.le_iff_toInt_le] at *) <;> (try simp only [← Int32.toInt_inj, true_and, false_and, or_false, false_or, or_true, true_or, and_true, and_false] at *) <;> omega)) (by (try clear hQ); (try skip); ((try simp only [xb_eq, xb_ne, Int32.lt_iff_toInt_lt, Int32.le_iff_toInt_le] at *) <;> (try simp only [← Int32.toInt_inj, true_and, false_and, or_false, false_or, or_true, true_or, and_true, and_false] at *) <;> omega)) (by omega)
      subst epp
      have np : (nI p).toInt = (p : Int) := nI_toInt (by omega)
      have kp : (nI p).toNatClampNeg = p := nI_clamp (by omega)
      refine V2_aload_n (i := 0) d_P_feed_16 rfl rfl ?_
      refine V2_getr (a := 1) d_P_feed_17 fl_P_10 (by decide) rfl (by decide) rfl ?_
      refine V2_getr (a := 14) d_P_feed_20 fl_P_144 (by decide) rfl (by decide) rfl ?_
      refine V2_iload_n (i := 3) d_P_feed_23 rfl rfl ?_
      refine V2_callV [.int (nI p)] d_P_feed_24 rfl rfl lk_P_148 mo_Nums_hasRoom (by decide) rfl rfl rfl (Nat.le_of_ble_eq_true rfl) (Nat.le_of_ble_eq_true rfl) ?_
      refine c_Nums_hasRoom_14 ?_
      refine V2_topi (fun v5 ev5 => ?_)
      refine V2_if_ne (tgt := 36) d_P_feed_27 rfl (fun c6 => ?_) (fun c6 => ?_)
      · refine V2_iconst (v := 0) d_P_feed_36 rfl ?_
        refine V2_istore (i := 4) (l' := [some (.ref 0), some (.long w), none, some (.int (nI p)), some (.int (0 : Int32))]) d_P_feed_37 (xst_i (Nat.le_of_ble_eq_true rfl) rfl rfl) ?_
        have hb0 : 1 ≤ (nI p).toInt ∧ (nI p).toInt ≤ 8 := (by (try clear hQ); (try subst ev5); ((try simp only [xb_eq, xb_ne, Int32.lt_iff_toInt_lt, Int32.le_iff_toInt_le] at *) <;> (try simp only [← Int32.toInt_inj, true_and, false_and, or_false, false_or, or_true, true_or, and_true, and_false] at *) <;> omega))
        have hb1 : (TN (F 66) : Int) + (nI p).toInt ≤ 60 := (by (try clear hQ); (try subst ev5); ((try simp only [xb_eq, xb_ne, Int32.lt_iff_toInt_lt, Int32.le_iff_toInt_le] at *) <;> (try simp only [← Int32.toInt_inj, true_and, false_and, or_false, false_or, or_true, true_or, and_true, and_false] at *) <;> omega))
        have e : k_feed F w (nI p) = (nI (TN (F 66) + p), xrw F 66 (feedS (F 66) (TN (F 66)) (byteS w) p)) := (if_pos hb0).trans ((if_pos hb1).trans (by rw [kp]))
        rw [e] at hQ
        refine V2.to (c_P_feed_loop (T := TN (F 66)) hR.2.1 eT (by omega) (fun G g1 g2 => hQ G (mid_W hR (fun k hk => g2 k (by omega) (by omega)) (relW_tape hR.1.1 hR.2.1 g1 g2 (fun j a b => feedS_o _ a b (by omega))))) (p + 1) 0 F hR.1.1.2.2.2.2.1 (fun a _ _ => rfl) (by omega) (by omega)) rfl rfl rfl rfl
      · refine V2_aload_n (i := 0) d_P_feed_30 rfl rfl ?_
        refine V2_iconst (v := 4) d_P_feed_31 rfl ?_
        refine V2_callV [.int (4 : Int32)] d_P_feed_32 rfl rfl lk_P_66 mo_P_fails (by decide) rfl rfl rfl (Nat.le_of_ble_eq_true rfl) (Nat.le_of_ble_eq_true rfl) ?_
        refine c_P_fails4 ?_
        refine V2_topi (fun v7 ev7 => ?_)
        refine V2_ireturn d_P_feed_35 rfl ?_
        have hb0 : 1 ≤ (nI p).toInt ∧ (nI p).toInt ≤ 8 := (by (try clear hQ); (try subst ev7 ev5); ((try simp only [xb_eq, xb_ne, Int32.lt_iff_toInt_lt, Int32.le_iff_toInt_le] at *) <;> (try simp only [← Int32.toInt_inj, true_and, false_and, or_false, false_or, or_true, true_or, and_true, and_false] at *) <;> omega))
        have hb1 : ¬ ((TN (F 66) : Int) + (nI p).toInt ≤ 60) := (by (try clear hQ); (try subst ev7 ev5); ((try simp only [xb_eq, xb_ne, Int32.lt_iff_toInt_lt, Int32.le_iff_toInt_le] at *) <;> (try simp only [← Int32.toInt_inj, true_and, false_and, or_false, false_or, or_true, true_or, and_true, and_false] at *) <;> omega))
        have e : k_feed F w (nI p) = (-1000000000 - 4, errF F 4) := (if_pos hb0).trans (if_neg hb1)
        rw [e] at hQ
        subst ev7 ev5
        exact xQi (hQ _ (mid_err hR (by decide))) rfl rfl
theorem c_R_feed_loop {L : Nat} {xs : Nat → Int32} {d : Nat} {Q : Option Value → xF → Prop} {F : xF} {w : Int64} {p T : Nat} (hp8 : p ≤ 8) (eT : F 66 9 = nI T) (hT : T + p ≤ 60) (hQ : Q (some (.int (nI (T + p)))) (xrw F 66 (feedS (F 66) T (byteS w) p))) : ∀ (n : Nat) (k : Nat), k ≤ p → p < n + k → V2 L xs (d + 1) m_R_feed 39 [some (.ref 65), some (.long w), none, some (.int (nI p)), some (.int (nI k))] [] (xrw F 66 (feedS (F 66) T (byteS w) k)) Q := by
  intro n
  induction n with
  | zero => exact fun k h1 h2 => absurd h2 (by omega)
  | succ n ih =>
    intro k h1 h2
    refine V2_iload (i := 4) d_R_feed_39 rfl ?_
    refine V2_iload_n (i := 3) d_R_feed_41 rfl rfl ?_
    refine V2_icmp_ge (tgt := 90) d_R_feed_42 rfl (fun c1 => ?_) (fun c1 => ?_)
    · refine V2_aload_n (i := 0) d_R_feed_90 rfl rfl ?_
      refine V2_getr (a := 66) d_R_feed_91 fl_R_7 (by decide) rfl (by decide) rfl ?_
      refine V2_bipush (v := 9) d_R_feed_94 rfl ?_
      refine V2_iaload (v := xrw F 66 (feedS (F 66) T (byteS w) k) 66 9) d_R_feed_96 (by decide) rfl (xixA (n := 9) rfl (by decide) (by decide)) rfl ?_
      refine V2_topi (fun v2 ev2 => ?_)
      refine V2_ireturn d_R_feed_97 rfl ?_
      have hk : k = p := Nat.le_antisymm h1 ((nI_leI (by omega) (by omega)).mp c1)
      subst hk
      subst ev2
      exact xQi hQ (feedS_9 eT k) rfl
    · have hk : k < p := Nat.not_le.mp (fun hh => c1 ((nI_leI (by omega) (by omega)).mpr hh))
      refine V2_aload_n (i := 0) d_R_feed_45 rfl rfl ?_
      refine V2_getr (a := 66) d_R_feed_46 fl_R_7 (by decide) rfl (by decide) rfl ?_
      refine V2_sipush (v := 274) d_R_feed_49 rfl ?_
      refine V2_aload_n (i := 0) d_R_feed_52 rfl rfl ?_
      refine V2_getr (a := 66) d_R_feed_53 fl_R_7 (by decide) rfl (by decide) rfl ?_
      refine V2_bipush (v := 9) d_R_feed_56 rfl ?_
      refine V2_iaload (v := xrw F 66 (feedS (F 66) T (byteS w) k) 66 9) d_R_feed_58 (by decide) rfl (xixA (n := 9) rfl (by decide) (by decide)) rfl ?_
      refine V2_topi (fun v3 ev3 => ?_)
      refine V2_iadd d_R_feed_59 ?_
      refine V2_topi (fun v4 ev4 => ?_)
      refine V2_lload_n (i := 1) d_R_feed_60 rfl rfl ?_
      refine V2_bipush (v := 8) d_R_feed_61 rfl ?_
      refine V2_iload (i := 4) d_R_feed_63 rfl ?_
      refine V2_imul d_R_feed_65 ?_
      refine V2_topi (fun v5 ev5 => ?_)
      refine V2_lshr d_R_feed_66 ?_
      refine V2_topl (fun w6 ew6 => ?_)
      refine V2_ldc2 (v := 255) d_R_feed_67 kc_R_59 ?_
      refine V2_land d_R_feed_70 ?_
      refine V2_topl (fun w7 ew7 => ?_)
      refine V2_l2i d_R_feed_71 ?_
      refine V2_topi (fun v8 ev8 => ?_)
      refine V2_iastore (j := (274 + (T + k))) d_R_feed_72 (by decide) rfl (xixA (n := 274 + (T + k)) (by subst ev8 ew7 ew6 ev5 ev4 ev3; rw [xrw_same, feedS_9 eT k]; simp only [nI, Int32.ofNat_add]; ac_rfl) (by omega) (by decide)) (xixB (n := 274 + (T + k)) (by subst ev8 ew7 ew6 ev5 ev4 ev3; rw [xrw_same, feedS_9 eT k]; simp only [nI, Int32.ofNat_add]; ac_rfl) (by omega)) ?_
      refine V2_aload_n (i := 0) d_R_feed_73 rfl rfl ?_
      refine V2_getr (a := 66) d_R_feed_74 fl_R_7 (by decide) rfl (by decide) rfl ?_
      refine V2_bipush (v := 9) d_R_feed_77 rfl ?_
      refine V2_dup2 d_R_feed_79 rfl rfl ?_
      refine V2_ialoadJ 9 d_R_feed_80 (by decide) rfl (xixA (n := 9) rfl (by decide) (by decide)) rfl rfl ?_
      refine V2_iconst (v := 1) d_R_feed_81 rfl ?_
      refine V2_iadd d_R_feed_82 ?_
      refine V2_topi (fun v9 ev9 => ?_)
      refine V2_iastore (j := 9) d_R_feed_83 (by decide) rfl (xixA (n := 9) rfl (by decide) (by decide)) rfl ?_
      obtain ⟨v10, ev10⟩ : ∃ y : Int32, y = nI k + 1 := ⟨_, rfl⟩
      refine V2_iinc (i := 4) (v := v10) (l' := [some (.ref 65), some (.long w), none, some (.int (nI p)), some (.int v10)]) d_R_feed_84 rfl (by rw [ev10]; rfl) (xst_i (Nat.le_of_ble_eq_true rfl) rfl rfl) ?_
      refine V2_goto (tgt := 39) d_R_feed_87 rfl ?_
      refine V2.to (ih (k + 1) (by omega) (by omega)) rfl (by rw [ev10, nI_1]) rfl ?_
      subst ev10 ev9 ev8 ew7 ew6 ev5 ev4 ev3
      rw [xp_xrw, xp_xrw, byte_eq (by omega), xrw_same]
      rw [show upd (feedS (F 66) T (byteS w) k) (274 + (T + k)) _ 9 = nI (T + k) from (upd_ne (by omega)).trans (feedS_9 eT k), nI_1]
      rfl
theorem c_mod_feed {L : Nat} {xs : Nat → Int32} {d : Nat} {Q : Option Value → xF → Prop} {F : xF} {w : Int64} {n : Int32} {F0 : xF} (hR : Rel F0) (hM : Mid F0 F (k_feed F0 w n).2) (hQ : ∀ F2, Rel F2 → Q (some (.int (k_feed F0 w n).1)) F2) : V2 L xs (d + 1) m_R_feed 0 (xEntry [.ref 65, .long w, .int n] 5) [] F Q := by
  have q0 : (0 : Int32).toInt = 0 := by decide
  have q1 : (1 : Int32).toInt = 1 := by decide
  have q2 : (2 : Int32).toInt = 2 := by decide
  have q3 : (3 : Int32).toInt = 3 := by decide
  have q4 : (4 : Int32).toInt = 4 := by decide
  have q5 : (5 : Int32).toInt = 5 := by decide
  have q6 : (6 : Int32).toInt = 6 := by decide
  have q7 : (7 : Int32).toInt = 7 := by decide
  have q8 : (8 : Int32).toInt = 8 := by decide
  have q9 : (9 : Int32).toInt = 9 := by decide
  have q10 : (10 : Int32).toInt = 10 := by decide
  have q12 : (12 : Int32).toInt = 12 := by decide
  have q16 : (16 : Int32).toInt = 16 := by decide
  have q20 : (20 : Int32).toInt = 20 := by decide
  have q24 : (24 : Int32).toInt = 24 := by decide
  have q30 : (30 : Int32).toInt = 30 := by decide
  have q32 : (32 : Int32).toInt = 32 := by decide
  have q40 : (40 : Int32).toInt = 40 := by decide
  have q60 : (60 : Int32).toInt = 60 := by decide
  have q69 : (69 : Int32).toInt = 69 := by decide
  have q99 : (99 : Int32).toInt = 99 := by decide
  have q9999 : (9999 : Int32).toInt = 9999 := by decide
  have q274 : (274 : Int32).toInt = 274 := by decide
  have q334 : (334 : Int32).toInt = 334 := by decide
  obtain ⟨eT, hT⟩ := inv_TN hR.2.1.2.2.2.2.2.1
  have nT : (F0 66 9).toInt = (TN (F0 66) : Int) := TN_int hR.2.1.2.2.2.2.2.1
  have e66 : F 66 = F0 66 := hM.1 66 (by decide)
  have e66b : F 66 9 = F0 66 9 := congrFun e66 9
  refine V2.to (l' := [some (.ref 65), some (.long w), none, some (.int n), none]) ?_ rfl rfl rfl rfl
  refine V2_iload_n (i := 3) d_R_feed_0 rfl rfl ?_
  refine V2_iconst (v := 1) d_R_feed_1 rfl ?_
  refine V2_bipush (v := 8) d_R_feed_2 rfl ?_
  refine V2_callS [.int n, .int (1 : Int32), .int (8 : Int32)] d_R_feed_4 rfl rfl lk_R_51 mo_R_in (Nat.le_of_ble_eq_true rfl) (Nat.le_of_ble_eq_true rfl) ?_
  refine c_R_in ?_
  refine V2_topi (fun v1 ev1 => ?_)
  refine V2_if_ne (tgt := 16) d_R_feed_7 rfl (fun c2 => ?_) (fun c2 => ?_)
  · obtain ⟨p, hp, epp⟩ := in_of (x := n) (P := 9) (by (try clear hQ); (try subst ev1); ((try simp only [xb_eq, xb_ne, Int32.lt_iff_toInt_lt, Int32.le_iff_toInt_le] at *) <;> (try simp only [← Int32.toInt_inj, true_and, false_and, or_false, false_or, or_true, true_or, and_true, and_false] at *) <;> omega)) (by (try clear hQ); (try subst ev1); ((try simp only [xb_eq, xb_ne, Int32.lt_iff_toInt_lt, Int32.le_iff_toInt_le] at *) <;> (try simp only [← Int32.toInt_inj, true_and, false_and, or_false, false_or, or_true, true_or, and_true, and_false] at *) <;> omega)) (by omega)
    subst epp
    have np : (nI p).toInt = (p : Int) := nI_toInt (by omega)
    have kp : (nI p).toNatClampNeg = p := nI_clamp (by omega)
    refine V2_aload_n (i := 0) d_R_feed_16 rfl rfl ?_
    refine V2_getr (a := 66) d_R_feed_17 fl_R_7 (by decide) rfl (by decide) rfl ?_
    refine V2_bipush (v := 9) d_R_feed_20 rfl ?_
    refine V2_iaload (v := F 66 9) d_R_feed_22 (by decide) rfl (xixA (n := 9) rfl (by decide) (by decide)) rfl ?_
    refine V2_topi (fun v3 ev3 => ?_)
    refine V2_iload_n (i := 3) d_R_feed_23 rfl rfl ?_
    refine V2_iadd d_R_feed_24 ?_
    refine V2_topi (fun v4 ev4 => ?_)
    have sT : v4.toInt = (TN (F0 66) : Int) + (nI p).toInt := by
      subst ev4 ev3 ev1
      rw [e66, eT, nI_add, nI_toInt (by omega), np]
      omega
    refine V2_bipush (v := 60) d_R_feed_25 rfl ?_
    refine V2_icmp_le (tgt := 36) d_R_feed_27 rfl (fun c5 => ?_) (fun c5 => ?_)
    · refine V2_iconst (v := 0) d_R_feed_36 rfl ?_
      refine V2_istore (i := 4) (l' := [some (.ref 65), some (.long w), none, some (.int (nI p)), some (.int (0 : Int32))]) d_R_feed_37 (xst_i (Nat.le_of_ble_eq_true rfl) rfl rfl) ?_
      have hb0 : 1 ≤ (nI p).toInt ∧ (nI p).toInt ≤ 8 := (by (try clear hQ); (try subst ev4 ev3 ev1); ((try simp only [xb_eq, xb_ne, Int32.lt_iff_toInt_lt, Int32.le_iff_toInt_le] at *) <;> (try simp only [← Int32.toInt_inj, true_and, false_and, or_false, false_or, or_true, true_or, and_true, and_false] at *) <;> omega))
      have hb1 : (TN (F0 66) : Int) + (nI p).toInt ≤ 60 := (by (try clear hQ); (try subst ev4 ev3 ev1); ((try simp only [xb_eq, xb_ne, Int32.lt_iff_toInt_lt, Int32.le_iff_toInt_le] at *) <;> (try simp only [← Int32.toInt_inj, true_and, false_and, or_false, false_or, or_true, true_or, and_true, and_false] at *) <;> omega))
      have e : k_feed F0 w (nI p) = (nI (TN (F0 66) + p), xrw F0 66 (feedS (F0 66) (TN (F0 66)) (byteS w) p)) := (if_pos hb0).trans ((if_pos hb1).trans (by rw [kp]))
      rw [e] at hQ hM
      have eT2 : F 66 9 = nI (TN (F0 66)) := by rw [e66, eT]
      refine V2.to (c_R_feed_loop (T := TN (F0 66)) (by omega) eT2 (by omega) ?_ (p + 1) 0 (by omega) (by omega)) rfl rfl rfl (xrw_self F 66).symm
      rw [e66]
      exact hQ _ (rel_W hR hM (invS_tape hR.2.1 (invTape_feed hR.2.1.2.2.2.2.2.1 eT (fun k => byte_range _) p (by omega)) (fun j a b => feedS_o _ a b (by omega))))
    · refine V2_aload_n (i := 0) d_R_feed_30 rfl rfl ?_
      refine V2_iconst (v := 4) d_R_feed_31 rfl ?_
      refine V2_callV [.int (4 : Int32)] d_R_feed_32 rfl rfl lk_R_55 mo_R_error (by decide) rfl rfl rfl (Nat.le_of_ble_eq_true rfl) (Nat.le_of_ble_eq_true rfl) ?_
      refine c_R_error4 ?_
      refine V2_topi (fun v6 ev6 => ?_)
      refine V2_ireturn d_R_feed_35 rfl ?_
      have hb0 : 1 ≤ (nI p).toInt ∧ (nI p).toInt ≤ 8 := (by (try clear hQ); (try subst ev6 ev4 ev3 ev1); ((try simp only [xb_eq, xb_ne, Int32.lt_iff_toInt_lt, Int32.le_iff_toInt_le] at *) <;> (try simp only [← Int32.toInt_inj, true_and, false_and, or_false, false_or, or_true, true_or, and_true, and_false] at *) <;> omega))
      have hb1 : ¬ ((TN (F0 66) : Int) + (nI p).toInt ≤ 60) := (by (try clear hQ); (try subst ev6 ev4 ev3 ev1); ((try simp only [xb_eq, xb_ne, Int32.lt_iff_toInt_lt, Int32.le_iff_toInt_le] at *) <;> (try simp only [← Int32.toInt_inj, true_and, false_and, or_false, false_or, or_true, true_or, and_true, and_false] at *) <;> omega))
      have e : k_feed F0 w (nI p) = (-1000000000 - 4, errF F0 4) := (if_pos hb0).trans (if_neg hb1)
      rw [e] at hQ hM
      subst ev6 ev4 ev3 ev1
      exact xQi (hQ _ (rel_err hR hM)) rfl rfl
  · refine V2_aload_n (i := 0) d_R_feed_10 rfl rfl ?_
    refine V2_iconst (v := 1) d_R_feed_11 rfl ?_
    refine V2_callV [.int (1 : Int32)] d_R_feed_12 rfl rfl lk_R_55 mo_R_error (by decide) rfl rfl rfl (Nat.le_of_ble_eq_true rfl) (Nat.le_of_ble_eq_true rfl) ?_
    refine c_R_error1 ?_
    refine V2_topi (fun v7 ev7 => ?_)
    refine V2_ireturn d_R_feed_15 rfl ?_
    have hb0 : ¬ (1 ≤ n.toInt ∧ n.toInt ≤ 8) := (by (try clear hQ); (try subst ev7 ev1); ((try simp only [xb_eq, xb_ne, Int32.lt_iff_toInt_lt, Int32.le_iff_toInt_le] at *) <;> (try simp only [← Int32.toInt_inj, true_and, false_and, or_false, false_or, or_true, true_or, and_true, and_false] at *) <;> omega))
    have e : k_feed F0 w n = (-1000000000 - 1, errF F0 1) := if_neg hb0
    rw [e] at hQ hM
    subst ev7 ev1
    exact xQi (hQ _ (rel_err hR hM)) rfl rfl
