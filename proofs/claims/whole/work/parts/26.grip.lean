/-! the model's grip, rub, and a swing -/
def okT (u : Nat) (S : Nat → Int32) : Prop := ∃ n : Nat, S (24 + 125 * u) = nI n ∧ (n = 0 ∨ okText u n (whS u S) (vlS u S))
def gripS (S : Nat → Int32) (a b c : Int32) : Int32 := heldS (if 0 < S 24 then valT (nmS a b c) (S 24).toNatClampNeg (whS 0 S) (vlS 0 S) else 9 + c - a / 10) 0 99
def rubS (S : Nat → Int32) (a b c : Int32) : Int32 := heldS (if 0 < S 149 then valT (nmS a b c) (S 149).toNatClampNeg (whS 1 S) (vlS 1 S) else 2 + b / 10) 0 99
theorem okT_pos {u : Nat} {S : Nat → Int32} (h : okT u S) (h0 : 0 < S (24 + 125 * u)) : ∃ n : Nat, S (24 + 125 * u) = nI n ∧ okText u n (whS u S) (vlS u S) ∧ (S (24 + 125 * u)).toNatClampNeg = n := by
  obtain ⟨n, h1, h2⟩ := h
  rcases h2 with rfl | h2
  · rw [h1] at h0
    exact absurd h0 (by decide)
  · exact ⟨n, h1, h2, by rw [h1]; exact nI_clamp (by have := h2.1; omega)⟩
theorem xp_row (F : xF) (k j : Nat) (x : Int32) : xp F k j x = xrw F k (upd (F k) j x) := by
  funext a b
  unfold xp xrw upd
  by_cases ha : a = k
  · subst ha
    simp
  · simp [ha]
theorem named0 {F : xF} {a b c : Int32} : ∀ v, isName 0 v → xp (xp (xp F 71 105 a) 71 100 b) 71 119 c 71 v.toNatClampNeg = nmS a b c v := by
  intro v hv
  rcases hv with rfl | h
  · rfl
  · rw [if_pos rfl] at h
    rcases h with rfl | rfl <;> rfl
theorem named1 {F : xF} {a b c : Int32} : ∀ v, isName 1 v → xp (xp (xp F 71 104 a) 71 100 b) 71 110 c 71 v.toNatClampNeg = nmS a b c v := by
  intro v hv
  rcases hv with rfl | h
  · rfl
  · rw [if_neg (by decide)] at h
    rcases h with rfl | rfl <;> rfl
theorem c_R_worked0 {L : Nat} {xs : Nat → Int32} {d : Nat} {Q : Option Value → xF → Prop} {F : xF} {n : Nat} {nm : Int32 → Int32} (hT : F 66 24 = nI n) (hok : okText 0 n (whS 0 (F 66)) (vlS 0 (F 66))) (hnm : ∀ v, isName 0 v → F 71 v.toNatClampNeg = nm v) (hQ : ∀ q : Nat → Int32, Q (some (.int (valT nm n (whS 0 (F 66)) (vlS 0 (F 66))))) (xrw F 72 q)) : V2 L xs (d + 1) m_R_worked 0 (xEntry [.ref 65, .int (0 : Int32)] 7) [] F Q := by
  refine V2.to (l' := [some (.ref 65), some (.int (0 : Int32)), none, none, none, none, none]) ?_ rfl rfl rfl rfl
  refine V2_bipush (v := 24) d_R_worked_0 rfl ?_
  refine V2_bipush (v := 125) d_R_worked_2 rfl ?_
  refine V2_iload_n (i := 1) d_R_worked_4 rfl rfl ?_
  refine V2_imul d_R_worked_5 ?_
  refine V2_topi (fun v1 ev1 => ?_)
  refine V2_iadd d_R_worked_6 ?_
  refine V2_topi (fun v2 ev2 => ?_)
  refine V2_istore_n (i := 2) (l' := [some (.ref 65), some (.int (0 : Int32)), some (.int v2), none, none, none, none]) d_R_worked_7 rfl (xst_i (Nat.le_of_ble_eq_true rfl) rfl rfl) ?_
  refine V2_iconst (v := 0) d_R_worked_8 rfl ?_
  refine V2_istore_n (i := 3) (l' := [some (.ref 65), some (.int (0 : Int32)), some (.int v2), some (.int (0 : Int32)), none, none, none]) d_R_worked_9 rfl (xst_i (Nat.le_of_ble_eq_true rfl) rfl rfl) ?_
  refine V2_iconst (v := 0) d_R_worked_10 rfl ?_
  refine V2_istore (i := 4) (l' := [some (.ref 65), some (.int (0 : Int32)), some (.int v2), some (.int (0 : Int32)), some (.int (0 : Int32)), none, none]) d_R_worked_11 (xst_i (Nat.le_of_ble_eq_true rfl) rfl rfl) ?_
  have hb : v2 = 24 := by subst ev2 ev1; decide
  rw [hb]
  exact V2.to (c_R_worked0_loop hT hok hnm (xQi (hQ _) (runT_val hok _) rfl) (n + 1) 0 (Nat.zero_le _) (by omega)) rfl rfl rfl (xrw_self F 72).symm
theorem c_R_gripTold {L : Nat} {xs : Nat → Int32} {d : Nat} {Q : Option Value → xF → Prop} {F : xF} {a b c : Int32} (hT : okT 0 (F 66)) (hQ : ∀ q71 q72 : Nat → Int32, Q (some (.int (gripS (F 66) a b c))) (xrw (xrw F 71 q71) 72 q72)) : V2 L xs (d + 2) m_R_gripTold 0 (xEntry [.ref 65, .int a, .int b, .int c] 4) [] F Q := by
  refine V2.to (l' := [some (.ref 65), some (.int a), some (.int b), some (.int c)]) ?_ rfl rfl rfl rfl
  refine V2_aload_n (i := 0) d_R_gripTold_0 rfl rfl ?_
  refine V2_getr (a := 71) d_R_gripTold_1 fl_R_29 (by decide) rfl (by decide) rfl ?_
  refine V2_bipush (v := 105) d_R_gripTold_4 rfl ?_
  refine V2_iload_n (i := 1) d_R_gripTold_6 rfl rfl ?_
  refine V2_iastore (j := 105) d_R_gripTold_7 (by decide) rfl (xixA (n := 105) rfl (by decide) (by decide)) rfl ?_
  refine V2_aload_n (i := 0) d_R_gripTold_8 rfl rfl ?_
  refine V2_getr (a := 71) d_R_gripTold_9 fl_R_29 (by decide) rfl (by decide) rfl ?_
  refine V2_bipush (v := 100) d_R_gripTold_12 rfl ?_
  refine V2_iload_n (i := 2) d_R_gripTold_14 rfl rfl ?_
  refine V2_iastore (j := 100) d_R_gripTold_15 (by decide) rfl (xixA (n := 100) rfl (by decide) (by decide)) rfl ?_
  refine V2_aload_n (i := 0) d_R_gripTold_16 rfl rfl ?_
  refine V2_getr (a := 71) d_R_gripTold_17 fl_R_29 (by decide) rfl (by decide) rfl ?_
  refine V2_bipush (v := 119) d_R_gripTold_20 rfl ?_
  refine V2_iload_n (i := 3) d_R_gripTold_22 rfl rfl ?_
  refine V2_iastore (j := 119) d_R_gripTold_23 (by decide) rfl (xixA (n := 119) rfl (by decide) (by decide)) rfl ?_
  refine V2_aload_n (i := 0) d_R_gripTold_24 rfl rfl ?_
  refine V2_iconst (v := 0) d_R_gripTold_25 rfl ?_
  refine V2_callV [.int (0 : Int32)] d_R_gripTold_26 rfl rfl lk_R_107 mo_R_hasText (by decide) rfl rfl rfl (Nat.le_of_ble_eq_true rfl) (Nat.le_of_ble_eq_true rfl) ?_
  refine c_R_hasText0 ?_
  refine V2_topi (fun v1 ev1 => ?_)
  refine V2_if_eq (tgt := 40) d_R_gripTold_29 rfl (fun c2 => ?_) (fun c2 => ?_)
  · refine V2_bipush (v := 9) d_R_gripTold_40 rfl ?_
    refine V2_iload_n (i := 3) d_R_gripTold_42 rfl rfl ?_
    refine V2_iadd d_R_gripTold_43 ?_
    refine V2_topi (fun v3 ev3 => ?_)
    refine V2_iload_n (i := 1) d_R_gripTold_44 rfl rfl ?_
    refine V2_bipush (v := 10) d_R_gripTold_45 rfl ?_
    refine V2_idiv d_R_gripTold_47 (by decide) ?_
    refine V2_topi (fun v4 ev4 => ?_)
    refine V2_isub d_R_gripTold_48 ?_
    refine V2_topi (fun v5 ev5 => ?_)
    refine V2_iconst (v := 0) d_R_gripTold_49 rfl ?_
    refine V2_bipush (v := 99) d_R_gripTold_50 rfl ?_
    refine V2_callS [.int v5, .int (0 : Int32), .int (99 : Int32)] d_R_gripTold_52 rfl rfl lk_R_127 mo_R_held (Nat.le_of_ble_eq_true rfl) (Nat.le_of_ble_eq_true rfl) ?_
    refine c_R_held ?_
    refine V2_topi (fun v6 ev6 => ?_)
    refine V2_ireturn d_R_gripTold_55 rfl ?_
    have hneg : ¬ 0 < F 66 24 := by have h9 := c2; subst ev6 ev5 ev4 ev3 ev1; exact xb_eq.mp h9
    refine xQi (hQ (upd (upd (upd (F 71) 105 a) 100 b) 119 c) (F 72)) ?_ ?_
    · unfold gripS
      rw [if_neg hneg]
      subst ev6 ev5 ev4 ev3 ev1
      rfl
    · rw [xp_row F, xp_xrw, xp_xrw]
      exact (xrw_self _ 72).symm
  · refine V2_aload_n (i := 0) d_R_gripTold_32 rfl rfl ?_
    refine V2_iconst (v := 0) d_R_gripTold_33 rfl ?_
    refine V2_callV [.int (0 : Int32)] d_R_gripTold_34 rfl rfl lk_R_124 mo_R_worked (by decide) rfl rfl rfl (Nat.le_of_ble_eq_true rfl) (Nat.le_of_ble_eq_true rfl) ?_
    have hpos : 0 < F 66 24 := by have h9 := c2; subst ev1; exact xb_ne.mp h9
    obtain ⟨n, hn, hok, hcl⟩ := okT_pos (u := 0) hT hpos
    refine c_R_worked0 (n := n) (nm := nmS a b c) hn hok named0 (fun q => ?_)
    refine V2_topi (fun v7 ev7 => ?_)
    refine V2_goto (tgt := 49) d_R_gripTold_37 rfl ?_
    refine V2_iconst (v := 0) d_R_gripTold_49 rfl ?_
    refine V2_bipush (v := 99) d_R_gripTold_50 rfl ?_
    refine V2_callS [.int v7, .int (0 : Int32), .int (99 : Int32)] d_R_gripTold_52 rfl rfl lk_R_127 mo_R_held (Nat.le_of_ble_eq_true rfl) (Nat.le_of_ble_eq_true rfl) ?_
    refine c_R_held ?_
    refine V2_topi (fun v8 ev8 => ?_)
    refine V2_ireturn d_R_gripTold_55 rfl ?_
    refine xQi (hQ (upd (upd (upd (F 71) 105 a) 100 b) 119 c) q) ?_ ?_
    · unfold gripS
      rw [if_pos hpos, show (F 66 24).toNatClampNeg = n from hcl]
      subst ev8 ev7 ev1
      rfl
    · rw [xp_row F, xp_xrw, xp_xrw]
theorem c_R_worked1 {L : Nat} {xs : Nat → Int32} {d : Nat} {Q : Option Value → xF → Prop} {F : xF} {n : Nat} {nm : Int32 → Int32} (hT : F 66 149 = nI n) (hok : okText 1 n (whS 1 (F 66)) (vlS 1 (F 66))) (hnm : ∀ v, isName 1 v → F 71 v.toNatClampNeg = nm v) (hQ : ∀ q : Nat → Int32, Q (some (.int (valT nm n (whS 1 (F 66)) (vlS 1 (F 66))))) (xrw F 72 q)) : V2 L xs (d + 1) m_R_worked 0 (xEntry [.ref 65, .int (1 : Int32)] 7) [] F Q := by
  refine V2.to (l' := [some (.ref 65), some (.int (1 : Int32)), none, none, none, none, none]) ?_ rfl rfl rfl rfl
  refine V2_bipush (v := 24) d_R_worked_0 rfl ?_
  refine V2_bipush (v := 125) d_R_worked_2 rfl ?_
  refine V2_iload_n (i := 1) d_R_worked_4 rfl rfl ?_
  refine V2_imul d_R_worked_5 ?_
  refine V2_topi (fun v1 ev1 => ?_)
  refine V2_iadd d_R_worked_6 ?_
  refine V2_topi (fun v2 ev2 => ?_)
  refine V2_istore_n (i := 2) (l' := [some (.ref 65), some (.int (1 : Int32)), some (.int v2), none, none, none, none]) d_R_worked_7 rfl (xst_i (Nat.le_of_ble_eq_true rfl) rfl rfl) ?_
  refine V2_iconst (v := 0) d_R_worked_8 rfl ?_
  refine V2_istore_n (i := 3) (l' := [some (.ref 65), some (.int (1 : Int32)), some (.int v2), some (.int (0 : Int32)), none, none, none]) d_R_worked_9 rfl (xst_i (Nat.le_of_ble_eq_true rfl) rfl rfl) ?_
  refine V2_iconst (v := 0) d_R_worked_10 rfl ?_
  refine V2_istore (i := 4) (l' := [some (.ref 65), some (.int (1 : Int32)), some (.int v2), some (.int (0 : Int32)), some (.int (0 : Int32)), none, none]) d_R_worked_11 (xst_i (Nat.le_of_ble_eq_true rfl) rfl rfl) ?_
  have hb : v2 = 149 := by subst ev2 ev1; decide
  rw [hb]
  exact V2.to (c_R_worked1_loop hT hok hnm (xQi (hQ _) (runT_val hok _) rfl) (n + 1) 0 (Nat.zero_le _) (by omega)) rfl rfl rfl (xrw_self F 72).symm
theorem c_R_rubTold {L : Nat} {xs : Nat → Int32} {d : Nat} {Q : Option Value → xF → Prop} {F : xF} {a b c : Int32} (hT : okT 1 (F 66)) (hQ : ∀ q71 q72 : Nat → Int32, Q (some (.int (rubS (F 66) a b c))) (xrw (xrw F 71 q71) 72 q72)) : V2 L xs (d + 2) m_R_rubTold 0 (xEntry [.ref 65, .int a, .int b, .int c] 4) [] F Q := by
  refine V2.to (l' := [some (.ref 65), some (.int a), some (.int b), some (.int c)]) ?_ rfl rfl rfl rfl
  refine V2_aload_n (i := 0) d_R_rubTold_0 rfl rfl ?_
  refine V2_getr (a := 71) d_R_rubTold_1 fl_R_29 (by decide) rfl (by decide) rfl ?_
  refine V2_bipush (v := 104) d_R_rubTold_4 rfl ?_
  refine V2_iload_n (i := 1) d_R_rubTold_6 rfl rfl ?_
  refine V2_iastore (j := 104) d_R_rubTold_7 (by decide) rfl (xixA (n := 104) rfl (by decide) (by decide)) rfl ?_
  refine V2_aload_n (i := 0) d_R_rubTold_8 rfl rfl ?_
  refine V2_getr (a := 71) d_R_rubTold_9 fl_R_29 (by decide) rfl (by decide) rfl ?_
  refine V2_bipush (v := 100) d_R_rubTold_12 rfl ?_
  refine V2_iload_n (i := 2) d_R_rubTold_14 rfl rfl ?_
  refine V2_iastore (j := 100) d_R_rubTold_15 (by decide) rfl (xixA (n := 100) rfl (by decide) (by decide)) rfl ?_
  refine V2_aload_n (i := 0) d_R_rubTold_16 rfl rfl ?_
  refine V2_getr (a := 71) d_R_rubTold_17 fl_R_29 (by decide) rfl (by decide) rfl ?_
  refine V2_bipush (v := 110) d_R_rubTold_20 rfl ?_
  refine V2_iload_n (i := 3) d_R_rubTold_22 rfl rfl ?_
  refine V2_iastore (j := 110) d_R_rubTold_23 (by decide) rfl (xixA (n := 110) rfl (by decide) (by decide)) rfl ?_
  refine V2_aload_n (i := 0) d_R_rubTold_24 rfl rfl ?_
  refine V2_iconst (v := 1) d_R_rubTold_25 rfl ?_
  refine V2_callV [.int (1 : Int32)] d_R_rubTold_26 rfl rfl lk_R_107 mo_R_hasText (by decide) rfl rfl rfl (Nat.le_of_ble_eq_true rfl) (Nat.le_of_ble_eq_true rfl) ?_
  refine c_R_hasText1 ?_
  refine V2_topi (fun v1 ev1 => ?_)
  refine V2_if_eq (tgt := 40) d_R_rubTold_29 rfl (fun c2 => ?_) (fun c2 => ?_)
  · refine V2_iconst (v := 2) d_R_rubTold_40 rfl ?_
    refine V2_iload_n (i := 2) d_R_rubTold_41 rfl rfl ?_
    refine V2_bipush (v := 10) d_R_rubTold_42 rfl ?_
    refine V2_idiv d_R_rubTold_44 (by decide) ?_
    refine V2_topi (fun v3 ev3 => ?_)
    refine V2_iadd d_R_rubTold_45 ?_
    refine V2_topi (fun v4 ev4 => ?_)
    refine V2_iconst (v := 0) d_R_rubTold_46 rfl ?_
    refine V2_bipush (v := 99) d_R_rubTold_47 rfl ?_
    refine V2_callS [.int v4, .int (0 : Int32), .int (99 : Int32)] d_R_rubTold_49 rfl rfl lk_R_127 mo_R_held (Nat.le_of_ble_eq_true rfl) (Nat.le_of_ble_eq_true rfl) ?_
    refine c_R_held ?_
    refine V2_topi (fun v5 ev5 => ?_)
    refine V2_ireturn d_R_rubTold_52 rfl ?_
    have hneg : ¬ 0 < F 66 149 := by have h9 := c2; subst ev5 ev4 ev3 ev1; exact xb_eq.mp h9
    refine xQi (hQ (upd (upd (upd (F 71) 104 a) 100 b) 110 c) (F 72)) ?_ ?_
    · unfold rubS
      rw [if_neg hneg]
      subst ev5 ev4 ev3 ev1
      rfl
    · rw [xp_row F, xp_xrw, xp_xrw]
      exact (xrw_self _ 72).symm
  · refine V2_aload_n (i := 0) d_R_rubTold_32 rfl rfl ?_
    refine V2_iconst (v := 1) d_R_rubTold_33 rfl ?_
    refine V2_callV [.int (1 : Int32)] d_R_rubTold_34 rfl rfl lk_R_124 mo_R_worked (by decide) rfl rfl rfl (Nat.le_of_ble_eq_true rfl) (Nat.le_of_ble_eq_true rfl) ?_
    have hpos : 0 < F 66 149 := by have h9 := c2; subst ev1; exact xb_ne.mp h9
    obtain ⟨n, hn, hok, hcl⟩ := okT_pos (u := 1) hT hpos
    refine c_R_worked1 (n := n) (nm := nmS a b c) hn hok named1 (fun q => ?_)
    refine V2_topi (fun v6 ev6 => ?_)
    refine V2_goto (tgt := 46) d_R_rubTold_37 rfl ?_
    refine V2_iconst (v := 0) d_R_rubTold_46 rfl ?_
    refine V2_bipush (v := 99) d_R_rubTold_47 rfl ?_
    refine V2_callS [.int v6, .int (0 : Int32), .int (99 : Int32)] d_R_rubTold_49 rfl rfl lk_R_127 mo_R_held (Nat.le_of_ble_eq_true rfl) (Nat.le_of_ble_eq_true rfl) ?_
    refine c_R_held ?_
    refine V2_topi (fun v7 ev7 => ?_)
    refine V2_ireturn d_R_rubTold_52 rfl ?_
    refine xQi (hQ (upd (upd (upd (F 71) 104 a) 100 b) 110 c) q) ?_ ?_
    · unfold rubS
      rw [if_pos hpos, show (F 66 149).toNatClampNeg = n from hcl]
      subst ev7 ev6 ev1
      rfl
    · rw [xp_row F, xp_xrw, xp_xrw]
noncomputable def gripM (S : Nat → Int32) (set : Int32) (P : Nat) : Int32 := gripS S (S 1) (S 0) (weightSum S set P) + (if S 4 = 0 then 0 else 3)
def rubM (S : Nat → Int32) : Int32 := rubS S (S 2) (S 0) (S 7)
def gIce (S : Nat → Int32) (gas grip : Int32) : Int32 := if grip < gas then heldS (S 1 + gas - grip) 0 99 else S 1
def gDepth (S : Nat → Int32) (gas grip : Int32) : Int32 := if grip < gas then heldS (S 0 + 1) 1 60 else S 0
def gSand (S : Nat → Int32) (gas grip : Int32) : Int32 := if grip < gas then heldS (S 4 - 1) 0 99 else S 4
def gHeight (S : Nat → Int32) (gas grip more : Int32) : Int32 := heldS (S 2 + more + (if grip < gas then 0 else gas)) 0 99
/-- the row behind a swing -/
def goM (S : Nat → Int32) (gas grip more : Int32) : Nat → Int32 := fun j =>
  if j = 0 then gDepth S gas grip else if j = 1 then gIce S gas grip else if j = 2 then gHeight S gas grip more else if j = 3 then 1 - S 3 else if j = 4 then gSand S gas grip
  else if j = 5 then (if gDepth S gas grip ≤ gHeight S gas grip more then 1 else S 5) else if j = 6 then (if gDepth S gas grip ≤ gHeight S gas grip more then heldS (S 6 + 1) 0 9999 else S 6) else if j = 7 then S 7 + 1 else S j
/-- what a swing with gas does to the row, with a set of people there -/
noncomputable def goS (S : Nat → Int32) (gas set : Int32) (P : Nat) : Nat → Int32 := goM S gas (gripM S set P) (pushSum S set P - rubM S)
theorem c_R_grip {L : Nat} {xs : Nat → Int32} {d : Nat} {Q : Option Value → xF → Prop} {F : xF} {P : Nat} (hT : okT 0 (F 66)) (hP : F 66 11 = nI P) (hP6 : P ≤ 6) (hQ : ∀ q71 q72 : Nat → Int32, Q (some (.int (gripM (F 66) (F 65 5) P))) (xrw (xrw F 71 q71) 72 q72)) : V2 L xs (d + 3) m_R_grip 0 (xEntry [.ref 65] 1) [] F Q := by
  refine V2.to (l' := [some (.ref 65)]) ?_ rfl rfl rfl rfl
  refine V2_aload_n (i := 0) d_R_grip_0 rfl rfl ?_
  refine V2_aload_n (i := 0) d_R_grip_1 rfl rfl ?_
  refine V2_getr (a := 66) d_R_grip_2 fl_R_7 (by decide) rfl (by decide) rfl ?_
  refine V2_iconst (v := 1) d_R_grip_5 rfl ?_
  refine V2_iaload (v := F 66 1) d_R_grip_6 (by decide) rfl (xixA (n := 1) rfl (by decide) (by decide)) rfl ?_
  refine V2_topi (fun v1 ev1 => ?_)
  refine V2_aload_n (i := 0) d_R_grip_7 rfl rfl ?_
  refine V2_getr (a := 66) d_R_grip_8 fl_R_7 (by decide) rfl (by decide) rfl ?_
  refine V2_iconst (v := 0) d_R_grip_11 rfl ?_
  refine V2_iaload (v := F 66 0) d_R_grip_12 (by decide) rfl (xixA (n := 0) rfl (by decide) (by decide)) rfl ?_
  refine V2_topi (fun v2 ev2 => ?_)
  refine V2_aload_n (i := 0) d_R_grip_13 rfl rfl ?_
  refine V2_callV [] d_R_grip_14 rfl rfl lk_R_130 mo_R_weighs (by decide) rfl rfl rfl (Nat.le_of_ble_eq_true rfl) (Nat.le_of_ble_eq_true rfl) ?_
  refine c_R_weighs (by assumption) (by assumption) ?_
  refine V2_topi (fun v3 ev3 => ?_)
  refine V2_callV [.int v1, .int v2, .int v3] d_R_grip_17 rfl rfl lk_R_133 mo_R_gripTold (by decide) rfl rfl rfl (Nat.le_of_ble_eq_true rfl) (Nat.le_of_ble_eq_true rfl) ?_
  refine c_R_gripTold (by assumption) (fun q4 q5 => ?_)
  refine V2_topi (fun v6 ev6 => ?_)
  refine V2_aload_n (i := 0) d_R_grip_20 rfl rfl ?_
  refine V2_getr (a := 66) d_R_grip_21 fl_R_7 (by decide) rfl (by decide) rfl ?_
  refine V2_iconst (v := 4) d_R_grip_24 rfl ?_
  refine V2_iaload (v := F 66 4) d_R_grip_25 (by decide) rfl (xixA (n := 4) rfl (by decide) (by decide)) rfl ?_
  refine V2_topi (fun v7 ev7 => ?_)
  refine V2_if_ne (tgt := 33) d_R_grip_26 rfl (fun c8 => ?_) (fun c8 => ?_)
  · refine V2_iconst (v := 3) d_R_grip_33 rfl ?_
    refine V2_iadd d_R_grip_34 ?_
    refine V2_topi (fun v9 ev9 => ?_)
    refine V2_ireturn d_R_grip_35 rfl ?_
    refine xQi (hQ _ _) ?_ rfl
    unfold gripM
    rw [if_neg (show ¬ F 66 4 = 0 from by have h9 := c8; subst ev9 ev7 ev6 ev3 ev2 ev1; exact h9)]
    subst ev9 ev7 ev6 ev3 ev2 ev1
    rfl
  · refine V2_iconst (v := 0) d_R_grip_29 rfl ?_
    refine V2_goto (tgt := 34) d_R_grip_30 rfl ?_
    refine V2_iadd d_R_grip_34 ?_
    refine V2_topi (fun v10 ev10 => ?_)
    refine V2_ireturn d_R_grip_35 rfl ?_
    refine xQi (hQ _ _) ?_ rfl
    unfold gripM
    rw [if_pos (show F 66 4 = 0 from by have h9 := c8; subst ev10 ev7 ev6 ev3 ev2 ev1; exact h9)]
    subst ev10 ev7 ev6 ev3 ev2 ev1
    rfl
theorem c_R_rub {L : Nat} {xs : Nat → Int32} {d : Nat} {Q : Option Value → xF → Prop} {F : xF}  (hT : okT 1 (F 66)) (hQ : ∀ q71 q72 : Nat → Int32, Q (some (.int (rubM (F 66)))) (xrw (xrw F 71 q71) 72 q72)) : V2 L xs (d + 3) m_R_rub 0 (xEntry [.ref 65] 1) [] F Q := by
  refine V2.to (l' := [some (.ref 65)]) ?_ rfl rfl rfl rfl
  refine V2_aload_n (i := 0) d_R_rub_0 rfl rfl ?_
  refine V2_aload_n (i := 0) d_R_rub_1 rfl rfl ?_
  refine V2_getr (a := 66) d_R_rub_2 fl_R_7 (by decide) rfl (by decide) rfl ?_
  refine V2_iconst (v := 2) d_R_rub_5 rfl ?_
  refine V2_iaload (v := F 66 2) d_R_rub_6 (by decide) rfl (xixA (n := 2) rfl (by decide) (by decide)) rfl ?_
  refine V2_topi (fun v1 ev1 => ?_)
  refine V2_aload_n (i := 0) d_R_rub_7 rfl rfl ?_
  refine V2_getr (a := 66) d_R_rub_8 fl_R_7 (by decide) rfl (by decide) rfl ?_
  refine V2_iconst (v := 0) d_R_rub_11 rfl ?_
  refine V2_iaload (v := F 66 0) d_R_rub_12 (by decide) rfl (xixA (n := 0) rfl (by decide) (by decide)) rfl ?_
  refine V2_topi (fun v2 ev2 => ?_)
  refine V2_aload_n (i := 0) d_R_rub_13 rfl rfl ?_
  refine V2_getr (a := 66) d_R_rub_14 fl_R_7 (by decide) rfl (by decide) rfl ?_
  refine V2_bipush (v := 7) d_R_rub_17 rfl ?_
  refine V2_iaload (v := F 66 7) d_R_rub_19 (by decide) rfl (xixA (n := 7) rfl (by decide) (by decide)) rfl ?_
  refine V2_topi (fun v3 ev3 => ?_)
  refine V2_callV [.int v1, .int v2, .int v3] d_R_rub_20 rfl rfl lk_R_136 mo_R_rubTold (by decide) rfl rfl rfl (Nat.le_of_ble_eq_true rfl) (Nat.le_of_ble_eq_true rfl) ?_
  refine c_R_rubTold (by assumption) (fun q4 q5 => ?_)
  refine V2_topi (fun v6 ev6 => ?_)
  refine V2_ireturn d_R_rub_23 rfl ?_
  refine xQi (hQ _ _) ?_ rfl
  subst ev6 ev3 ev2 ev1
  rfl
set_option maxHeartbeats 1000000 in
theorem c_R_goes {L : Nat} {xs : Nat → Int32} {d : Nat} {Q : Option Value → xF → Prop} {F : xF} {P : Nat} {gas : Int32} (hT0 : okT 0 (F 66)) (hT1 : okT 1 (F 66)) (hP : F 66 11 = nI P) (hP6 : P ≤ 6) (hQ : ∀ q71 q72 : Nat → Int32, Q (some (.int (xb (gripM (F 66) (F 65 5) P < gas)))) (xrw (xrw (xrw F 71 q71) 72 q72) 66 (goS (F 66) gas (F 65 5) P))) : V2 L xs (d + 4) m_R_goes 0 (xEntry [.ref 65, .int gas] 5) [] F Q := by
  refine V2.to (l' := [some (.ref 65), some (.int gas), none, none, none]) ?_ rfl rfl rfl rfl
  refine V2_aload_n (i := 0) d_R_goes_0 rfl rfl ?_
  refine V2_callV [] d_R_goes_1 rfl rfl lk_R_139 mo_R_grip (by decide) rfl rfl rfl (Nat.le_of_ble_eq_true rfl) (Nat.le_of_ble_eq_true rfl) ?_
  refine c_R_grip hT0 hP hP6 (fun q1 q2 => ?_)
  refine V2_topi (x := gripM (F 66) (F 65 5) P) (fun v3 ev3 => ?_)
  refine V2_istore_n (i := 2) (l' := [some (.ref 65), some (.int gas), some (.int v3), none, none]) d_R_goes_4 rfl (xst_i (Nat.le_of_ble_eq_true rfl) rfl rfl) ?_
  refine V2_aload_n (i := 0) d_R_goes_5 rfl rfl ?_
  refine V2_callV [] d_R_goes_6 rfl rfl lk_R_142 mo_R_pushes (by decide) rfl rfl rfl (Nat.le_of_ble_eq_true rfl) (Nat.le_of_ble_eq_true rfl) ?_
  refine c_R_pushes hP hP6 ?_
  refine V2_topi (x := pushSum (F 66) (F 65 5) P) (fun v4 ev4 => ?_)
  refine V2_aload_n (i := 0) d_R_goes_9 rfl rfl ?_
  refine V2_callV [] d_R_goes_10 rfl rfl lk_R_145 mo_R_rub (by decide) rfl rfl rfl (Nat.le_of_ble_eq_true rfl) (Nat.le_of_ble_eq_true rfl) ?_
  refine c_R_rub hT1 (fun q5 q6 => ?_)
  refine V2_topi (x := rubM (F 66)) (fun v7 ev7 => ?_)
  refine V2_isub d_R_goes_13 ?_
  refine V2_topi (fun v8 ev8 => ?_)
  refine V2_istore_n (i := 3) (l' := [some (.ref 65), some (.int gas), some (.int v3), some (.int v8), none]) d_R_goes_14 rfl (xst_i (Nat.le_of_ble_eq_true rfl) rfl rfl) ?_
  refine V2_iload_n (i := 1) d_R_goes_15 rfl rfl ?_
  refine V2_iload_n (i := 2) d_R_goes_16 rfl rfl ?_
  refine V2_icmp_le (tgt := 24) d_R_goes_17 rfl (fun c9 => ?_) (fun c9 => ?_)
  · refine V2_iconst (v := 0) d_R_goes_24 rfl ?_
    refine V2_istore (i := 4) (l' := [some (.ref 65), some (.int gas), some (.int v3), some (.int v8), some (.int (0 : Int32))]) d_R_goes_25 (xst_i (Nat.le_of_ble_eq_true rfl) rfl rfl) ?_
    refine V2_iload (i := 4) d_R_goes_27 rfl ?_
    refine V2_if_eq (tgt := 94) d_R_goes_29 rfl (fun _ => ?_) (fun c => (by first | exact absurd c (by decide) | exact absurd (by decide) c))
    refine V2_aload_n (i := 0) d_R_goes_94 rfl rfl ?_
    refine V2_getr (a := 66) d_R_goes_95 fl_R_7 (by decide) rfl (by decide) rfl ?_
    refine V2_iconst (v := 2) d_R_goes_98 rfl ?_
    refine V2_aload_n (i := 0) d_R_goes_99 rfl rfl ?_
    refine V2_getr (a := 66) d_R_goes_100 fl_R_7 (by decide) rfl (by decide) rfl ?_
    refine V2_iconst (v := 2) d_R_goes_103 rfl ?_
    refine V2_iaload (v := F 66 2) d_R_goes_104 (by decide) rfl (xixA (n := 2) rfl (by decide) (by decide)) rfl ?_
    refine V2_topi (fun v10 ev10 => ?_)
    refine V2_iload_n (i := 3) d_R_goes_105 rfl rfl ?_
    refine V2_iadd d_R_goes_106 ?_
    refine V2_topi (fun v11 ev11 => ?_)
    refine V2_iload (i := 4) d_R_goes_107 rfl ?_
    refine V2_if_eq (tgt := 116) d_R_goes_109 rfl (fun _ => ?_) (fun c => (by first | exact absurd c (by decide) | exact absurd (by decide) c))
    refine V2_iload_n (i := 1) d_R_goes_116 rfl rfl ?_
    refine V2_iadd d_R_goes_117 ?_
    refine V2_topi (fun v12 ev12 => ?_)
    refine V2_iconst (v := 0) d_R_goes_118 rfl ?_
    refine V2_bipush (v := 99) d_R_goes_119 rfl ?_
    refine V2_callS [.int v12, .int (0 : Int32), .int (99 : Int32)] d_R_goes_121 rfl rfl lk_R_127 mo_R_held (Nat.le_of_ble_eq_true rfl) (Nat.le_of_ble_eq_true rfl) ?_
    refine c_R_held ?_
    refine V2_topi (fun v13 ev13 => ?_)
    refine V2_iastore (j := 2) d_R_goes_124 (by decide) rfl (xixA (n := 2) rfl (by decide) (by decide)) rfl ?_
    refine V2_aload_n (i := 0) d_R_goes_125 rfl rfl ?_
    refine V2_getr (a := 66) d_R_goes_126 fl_R_7 (by decide) rfl (by decide) rfl ?_
    refine V2_iconst (v := 3) d_R_goes_129 rfl ?_
    refine V2_iconst (v := 1) d_R_goes_130 rfl ?_
    refine V2_aload_n (i := 0) d_R_goes_131 rfl rfl ?_
    refine V2_getr (a := 66) d_R_goes_132 fl_R_7 (by decide) rfl (by decide) rfl ?_
    refine V2_iconst (v := 3) d_R_goes_135 rfl ?_
    refine V2_iaload (v := F 66 3) d_R_goes_136 (by decide) rfl (xixA (n := 3) rfl (by decide) (by decide)) rfl ?_
    refine V2_topi (fun v14 ev14 => ?_)
    refine V2_isub d_R_goes_137 ?_
    refine V2_topi (fun v15 ev15 => ?_)
    refine V2_iastore (j := 3) d_R_goes_138 (by decide) rfl (xixA (n := 3) rfl (by decide) (by decide)) rfl ?_
    refine V2_aload_n (i := 0) d_R_goes_139 rfl rfl ?_
    refine V2_getr (a := 66) d_R_goes_140 fl_R_7 (by decide) rfl (by decide) rfl ?_
    refine V2_bipush (v := 7) d_R_goes_143 rfl ?_
    refine V2_dup2 d_R_goes_145 rfl rfl ?_
    refine V2_iaload (v := F 66 7) d_R_goes_146 (by decide) rfl (xixA (n := 7) rfl (by decide) (by decide)) rfl ?_
    refine V2_topi (fun v16 ev16 => ?_)
    refine V2_iconst (v := 1) d_R_goes_147 rfl ?_
    refine V2_iadd d_R_goes_148 ?_
    refine V2_topi (fun v17 ev17 => ?_)
    refine V2_iastore (j := 7) d_R_goes_149 (by decide) rfl (xixA (n := 7) rfl (by decide) (by decide)) rfl ?_
    refine V2_aload_n (i := 0) d_R_goes_150 rfl rfl ?_
    refine V2_getr (a := 66) d_R_goes_151 fl_R_7 (by decide) rfl (by decide) rfl ?_
    refine V2_iconst (v := 2) d_R_goes_154 rfl ?_
    refine V2_iaload (v := v13) d_R_goes_155 (by decide) rfl (xixA (n := 2) rfl (by decide) (by decide)) rfl ?_
    refine V2_aload_n (i := 0) d_R_goes_156 rfl rfl ?_
    refine V2_getr (a := 66) d_R_goes_157 fl_R_7 (by decide) rfl (by decide) rfl ?_
    refine V2_iconst (v := 0) d_R_goes_160 rfl ?_
    refine V2_iaload (v := F 66 0) d_R_goes_161 (by decide) rfl (xixA (n := 0) rfl (by decide) (by decide)) rfl ?_
    refine V2_topi (fun v18 ev18 => ?_)
    refine V2_icmp_lt (tgt := 195) d_R_goes_162 rfl (fun c19 => ?_) (fun c19 => ?_)
    · refine V2_iload (i := 4) d_R_goes_195 rfl ?_
      refine V2_zreturn d_R_goes_197 rfl (by decide) ?_
      have hs : ¬ gripM (F 66) (F 65 5) P < gas := by have h9 := c9; subst ev18 ev17 ev16 ev15 ev14 ev13 ev12 ev11 ev10 ev8 ev7 ev4 ev3; exact Int32.not_lt.mpr h9
      refine xQi (hQ q5 q6) ?_ ?_
      · exact (xb_0 hs).symm
      · have ho : ¬ (gDepth (F 66) gas (gripM (F 66) (F 65 5) P) ≤ gHeight (F 66) gas (gripM (F 66) (F 65 5) P) (pushSum (F 66) (F 65 5) P - rubM (F 66))) := by
          have h9 := c19
          subst ev18 ev17 ev16 ev15 ev14 ev13 ev12 ev11 ev10 ev8 ev7 ev4 ev3
          simp only [gDepth, gHeight, hs, if_true, if_false]
          exact Int32.not_le.mpr h9
        subst ev18 ev17 ev16 ev15 ev14 ev13 ev12 ev11 ev10 ev8 ev7 ev4 ev3
        funext a b
        by_cases h66 : a = 66
        · subst h66
          rcases b with _ | _ | _ | _ | _ | _ | _ | _ | b <;> simp [xp, xrw, goS, goM, ho] <;> simp [gDepth, gIce, gSand, gHeight, hs]
        · by_cases h71 : a = 71 <;> by_cases h72 : a = 72 <;> simp [xp, xrw, h66, h71, h72]
    · refine V2_aload_n (i := 0) d_R_goes_165 rfl rfl ?_
      refine V2_getr (a := 66) d_R_goes_166 fl_R_7 (by decide) rfl (by decide) rfl ?_
      refine V2_iconst (v := 5) d_R_goes_169 rfl ?_
      refine V2_iconst (v := 1) d_R_goes_170 rfl ?_
      refine V2_iastore (j := 5) d_R_goes_171 (by decide) rfl (xixA (n := 5) rfl (by decide) (by decide)) rfl ?_
      refine V2_aload_n (i := 0) d_R_goes_172 rfl rfl ?_
      refine V2_getr (a := 66) d_R_goes_173 fl_R_7 (by decide) rfl (by decide) rfl ?_
      refine V2_bipush (v := 6) d_R_goes_176 rfl ?_
      refine V2_aload_n (i := 0) d_R_goes_178 rfl rfl ?_
      refine V2_getr (a := 66) d_R_goes_179 fl_R_7 (by decide) rfl (by decide) rfl ?_
      refine V2_bipush (v := 6) d_R_goes_182 rfl ?_
      refine V2_iaload (v := F 66 6) d_R_goes_184 (by decide) rfl (xixA (n := 6) rfl (by decide) (by decide)) rfl ?_
      refine V2_topi (fun v20 ev20 => ?_)
      refine V2_iconst (v := 1) d_R_goes_185 rfl ?_
      refine V2_iadd d_R_goes_186 ?_
      refine V2_topi (fun v21 ev21 => ?_)
      refine V2_iconst (v := 0) d_R_goes_187 rfl ?_
      refine V2_sipush (v := 9999) d_R_goes_188 rfl ?_
      refine V2_callS [.int v21, .int (0 : Int32), .int (9999 : Int32)] d_R_goes_191 rfl rfl lk_R_127 mo_R_held (Nat.le_of_ble_eq_true rfl) (Nat.le_of_ble_eq_true rfl) ?_
      refine c_R_held ?_
      refine V2_topi (fun v22 ev22 => ?_)
      refine V2_iastore (j := 6) d_R_goes_194 (by decide) rfl (xixA (n := 6) rfl (by decide) (by decide)) rfl ?_
      refine V2_iload (i := 4) d_R_goes_195 rfl ?_
      refine V2_zreturn d_R_goes_197 rfl (by decide) ?_
      have hs : ¬ gripM (F 66) (F 65 5) P < gas := by have h9 := c9; subst ev22 ev21 ev20 ev18 ev17 ev16 ev15 ev14 ev13 ev12 ev11 ev10 ev8 ev7 ev4 ev3; exact Int32.not_lt.mpr h9
      refine xQi (hQ q5 q6) ?_ ?_
      · exact (xb_0 hs).symm
      · have ho : (gDepth (F 66) gas (gripM (F 66) (F 65 5) P) ≤ gHeight (F 66) gas (gripM (F 66) (F 65 5) P) (pushSum (F 66) (F 65 5) P - rubM (F 66))) := by
          have h9 := c19
          subst ev22 ev21 ev20 ev18 ev17 ev16 ev15 ev14 ev13 ev12 ev11 ev10 ev8 ev7 ev4 ev3
          simp only [gDepth, gHeight, hs, if_true, if_false]
          exact Int32.not_lt.mp h9
        subst ev22 ev21 ev20 ev18 ev17 ev16 ev15 ev14 ev13 ev12 ev11 ev10 ev8 ev7 ev4 ev3
        funext a b
        by_cases h66 : a = 66
        · subst h66
          rcases b with _ | _ | _ | _ | _ | _ | _ | _ | b <;> simp [xp, xrw, goS, goM, ho] <;> simp [gDepth, gIce, gSand, gHeight, hs]
        · by_cases h71 : a = 71 <;> by_cases h72 : a = 72 <;> simp [xp, xrw, h66, h71, h72]
  · refine V2_iconst (v := 1) d_R_goes_20 rfl ?_
    refine V2_goto (tgt := 25) d_R_goes_21 rfl ?_
    refine V2_istore (i := 4) (l' := [some (.ref 65), some (.int gas), some (.int v3), some (.int v8), some (.int (1 : Int32))]) d_R_goes_25 (xst_i (Nat.le_of_ble_eq_true rfl) rfl rfl) ?_
    refine V2_iload (i := 4) d_R_goes_27 rfl ?_
    refine V2_if_eq (tgt := 94) d_R_goes_29 rfl (fun c => (by first | exact absurd c (by decide) | exact absurd (by decide) c)) (fun _ => ?_)
    refine V2_aload_n (i := 0) d_R_goes_32 rfl rfl ?_
    refine V2_getr (a := 66) d_R_goes_33 fl_R_7 (by decide) rfl (by decide) rfl ?_
    refine V2_iconst (v := 1) d_R_goes_36 rfl ?_
    refine V2_aload_n (i := 0) d_R_goes_37 rfl rfl ?_
    refine V2_getr (a := 66) d_R_goes_38 fl_R_7 (by decide) rfl (by decide) rfl ?_
    refine V2_iconst (v := 1) d_R_goes_41 rfl ?_
    refine V2_iaload (v := F 66 1) d_R_goes_42 (by decide) rfl (xixA (n := 1) rfl (by decide) (by decide)) rfl ?_
    refine V2_topi (fun v23 ev23 => ?_)
    refine V2_iload_n (i := 1) d_R_goes_43 rfl rfl ?_
    refine V2_iadd d_R_goes_44 ?_
    refine V2_topi (fun v24 ev24 => ?_)
    refine V2_iload_n (i := 2) d_R_goes_45 rfl rfl ?_
    refine V2_isub d_R_goes_46 ?_
    refine V2_topi (fun v25 ev25 => ?_)
    refine V2_iconst (v := 0) d_R_goes_47 rfl ?_
    refine V2_bipush (v := 99) d_R_goes_48 rfl ?_
    refine V2_callS [.int v25, .int (0 : Int32), .int (99 : Int32)] d_R_goes_50 rfl rfl lk_R_127 mo_R_held (Nat.le_of_ble_eq_true rfl) (Nat.le_of_ble_eq_true rfl) ?_
    refine c_R_held ?_
    refine V2_topi (fun v26 ev26 => ?_)
    refine V2_iastore (j := 1) d_R_goes_53 (by decide) rfl (xixA (n := 1) rfl (by decide) (by decide)) rfl ?_
    refine V2_aload_n (i := 0) d_R_goes_54 rfl rfl ?_
    refine V2_getr (a := 66) d_R_goes_55 fl_R_7 (by decide) rfl (by decide) rfl ?_
    refine V2_iconst (v := 0) d_R_goes_58 rfl ?_
    refine V2_aload_n (i := 0) d_R_goes_59 rfl rfl ?_
    refine V2_getr (a := 66) d_R_goes_60 fl_R_7 (by decide) rfl (by decide) rfl ?_
    refine V2_iconst (v := 0) d_R_goes_63 rfl ?_
    refine V2_iaload (v := F 66 0) d_R_goes_64 (by decide) rfl (xixA (n := 0) rfl (by decide) (by decide)) rfl ?_
    refine V2_topi (fun v27 ev27 => ?_)
    refine V2_iconst (v := 1) d_R_goes_65 rfl ?_
    refine V2_iadd d_R_goes_66 ?_
    refine V2_topi (fun v28 ev28 => ?_)
    refine V2_iconst (v := 1) d_R_goes_67 rfl ?_
    refine V2_bipush (v := 60) d_R_goes_68 rfl ?_
    refine V2_callS [.int v28, .int (1 : Int32), .int (60 : Int32)] d_R_goes_70 rfl rfl lk_R_127 mo_R_held (Nat.le_of_ble_eq_true rfl) (Nat.le_of_ble_eq_true rfl) ?_
    refine c_R_held ?_
    refine V2_topi (fun v29 ev29 => ?_)
    refine V2_iastore (j := 0) d_R_goes_73 (by decide) rfl (xixA (n := 0) rfl (by decide) (by decide)) rfl ?_
    refine V2_aload_n (i := 0) d_R_goes_74 rfl rfl ?_
    refine V2_getr (a := 66) d_R_goes_75 fl_R_7 (by decide) rfl (by decide) rfl ?_
    refine V2_iconst (v := 4) d_R_goes_78 rfl ?_
    refine V2_aload_n (i := 0) d_R_goes_79 rfl rfl ?_
    refine V2_getr (a := 66) d_R_goes_80 fl_R_7 (by decide) rfl (by decide) rfl ?_
    refine V2_iconst (v := 4) d_R_goes_83 rfl ?_
    refine V2_iaload (v := F 66 4) d_R_goes_84 (by decide) rfl (xixA (n := 4) rfl (by decide) (by decide)) rfl ?_
    refine V2_topi (fun v30 ev30 => ?_)
    refine V2_iconst (v := 1) d_R_goes_85 rfl ?_
    refine V2_isub d_R_goes_86 ?_
    refine V2_topi (fun v31 ev31 => ?_)
    refine V2_iconst (v := 0) d_R_goes_87 rfl ?_
    refine V2_bipush (v := 99) d_R_goes_88 rfl ?_
    refine V2_callS [.int v31, .int (0 : Int32), .int (99 : Int32)] d_R_goes_90 rfl rfl lk_R_127 mo_R_held (Nat.le_of_ble_eq_true rfl) (Nat.le_of_ble_eq_true rfl) ?_
    refine c_R_held ?_
    refine V2_topi (fun v32 ev32 => ?_)
    refine V2_iastore (j := 4) d_R_goes_93 (by decide) rfl (xixA (n := 4) rfl (by decide) (by decide)) rfl ?_
    refine V2_aload_n (i := 0) d_R_goes_94 rfl rfl ?_
    refine V2_getr (a := 66) d_R_goes_95 fl_R_7 (by decide) rfl (by decide) rfl ?_
    refine V2_iconst (v := 2) d_R_goes_98 rfl ?_
    refine V2_aload_n (i := 0) d_R_goes_99 rfl rfl ?_
    refine V2_getr (a := 66) d_R_goes_100 fl_R_7 (by decide) rfl (by decide) rfl ?_
    refine V2_iconst (v := 2) d_R_goes_103 rfl ?_
    refine V2_iaload (v := F 66 2) d_R_goes_104 (by decide) rfl (xixA (n := 2) rfl (by decide) (by decide)) rfl ?_
    refine V2_topi (fun v33 ev33 => ?_)
    refine V2_iload_n (i := 3) d_R_goes_105 rfl rfl ?_
    refine V2_iadd d_R_goes_106 ?_
    refine V2_topi (fun v34 ev34 => ?_)
    refine V2_iload (i := 4) d_R_goes_107 rfl ?_
    refine V2_if_eq (tgt := 116) d_R_goes_109 rfl (fun c => (by first | exact absurd c (by decide) | exact absurd (by decide) c)) (fun _ => ?_)
    refine V2_iconst (v := 0) d_R_goes_112 rfl ?_
    refine V2_goto (tgt := 117) d_R_goes_113 rfl ?_
    refine V2_iadd d_R_goes_117 ?_
    refine V2_topi (fun v35 ev35 => ?_)
    refine V2_iconst (v := 0) d_R_goes_118 rfl ?_
    refine V2_bipush (v := 99) d_R_goes_119 rfl ?_
    refine V2_callS [.int v35, .int (0 : Int32), .int (99 : Int32)] d_R_goes_121 rfl rfl lk_R_127 mo_R_held (Nat.le_of_ble_eq_true rfl) (Nat.le_of_ble_eq_true rfl) ?_
    refine c_R_held ?_
    refine V2_topi (fun v36 ev36 => ?_)
    refine V2_iastore (j := 2) d_R_goes_124 (by decide) rfl (xixA (n := 2) rfl (by decide) (by decide)) rfl ?_
    refine V2_aload_n (i := 0) d_R_goes_125 rfl rfl ?_
    refine V2_getr (a := 66) d_R_goes_126 fl_R_7 (by decide) rfl (by decide) rfl ?_
    refine V2_iconst (v := 3) d_R_goes_129 rfl ?_
    refine V2_iconst (v := 1) d_R_goes_130 rfl ?_
    refine V2_aload_n (i := 0) d_R_goes_131 rfl rfl ?_
    refine V2_getr (a := 66) d_R_goes_132 fl_R_7 (by decide) rfl (by decide) rfl ?_
    refine V2_iconst (v := 3) d_R_goes_135 rfl ?_
    refine V2_iaload (v := F 66 3) d_R_goes_136 (by decide) rfl (xixA (n := 3) rfl (by decide) (by decide)) rfl ?_
    refine V2_topi (fun v37 ev37 => ?_)
    refine V2_isub d_R_goes_137 ?_
    refine V2_topi (fun v38 ev38 => ?_)
    refine V2_iastore (j := 3) d_R_goes_138 (by decide) rfl (xixA (n := 3) rfl (by decide) (by decide)) rfl ?_
    refine V2_aload_n (i := 0) d_R_goes_139 rfl rfl ?_
    refine V2_getr (a := 66) d_R_goes_140 fl_R_7 (by decide) rfl (by decide) rfl ?_
    refine V2_bipush (v := 7) d_R_goes_143 rfl ?_
    refine V2_dup2 d_R_goes_145 rfl rfl ?_
    refine V2_iaload (v := F 66 7) d_R_goes_146 (by decide) rfl (xixA (n := 7) rfl (by decide) (by decide)) rfl ?_
    refine V2_topi (fun v39 ev39 => ?_)
    refine V2_iconst (v := 1) d_R_goes_147 rfl ?_
    refine V2_iadd d_R_goes_148 ?_
    refine V2_topi (fun v40 ev40 => ?_)
    refine V2_iastore (j := 7) d_R_goes_149 (by decide) rfl (xixA (n := 7) rfl (by decide) (by decide)) rfl ?_
    refine V2_aload_n (i := 0) d_R_goes_150 rfl rfl ?_
    refine V2_getr (a := 66) d_R_goes_151 fl_R_7 (by decide) rfl (by decide) rfl ?_
    refine V2_iconst (v := 2) d_R_goes_154 rfl ?_
    refine V2_iaload (v := v36) d_R_goes_155 (by decide) rfl (xixA (n := 2) rfl (by decide) (by decide)) rfl ?_
    refine V2_aload_n (i := 0) d_R_goes_156 rfl rfl ?_
    refine V2_getr (a := 66) d_R_goes_157 fl_R_7 (by decide) rfl (by decide) rfl ?_
    refine V2_iconst (v := 0) d_R_goes_160 rfl ?_
    refine V2_iaload (v := v29) d_R_goes_161 (by decide) rfl (xixA (n := 0) rfl (by decide) (by decide)) rfl ?_
    refine V2_icmp_lt (tgt := 195) d_R_goes_162 rfl (fun c41 => ?_) (fun c41 => ?_)
    · refine V2_iload (i := 4) d_R_goes_195 rfl ?_
      refine V2_zreturn d_R_goes_197 rfl (by decide) ?_
      have hs : gripM (F 66) (F 65 5) P < gas := by have h9 := c9; subst ev40 ev39 ev38 ev37 ev36 ev35 ev34 ev33 ev32 ev31 ev30 ev29 ev28 ev27 ev26 ev25 ev24 ev23 ev8 ev7 ev4 ev3; exact Int32.not_le.mp h9
      refine xQi (hQ q5 q6) ?_ ?_
      · exact (xb_1 hs).symm
      · have ho : ¬ (gDepth (F 66) gas (gripM (F 66) (F 65 5) P) ≤ gHeight (F 66) gas (gripM (F 66) (F 65 5) P) (pushSum (F 66) (F 65 5) P - rubM (F 66))) := by
          have h9 := c41
          subst ev40 ev39 ev38 ev37 ev36 ev35 ev34 ev33 ev32 ev31 ev30 ev29 ev28 ev27 ev26 ev25 ev24 ev23 ev8 ev7 ev4 ev3
          simp only [gDepth, gHeight, hs, if_true, if_false]
          exact Int32.not_le.mpr h9
        subst ev40 ev39 ev38 ev37 ev36 ev35 ev34 ev33 ev32 ev31 ev30 ev29 ev28 ev27 ev26 ev25 ev24 ev23 ev8 ev7 ev4 ev3
        funext a b
        by_cases h66 : a = 66
        · subst h66
          rcases b with _ | _ | _ | _ | _ | _ | _ | _ | b <;> simp [xp, xrw, goS, goM, ho] <;> simp [gDepth, gIce, gSand, gHeight, hs]
        · by_cases h71 : a = 71 <;> by_cases h72 : a = 72 <;> simp [xp, xrw, h66, h71, h72]
    · refine V2_aload_n (i := 0) d_R_goes_165 rfl rfl ?_
      refine V2_getr (a := 66) d_R_goes_166 fl_R_7 (by decide) rfl (by decide) rfl ?_
      refine V2_iconst (v := 5) d_R_goes_169 rfl ?_
      refine V2_iconst (v := 1) d_R_goes_170 rfl ?_
      refine V2_iastore (j := 5) d_R_goes_171 (by decide) rfl (xixA (n := 5) rfl (by decide) (by decide)) rfl ?_
      refine V2_aload_n (i := 0) d_R_goes_172 rfl rfl ?_
      refine V2_getr (a := 66) d_R_goes_173 fl_R_7 (by decide) rfl (by decide) rfl ?_
      refine V2_bipush (v := 6) d_R_goes_176 rfl ?_
      refine V2_aload_n (i := 0) d_R_goes_178 rfl rfl ?_
      refine V2_getr (a := 66) d_R_goes_179 fl_R_7 (by decide) rfl (by decide) rfl ?_
      refine V2_bipush (v := 6) d_R_goes_182 rfl ?_
      refine V2_iaload (v := F 66 6) d_R_goes_184 (by decide) rfl (xixA (n := 6) rfl (by decide) (by decide)) rfl ?_
      refine V2_topi (fun v42 ev42 => ?_)
      refine V2_iconst (v := 1) d_R_goes_185 rfl ?_
      refine V2_iadd d_R_goes_186 ?_
      refine V2_topi (fun v43 ev43 => ?_)
      refine V2_iconst (v := 0) d_R_goes_187 rfl ?_
      refine V2_sipush (v := 9999) d_R_goes_188 rfl ?_
      refine V2_callS [.int v43, .int (0 : Int32), .int (9999 : Int32)] d_R_goes_191 rfl rfl lk_R_127 mo_R_held (Nat.le_of_ble_eq_true rfl) (Nat.le_of_ble_eq_true rfl) ?_
      refine c_R_held ?_
      refine V2_topi (fun v44 ev44 => ?_)
      refine V2_iastore (j := 6) d_R_goes_194 (by decide) rfl (xixA (n := 6) rfl (by decide) (by decide)) rfl ?_
      refine V2_iload (i := 4) d_R_goes_195 rfl ?_
      refine V2_zreturn d_R_goes_197 rfl (by decide) ?_
      have hs : gripM (F 66) (F 65 5) P < gas := by have h9 := c9; subst ev44 ev43 ev42 ev40 ev39 ev38 ev37 ev36 ev35 ev34 ev33 ev32 ev31 ev30 ev29 ev28 ev27 ev26 ev25 ev24 ev23 ev8 ev7 ev4 ev3; exact Int32.not_le.mp h9
      refine xQi (hQ q5 q6) ?_ ?_
      · exact (xb_1 hs).symm
      · have ho : (gDepth (F 66) gas (gripM (F 66) (F 65 5) P) ≤ gHeight (F 66) gas (gripM (F 66) (F 65 5) P) (pushSum (F 66) (F 65 5) P - rubM (F 66))) := by
          have h9 := c41
          subst ev44 ev43 ev42 ev40 ev39 ev38 ev37 ev36 ev35 ev34 ev33 ev32 ev31 ev30 ev29 ev28 ev27 ev26 ev25 ev24 ev23 ev8 ev7 ev4 ev3
          simp only [gDepth, gHeight, hs, if_true, if_false]
          exact Int32.not_lt.mp h9
        subst ev44 ev43 ev42 ev40 ev39 ev38 ev37 ev36 ev35 ev34 ev33 ev32 ev31 ev30 ev29 ev28 ev27 ev26 ev25 ev24 ev23 ev8 ev7 ev4 ev3
        funext a b
        by_cases h66 : a = 66
        · subst h66
          rcases b with _ | _ | _ | _ | _ | _ | _ | _ | b <;> simp [xp, xrw, goS, goM, ho] <;> simp [gDepth, gIce, gSand, gHeight, hs]
        · by_cases h71 : a = 71 <;> by_cases h72 : a = 72 <;> simp [xp, xrw, h66, h71, h72]
