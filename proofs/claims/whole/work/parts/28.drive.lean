/-! the class: grip, push, rub and a swing of any car, tied to a row of the state -/

/-- what never changes of a law, and how long its row is -/
def lawId (r : Nat → Int32) (u : Nat) : Prop := r 0 = nI u ∧ ∃ n : Nat, n ≤ 60 ∧ r 3 = nI n
def relL (F : xF) (l u : Nat) (S : Nat → Int32) : Prop := lawId (F l) u ∧ F l 4 = xb (0 < S (24 + 125 * u)) ∧ (0 < S (24 + 125 * u) → F l 3 = S (24 + 125 * u) ∧ ∀ k, k < (S (24 + 125 * u)).toNatClampNeg → F (l + 1) k = encT (whS u S k) (vlS u S k))
/-- a car's row says what the row S says -/
def relCr (r : Nat → Int32) (S : Nat → Int32) : Prop := r 0 = S 0 ∧ r 1 = S 1 ∧ r 2 = S 2 ∧ r 3 = S 3 ∧ r 4 = S 4 ∧ r 5 = S 7 ∧ r 6 = S 6 ∧ r 7 = S 5
def relP (F : xF) (S : Nat → Int32) (P : Nat) : Prop := F 3 2 = nI P ∧ F 3 2 = nI P ∧ P ≤ 6 ∧ ∀ p, p < P → F 5 p = S (12 + 2 * p) ∧ F 7 p = S (12 + 2 * p + 1)
/-- the car's numbers are in their ranges -/
def invC (S : Nat → Int32) : Prop := (1 ≤ (S 0).toInt ∧ (S 0).toInt ≤ 60) ∧ (0 ≤ (S 1).toInt ∧ (S 1).toInt ≤ 99) ∧ (0 ≤ (S 2).toInt ∧ (S 2).toInt ≤ 99) ∧ (S 3 = 0 ∨ S 3 = 1) ∧ (0 ≤ (S 4).toInt ∧ (S 4).toInt ≤ 99) ∧ (S 5 = 0 ∨ S 5 = 1) ∧ (0 ≤ (S 6).toInt ∧ (S 6).toInt ≤ 9999)
theorem held99 {v : Int32} : (if (0 : Int32) < (if v < 99 then v else 99) then (if v < 99 then v else 99) else 0) = heldS v 0 99 := by
  have e0 : (0 : Int32).toInt = 0 := by decide
  have e9 : (99 : Int32).toInt = 99 := by decide
  unfold heldS
  by_cases h1 : v < 99
  · rw [if_pos h1]
    have h3 : ¬ (99 : Int32) < v := fun h => by rw [Int32.lt_iff_toInt_lt] at h h1; omega
    rw [if_neg h3, xmx0]
  · rw [if_neg h1, if_pos (show (0 : Int32) < 99 by decide)]
    have h3 : ¬ v < 0 := fun h => by rw [Int32.lt_iff_toInt_lt] at h h1; omega
    rw [if_neg h3]
    by_cases h4 : (99 : Int32) < v
    · rw [if_pos h4]
    · rw [if_neg h4]
      refine Int32.toInt_inj.mp ?_
      rw [Int32.lt_iff_toInt_lt] at h4 h1
      omega
theorem relP_weight {F : xF} {S : Nat → Int32} {P : Nat} (h : relP F S P) (set : Int32) : sumTo (fun p => @ite _ (inSet set p) (Classical.propDecidable _) (if F 5 p = 6 then F 7 p else 0) 0) P = weightSum S set P := by
  refine sumTo_congr fun p hp => ?_
  obtain ⟨h1, h2⟩ := h.2.2.2 p hp
  have e : (if F 5 p = 6 then F 7 p else 0) = weightS S p := by unfold weightS; rw [h1, h2]
  exact congrArg (fun z => @ite _ (inSet set p) (Classical.propDecidable _) z 0) e
theorem relP_push {F : xF} {S : Nat → Int32} {P : Nat} (h : relP F S P) (set : Int32) {side height swing : Int32} (h3 : side = S 3) (h2 : height = S 2) (h7 : swing = S 7) : sumTo (fun p => @ite _ (inSet set p) (Classical.propDecidable _) (pushK (F 5 p) (F 7 p) side height swing) 0) P = pushSum S set P := by
  refine sumTo_congr fun p hp => ?_
  obtain ⟨g1, g2⟩ := h.2.2.2 p hp
  have e : pushK (F 5 p) (F 7 p) side height swing = pushS S p := by unfold pushS; rw [g1, g2, h3, h2, h7]
  exact congrArg (fun z => @ite _ (inSet set p) (Classical.propDecidable _) z 0) e
theorem relL_text {F : xF} {l u : Nat} {S : Nat → Int32} (hR : relL F l u S) (hT : okT u S) (h0 : 0 < S (24 + 125 * u)) : ∃ n : Nat, F l 3 = nI n ∧ okText u n (whS u S) (vlS u S) ∧ (S (24 + 125 * u)).toNatClampNeg = n ∧ ∀ k, k < n → F (l + 1) k = encT (whS u S k) (vlS u S k) := by
  obtain ⟨n, h1, h2, h3⟩ := okT_pos hT h0
  obtain ⟨g1, g2⟩ := hR.2.2 h0
  rw [h3] at g2
  exact ⟨n, g1.trans h1, h2, h3, g2⟩
theorem c_Law_byText8 {L : Nat} {xs : Nat → Int32} {d : Nat} {Q : Option Value → xF → Prop} {F : xF} {n : Nat} {a b c : Int32} {wh vl : Nat → Int32} (hn : F 8 3 = nI n) (hok : okText 0 n wh vl) (hc : ∀ k, k < n → F 9 k = encT (wh k) (vl k)) (hQ : ∀ q : Nat → Int32, Q (some (.int (valT (nmS a b c) n wh vl))) (xrw F 10 q)) : V2 L xs (d + 2) m_Law_byText 0 (xEntry [.ref 8, .int a, .int b, .int c] 7) [] F Q := by
  refine V2.to (l' := [some (.ref 8), some (.int a), some (.int b), some (.int c), none, none, none]) ?_ rfl rfl rfl rfl
  refine V2_iconst (v := 0) d_Law_byText_0 rfl ?_
  refine V2_istore (i := 4) (l' := [some (.ref 8), some (.int a), some (.int b), some (.int c), some (.int (0 : Int32)), none, none]) d_Law_byText_1 (xst_i (Nat.le_of_ble_eq_true rfl) rfl rfl) ?_
  refine V2_iconst (v := 0) d_Law_byText_3 rfl ?_
  refine V2_istore (i := 5) (l' := [some (.ref 8), some (.int a), some (.int b), some (.int c), some (.int (0 : Int32)), some (.int (0 : Int32)), none]) d_Law_byText_4 (xst_i (Nat.le_of_ble_eq_true rfl) rfl rfl) ?_
  exact V2.to (c_Law_byText8_loop hn hok hc (xQi (hQ _) (runT_val hok _) rfl) (n + 1) 0 (Nat.zero_le _) (by omega)) rfl rfl rfl (xrw_self F 10).symm
theorem c_Law_gives8 {L : Nat} {xs : Nat → Int32} {d : Nat} {Q : Option Value → xF → Prop} {F : xF} {a b c : Int32} {S : Nat → Int32} (hR : relL F 8 0 S) (hT : okT 0 S) (hQ : ∀ q : Nat → Int32, Q (some (.int (gripS S a b c))) (xrw F 10 q)) : V2 L xs (d + 3) m_Law_gives 0 (xEntry [.ref 8, .int a, .int b, .int c] 4) [] F Q := by
  refine V2.to (l' := [some (.ref 8), some (.int a), some (.int b), some (.int c)]) ?_ rfl rfl rfl rfl
  refine V2_iconst (v := 0) d_Law_gives_0 rfl ?_
  refine V2_bipush (v := 99) d_Law_gives_1 rfl ?_
  refine V2_aload_n (i := 0) d_Law_gives_3 rfl rfl ?_
  refine V2_get (v := F 8 4) d_Law_gives_4 fl_Law_20 (by decide) rfl (by decide) rfl rfl ?_
  refine V2_topi (fun v1 ev1 => ?_)
  refine V2_if_eq (tgt := 20) d_Law_gives_7 rfl (fun c2 => ?_) (fun c2 => ?_)
  · refine V2_aload_n (i := 0) d_Law_gives_20 rfl rfl ?_
    refine V2_iload_n (i := 1) d_Law_gives_21 rfl rfl ?_
    refine V2_iload_n (i := 2) d_Law_gives_22 rfl rfl ?_
    refine V2_iload_n (i := 3) d_Law_gives_23 rfl rfl ?_
    refine V2_callV [.int a, .int b, .int c] d_Law_gives_24 rfl rfl lk_Law_47 mo_Law_withoutText (by decide) rfl rfl rfl (Nat.le_of_ble_eq_true rfl) (Nat.le_of_ble_eq_true rfl) ?_
    refine V2.to (l' := [some (.ref 8), some (.int a), some (.int b), some (.int c)]) ?_ rfl rfl rfl rfl
    refine V2_aload_n (i := 0) d_Law_withoutText_0 rfl rfl ?_
    refine V2_get (v := F 8 0) d_Law_withoutText_1 fl_Law_24 (by decide) rfl (by decide) rfl rfl ?_
    refine V2_topi (fun v3 ev3 => ?_)
    refine V2_if_ne (tgt := 19) d_Law_withoutText_4 rfl (fun c4 => (by first | exact absurd c4 (show v3 = 0 from by subst ev3 ev1; exact hR.1.1) | exact absurd (show v3 = 0 from by subst ev3 ev1; exact hR.1.1) c4)) (fun c4 => ?_)
    refine V2_bipush (v := 9) d_Law_withoutText_7 rfl ?_
    refine V2_iload_n (i := 3) d_Law_withoutText_9 rfl rfl ?_
    refine V2_iadd d_Law_withoutText_10 ?_
    refine V2_topi (fun v5 ev5 => ?_)
    refine V2_iload_n (i := 1) d_Law_withoutText_11 rfl rfl ?_
    refine V2_bipush (v := 10) d_Law_withoutText_12 rfl ?_
    refine V2_idiv d_Law_withoutText_14 (by decide) ?_
    refine V2_topi (fun v6 ev6 => ?_)
    refine V2_isub d_Law_withoutText_15 ?_
    refine V2_topi (fun v7 ev7 => ?_)
    refine V2_goto (tgt := 25) d_Law_withoutText_16 rfl ?_
    refine V2_ireturn d_Law_withoutText_25 rfl ?_
    refine V2.to (st' := [.int v7, .int (99 : Int32), .int (0 : Int32)]) ?_ rfl rfl rfl rfl
    refine V2_mmin d_Law_gives_27 lz_Law_33 (Nat.le_of_ble_eq_true rfl) ?_
    refine V2_topi (fun v8 ev8 => ?_)
    refine V2_mmax d_Law_gives_30 lz_Law_50 (Nat.le_of_ble_eq_true rfl) ?_
    refine V2_topi (fun v9 ev9 => ?_)
    refine V2_ireturn d_Law_gives_33 rfl ?_
    have hneg : ¬ 0 < S 24 := by have h9 := c2; subst ev9 ev8 ev7 ev6 ev5 ev3 ev1; rw [hR.2.1] at h9; exact xb_eq.mp h9
    refine xQi (hQ (F 10)) ?_ (xrw_self F 10).symm
    unfold gripS
    rw [if_neg hneg]
    subst ev9 ev8 ev7 ev6 ev5 ev3 ev1
    exact held99
  · refine V2_aload_n (i := 0) d_Law_gives_10 rfl rfl ?_
    refine V2_iload_n (i := 1) d_Law_gives_11 rfl rfl ?_
    refine V2_iload_n (i := 2) d_Law_gives_12 rfl rfl ?_
    refine V2_iload_n (i := 3) d_Law_gives_13 rfl rfl ?_
    refine V2_callV [.int a, .int b, .int c] d_Law_gives_14 rfl rfl lk_Law_43 mo_Law_byText (by decide) rfl rfl rfl (Nat.le_of_ble_eq_true rfl) (Nat.le_of_ble_eq_true rfl) ?_
    have hpos : 0 < S 24 := by have h9 := c2; subst ev1; rw [hR.2.1] at h9; exact xb_ne.mp h9
    obtain ⟨n, hn, hok, hcl, hcc⟩ := relL_text hR hT hpos
    refine c_Law_byText8 hn hok hcc (fun q => ?_)
    refine V2_topi (fun v10 ev10 => ?_)
    refine V2_goto (tgt := 27) d_Law_gives_17 rfl ?_
    refine V2_mmin d_Law_gives_27 lz_Law_33 (Nat.le_of_ble_eq_true rfl) ?_
    refine V2_topi (fun v11 ev11 => ?_)
    refine V2_mmax d_Law_gives_30 lz_Law_50 (Nat.le_of_ble_eq_true rfl) ?_
    refine V2_topi (fun v12 ev12 => ?_)
    refine V2_ireturn d_Law_gives_33 rfl ?_
    refine xQi (hQ q) ?_ rfl
    unfold gripS
    rw [if_pos hpos, show (S 24).toNatClampNeg = n from hcl]
    subst ev12 ev11 ev10 ev1
    exact held99
theorem c_Law_byText11 {L : Nat} {xs : Nat → Int32} {d : Nat} {Q : Option Value → xF → Prop} {F : xF} {n : Nat} {a b c : Int32} {wh vl : Nat → Int32} (hn : F 11 3 = nI n) (hok : okText 1 n wh vl) (hc : ∀ k, k < n → F 12 k = encT (wh k) (vl k)) (hQ : ∀ q : Nat → Int32, Q (some (.int (valT (nmS a b c) n wh vl))) (xrw F 13 q)) : V2 L xs (d + 2) m_Law_byText 0 (xEntry [.ref 11, .int a, .int b, .int c] 7) [] F Q := by
  refine V2.to (l' := [some (.ref 11), some (.int a), some (.int b), some (.int c), none, none, none]) ?_ rfl rfl rfl rfl
  refine V2_iconst (v := 0) d_Law_byText_0 rfl ?_
  refine V2_istore (i := 4) (l' := [some (.ref 11), some (.int a), some (.int b), some (.int c), some (.int (0 : Int32)), none, none]) d_Law_byText_1 (xst_i (Nat.le_of_ble_eq_true rfl) rfl rfl) ?_
  refine V2_iconst (v := 0) d_Law_byText_3 rfl ?_
  refine V2_istore (i := 5) (l' := [some (.ref 11), some (.int a), some (.int b), some (.int c), some (.int (0 : Int32)), some (.int (0 : Int32)), none]) d_Law_byText_4 (xst_i (Nat.le_of_ble_eq_true rfl) rfl rfl) ?_
  exact V2.to (c_Law_byText11_loop hn hok hc (xQi (hQ _) (runT_val hok _) rfl) (n + 1) 0 (Nat.zero_le _) (by omega)) rfl rfl rfl (xrw_self F 13).symm
theorem c_Law_gives11 {L : Nat} {xs : Nat → Int32} {d : Nat} {Q : Option Value → xF → Prop} {F : xF} {a b c : Int32} {S : Nat → Int32} (hR : relL F 11 1 S) (hT : okT 1 S) (hQ : ∀ q : Nat → Int32, Q (some (.int (rubS S a b c))) (xrw F 13 q)) : V2 L xs (d + 3) m_Law_gives 0 (xEntry [.ref 11, .int a, .int b, .int c] 4) [] F Q := by
  refine V2.to (l' := [some (.ref 11), some (.int a), some (.int b), some (.int c)]) ?_ rfl rfl rfl rfl
  refine V2_iconst (v := 0) d_Law_gives_0 rfl ?_
  refine V2_bipush (v := 99) d_Law_gives_1 rfl ?_
  refine V2_aload_n (i := 0) d_Law_gives_3 rfl rfl ?_
  refine V2_get (v := F 11 4) d_Law_gives_4 fl_Law_20 (by decide) rfl (by decide) rfl rfl ?_
  refine V2_topi (fun v1 ev1 => ?_)
  refine V2_if_eq (tgt := 20) d_Law_gives_7 rfl (fun c2 => ?_) (fun c2 => ?_)
  · refine V2_aload_n (i := 0) d_Law_gives_20 rfl rfl ?_
    refine V2_iload_n (i := 1) d_Law_gives_21 rfl rfl ?_
    refine V2_iload_n (i := 2) d_Law_gives_22 rfl rfl ?_
    refine V2_iload_n (i := 3) d_Law_gives_23 rfl rfl ?_
    refine V2_callV [.int a, .int b, .int c] d_Law_gives_24 rfl rfl lk_Law_47 mo_Law_withoutText (by decide) rfl rfl rfl (Nat.le_of_ble_eq_true rfl) (Nat.le_of_ble_eq_true rfl) ?_
    refine V2.to (l' := [some (.ref 11), some (.int a), some (.int b), some (.int c)]) ?_ rfl rfl rfl rfl
    refine V2_aload_n (i := 0) d_Law_withoutText_0 rfl rfl ?_
    refine V2_get (v := F 11 0) d_Law_withoutText_1 fl_Law_24 (by decide) rfl (by decide) rfl rfl ?_
    refine V2_topi (fun v3 ev3 => ?_)
    refine V2_if_ne (tgt := 19) d_Law_withoutText_4 rfl (fun c4 => ?_) (fun c4 => (by first | exact absurd (show ¬ v3 = 0 from by subst ev3 ev1; rw [hR.1.1]; decide) c4 | exact absurd c4 (show ¬ v3 = 0 from by subst ev3 ev1; rw [hR.1.1]; decide)))
    refine V2_iconst (v := 2) d_Law_withoutText_19 rfl ?_
    refine V2_iload_n (i := 2) d_Law_withoutText_20 rfl rfl ?_
    refine V2_bipush (v := 10) d_Law_withoutText_21 rfl ?_
    refine V2_idiv d_Law_withoutText_23 (by decide) ?_
    refine V2_topi (fun v5 ev5 => ?_)
    refine V2_iadd d_Law_withoutText_24 ?_
    refine V2_topi (fun v6 ev6 => ?_)
    refine V2_ireturn d_Law_withoutText_25 rfl ?_
    refine V2.to (st' := [.int v6, .int (99 : Int32), .int (0 : Int32)]) ?_ rfl rfl rfl rfl
    refine V2_mmin d_Law_gives_27 lz_Law_33 (Nat.le_of_ble_eq_true rfl) ?_
    refine V2_topi (fun v7 ev7 => ?_)
    refine V2_mmax d_Law_gives_30 lz_Law_50 (Nat.le_of_ble_eq_true rfl) ?_
    refine V2_topi (fun v8 ev8 => ?_)
    refine V2_ireturn d_Law_gives_33 rfl ?_
    have hneg : ¬ 0 < S 149 := by have h9 := c2; subst ev8 ev7 ev6 ev5 ev3 ev1; rw [hR.2.1] at h9; exact xb_eq.mp h9
    refine xQi (hQ (F 13)) ?_ (xrw_self F 13).symm
    unfold rubS
    rw [if_neg hneg]
    subst ev8 ev7 ev6 ev5 ev3 ev1
    exact held99
  · refine V2_aload_n (i := 0) d_Law_gives_10 rfl rfl ?_
    refine V2_iload_n (i := 1) d_Law_gives_11 rfl rfl ?_
    refine V2_iload_n (i := 2) d_Law_gives_12 rfl rfl ?_
    refine V2_iload_n (i := 3) d_Law_gives_13 rfl rfl ?_
    refine V2_callV [.int a, .int b, .int c] d_Law_gives_14 rfl rfl lk_Law_43 mo_Law_byText (by decide) rfl rfl rfl (Nat.le_of_ble_eq_true rfl) (Nat.le_of_ble_eq_true rfl) ?_
    have hpos : 0 < S 149 := by have h9 := c2; subst ev1; rw [hR.2.1] at h9; exact xb_ne.mp h9
    obtain ⟨n, hn, hok, hcl, hcc⟩ := relL_text hR hT hpos
    refine c_Law_byText11 hn hok hcc (fun q => ?_)
    refine V2_topi (fun v9 ev9 => ?_)
    refine V2_goto (tgt := 27) d_Law_gives_17 rfl ?_
    refine V2_mmin d_Law_gives_27 lz_Law_33 (Nat.le_of_ble_eq_true rfl) ?_
    refine V2_topi (fun v10 ev10 => ?_)
    refine V2_mmax d_Law_gives_30 lz_Law_50 (Nat.le_of_ble_eq_true rfl) ?_
    refine V2_topi (fun v11 ev11 => ?_)
    refine V2_ireturn d_Law_gives_33 rfl ?_
    refine xQi (hQ q) ?_ rfl
    unfold rubS
    rw [if_pos hpos, show (S 149).toNatClampNeg = n from hcl]
    subst ev11 ev10 ev9 ev1
    exact held99
def mn (m x : Int32) : Int32 := if x < m then x else m
def mx (m x : Int32) : Int32 := if m < x then x else m
def cIce (r : Nat → Int32) (gas grip : Int32) : Int32 := if grip < gas then mn 99 (r 1 + gas - grip) else r 1
def cDepth (r : Nat → Int32) (gas grip : Int32) : Int32 := if grip < gas then mn 60 (r 0 + 1) else r 0
def cSand (r : Nat → Int32) (gas grip : Int32) : Int32 := if grip < gas then mx 0 (r 4 - 1) else r 4
def cHeight (r : Nat → Int32) (gas grip push rub : Int32) : Int32 := mx 0 (mn 99 (r 2 + (if grip < gas then 0 else gas) + push - rub))
/-- the class's car behind a swing -/
def goC (r : Nat → Int32) (gas grip push rub : Int32) : Nat → Int32 := fun j =>
  if j = 0 then cDepth r gas grip else if j = 1 then cIce r gas grip else if j = 2 then cHeight r gas grip push rub else if j = 3 then 1 - r 3 else if j = 4 then cSand r gas grip else if j = 5 then r 5 + 1
  else if j = 6 then (if cDepth r gas grip ≤ cHeight r gas grip push rub then mn 9999 (r 6 + 1) else r 6) else if j = 7 then (if cDepth r gas grip ≤ cHeight r gas grip push rub then 1 else r 7) else r j
set_option maxHeartbeats 1000000 in
theorem c_Car_go_2 {L : Nat} {xs : Nat → Int32} {d : Nat} {Q : Option Value → xF → Prop} {F : xF} {gas grip push rub : Int32}  (hQ : Q (some (.int (xb (grip < gas)))) (xrw F 2 (goC (F 2) gas grip push rub))) : V2 L xs (d + 1) m_Car_go 0 (xEntry [.ref 2, .int gas, .int grip, .int push, .int rub] 7) [] F Q := by
  refine V2.to (l' := [some (.ref 2), some (.int gas), some (.int grip), some (.int push), some (.int rub), none, none]) ?_ rfl rfl rfl rfl
  refine V2_iload_n (i := 1) d_Car_go_0 rfl rfl ?_
  refine V2_iload_n (i := 2) d_Car_go_1 rfl rfl ?_
  refine V2_icmp_le (tgt := 9) d_Car_go_2 rfl (fun c1 => ?_) (fun c1 => ?_)
  · refine V2_iconst (v := 0) d_Car_go_9 rfl ?_
    refine V2_istore (i := 5) (l' := [some (.ref 2), some (.int gas), some (.int grip), some (.int push), some (.int rub), some (.int (0 : Int32)), none]) d_Car_go_10 (xst_i (Nat.le_of_ble_eq_true rfl) rfl rfl) ?_
    refine V2_iload (i := 5) d_Car_go_12 rfl ?_
    refine V2_if_eq (tgt := 63) d_Car_go_14 rfl (fun _ => ?_) (fun c => (by first | exact absurd c (by decide) | exact absurd (by decide) c))
    refine V2_iload (i := 5) d_Car_go_63 rfl ?_
    refine V2_if_eq (tgt := 72) d_Car_go_65 rfl (fun _ => ?_) (fun c => (by first | exact absurd c (by decide) | exact absurd (by decide) c))
    refine V2_iload_n (i := 1) d_Car_go_72 rfl rfl ?_
    refine V2_istore (i := 6) (l' := [some (.ref 2), some (.int gas), some (.int grip), some (.int push), some (.int rub), some (.int (0 : Int32)), some (.int gas)]) d_Car_go_73 (xst_i (Nat.le_of_ble_eq_true rfl) rfl rfl) ?_
    refine V2_aload_n (i := 0) d_Car_go_75 rfl rfl ?_
    refine V2_iconst (v := 0) d_Car_go_76 rfl ?_
    refine V2_bipush (v := 99) d_Car_go_77 rfl ?_
    refine V2_aload_n (i := 0) d_Car_go_79 rfl rfl ?_
    refine V2_get (v := F 2 2) d_Car_go_80 fl_Car_16 (by decide) rfl (by decide) rfl rfl ?_
    refine V2_topi (fun v2 ev2 => ?_)
    refine V2_iload (i := 6) d_Car_go_83 rfl ?_
    refine V2_iadd d_Car_go_85 ?_
    refine V2_topi (fun v3 ev3 => ?_)
    refine V2_iload_n (i := 3) d_Car_go_86 rfl rfl ?_
    refine V2_iadd d_Car_go_87 ?_
    refine V2_topi (fun v4 ev4 => ?_)
    refine V2_iload (i := 4) d_Car_go_88 rfl ?_
    refine V2_isub d_Car_go_90 ?_
    refine V2_topi (fun v5 ev5 => ?_)
    refine V2_mmin d_Car_go_91 lz_Car_47 (Nat.le_of_ble_eq_true rfl) ?_
    refine V2_topi (fun v6 ev6 => ?_)
    refine V2_mmax d_Car_go_94 lz_Car_41 (Nat.le_of_ble_eq_true rfl) ?_
    refine V2_topi (fun v7 ev7 => ?_)
    refine V2_put d_Car_go_97 fl_Car_16 (by decide) rfl (by decide) rfl ?_
    refine V2_aload_n (i := 0) d_Car_go_100 rfl rfl ?_
    refine V2_iconst (v := 1) d_Car_go_101 rfl ?_
    refine V2_aload_n (i := 0) d_Car_go_102 rfl rfl ?_
    refine V2_get (v := F 2 3) d_Car_go_103 fl_Car_19 (by decide) rfl (by decide) rfl rfl ?_
    refine V2_topi (fun v8 ev8 => ?_)
    refine V2_isub d_Car_go_106 ?_
    refine V2_topi (fun v9 ev9 => ?_)
    refine V2_put d_Car_go_107 fl_Car_19 (by decide) rfl (by decide) rfl ?_
    refine V2_aload_n (i := 0) d_Car_go_110 rfl rfl ?_
    refine V2_dup d_Car_go_111 rfl ?_
    refine V2_get (v := F 2 5) d_Car_go_112 fl_Car_25 (by decide) rfl (by decide) rfl rfl ?_
    refine V2_topi (fun v10 ev10 => ?_)
    refine V2_iconst (v := 1) d_Car_go_115 rfl ?_
    refine V2_iadd d_Car_go_116 ?_
    refine V2_topi (fun v11 ev11 => ?_)
    refine V2_put d_Car_go_117 fl_Car_25 (by decide) rfl (by decide) rfl ?_
    refine V2_aload_n (i := 0) d_Car_go_120 rfl rfl ?_
    refine V2_callV [] d_Car_go_121 rfl rfl lk_Car_50 mo_Car_isOverTheRim (by decide) rfl rfl rfl (Nat.le_of_ble_eq_true rfl) (Nat.le_of_ble_eq_true rfl) ?_
    refine V2.to (l' := [some (.ref 2)]) ?_ rfl rfl rfl rfl
    refine V2_aload_n (i := 0) d_Car_isOverTheRim_0 rfl rfl ?_
    refine V2_get (v := v7) d_Car_isOverTheRim_1 fl_Car_16 (by decide) rfl (by decide) rfl rfl ?_
    refine V2_aload_n (i := 0) d_Car_isOverTheRim_4 rfl rfl ?_
    refine V2_get (v := F 2 0) d_Car_isOverTheRim_5 fl_Car_7 (by decide) rfl (by decide) rfl rfl ?_
    refine V2_topi (fun v12 ev12 => ?_)
    refine V2_icmp_lt (tgt := 15) d_Car_isOverTheRim_8 rfl (fun c13 => ?_) (fun c13 => ?_)
    · refine V2_iconst (v := 0) d_Car_isOverTheRim_15 rfl ?_
      refine V2_zreturn d_Car_isOverTheRim_16 rfl (by decide) ?_
      refine V2.to (st' := [.int (0 : Int32)]) ?_ rfl rfl rfl rfl
      refine V2_if_eq (tgt := 148) d_Car_go_124 rfl (fun _ => ?_) (fun c => (by first | exact absurd c (by decide) | exact absurd (by decide) c))
      refine V2_iload (i := 5) d_Car_go_148 rfl ?_
      refine V2_zreturn d_Car_go_150 rfl (by decide) ?_
      have hs : ¬ (grip < gas) := by have h9 := c1; exact Int32.not_lt.mpr h9
      have ho : ¬ (cDepth (F 2) gas grip ≤ cHeight (F 2) gas grip push rub) := by
        have h9 := c13
        subst ev12 ev11 ev10 ev9 ev8 ev7 ev6 ev5 ev4 ev3 ev2
        simp only [cDepth, cHeight, mn, mx, hs, if_true, if_false]
        exact Int32.not_le.mpr h9
      refine xQi hQ ?_ ?_
      · exact (xb_0 hs).symm
      · subst ev12 ev11 ev10 ev9 ev8 ev7 ev6 ev5 ev4 ev3 ev2
        funext a b
        by_cases hk : a = 2
        · subst hk
          rcases b with _ | _ | _ | _ | _ | _ | _ | _ | b <;> simp [xp, xrw, goC, ho] <;> simp [cDepth, cIce, cSand, cHeight, mn, mx, hs]
        · simp [xp, xrw, hk]
    · refine V2_iconst (v := 1) d_Car_isOverTheRim_11 rfl ?_
      refine V2_goto (tgt := 16) d_Car_isOverTheRim_12 rfl ?_
      refine V2_zreturn d_Car_isOverTheRim_16 rfl (by decide) ?_
      refine V2.to (st' := [.int (1 : Int32)]) ?_ rfl rfl rfl rfl
      refine V2_if_eq (tgt := 148) d_Car_go_124 rfl (fun c => (by first | exact absurd c (by decide) | exact absurd (by decide) c)) (fun _ => ?_)
      refine V2_aload_n (i := 0) d_Car_go_127 rfl rfl ?_
      refine V2_iconst (v := 1) d_Car_go_128 rfl ?_
      refine V2_putz d_Car_go_129 fl_Car_31 (by decide) rfl (by decide) rfl (by decide) ?_
      refine V2_aload_n (i := 0) d_Car_go_132 rfl rfl ?_
      refine V2_sipush (v := 9999) d_Car_go_133 rfl ?_
      refine V2_aload_n (i := 0) d_Car_go_136 rfl rfl ?_
      refine V2_get (v := F 2 6) d_Car_go_137 fl_Car_28 (by decide) rfl (by decide) rfl rfl ?_
      refine V2_topi (fun v14 ev14 => ?_)
      refine V2_iconst (v := 1) d_Car_go_140 rfl ?_
      refine V2_iadd d_Car_go_141 ?_
      refine V2_topi (fun v15 ev15 => ?_)
      refine V2_mmin d_Car_go_142 lz_Car_47 (Nat.le_of_ble_eq_true rfl) ?_
      refine V2_topi (fun v16 ev16 => ?_)
      refine V2_put d_Car_go_145 fl_Car_28 (by decide) rfl (by decide) rfl ?_
      refine V2_iload (i := 5) d_Car_go_148 rfl ?_
      refine V2_zreturn d_Car_go_150 rfl (by decide) ?_
      have hs : ¬ (grip < gas) := by have h9 := c1; exact Int32.not_lt.mpr h9
      have ho : (cDepth (F 2) gas grip ≤ cHeight (F 2) gas grip push rub) := by
        have h9 := c13
        subst ev16 ev15 ev14 ev12 ev11 ev10 ev9 ev8 ev7 ev6 ev5 ev4 ev3 ev2
        simp only [cDepth, cHeight, mn, mx, hs, if_true, if_false]
        exact Int32.not_lt.mp h9
      refine xQi hQ ?_ ?_
      · exact (xb_0 hs).symm
      · subst ev16 ev15 ev14 ev12 ev11 ev10 ev9 ev8 ev7 ev6 ev5 ev4 ev3 ev2
        funext a b
        by_cases hk : a = 2
        · subst hk
          rcases b with _ | _ | _ | _ | _ | _ | _ | _ | b <;> simp [xp, xrw, goC, ho] <;> simp [cDepth, cIce, cSand, cHeight, mn, mx, hs]
        · simp [xp, xrw, hk]
  · refine V2_iconst (v := 1) d_Car_go_5 rfl ?_
    refine V2_goto (tgt := 10) d_Car_go_6 rfl ?_
    refine V2_istore (i := 5) (l' := [some (.ref 2), some (.int gas), some (.int grip), some (.int push), some (.int rub), some (.int (1 : Int32)), none]) d_Car_go_10 (xst_i (Nat.le_of_ble_eq_true rfl) rfl rfl) ?_
    refine V2_iload (i := 5) d_Car_go_12 rfl ?_
    refine V2_if_eq (tgt := 63) d_Car_go_14 rfl (fun c => (by first | exact absurd c (by decide) | exact absurd (by decide) c)) (fun _ => ?_)
    refine V2_aload_n (i := 0) d_Car_go_17 rfl rfl ?_
    refine V2_bipush (v := 99) d_Car_go_18 rfl ?_
    refine V2_aload_n (i := 0) d_Car_go_20 rfl rfl ?_
    refine V2_get (v := F 2 1) d_Car_go_21 fl_Car_13 (by decide) rfl (by decide) rfl rfl ?_
    refine V2_topi (fun v17 ev17 => ?_)
    refine V2_iload_n (i := 1) d_Car_go_24 rfl rfl ?_
    refine V2_iadd d_Car_go_25 ?_
    refine V2_topi (fun v18 ev18 => ?_)
    refine V2_iload_n (i := 2) d_Car_go_26 rfl rfl ?_
    refine V2_isub d_Car_go_27 ?_
    refine V2_topi (fun v19 ev19 => ?_)
    refine V2_mmin d_Car_go_28 lz_Car_47 (Nat.le_of_ble_eq_true rfl) ?_
    refine V2_topi (fun v20 ev20 => ?_)
    refine V2_put d_Car_go_31 fl_Car_13 (by decide) rfl (by decide) rfl ?_
    refine V2_aload_n (i := 0) d_Car_go_34 rfl rfl ?_
    refine V2_bipush (v := 60) d_Car_go_35 rfl ?_
    refine V2_aload_n (i := 0) d_Car_go_37 rfl rfl ?_
    refine V2_get (v := F 2 0) d_Car_go_38 fl_Car_7 (by decide) rfl (by decide) rfl rfl ?_
    refine V2_topi (fun v21 ev21 => ?_)
    refine V2_iconst (v := 1) d_Car_go_41 rfl ?_
    refine V2_iadd d_Car_go_42 ?_
    refine V2_topi (fun v22 ev22 => ?_)
    refine V2_mmin d_Car_go_43 lz_Car_47 (Nat.le_of_ble_eq_true rfl) ?_
    refine V2_topi (fun v23 ev23 => ?_)
    refine V2_put d_Car_go_46 fl_Car_7 (by decide) rfl (by decide) rfl ?_
    refine V2_aload_n (i := 0) d_Car_go_49 rfl rfl ?_
    refine V2_iconst (v := 0) d_Car_go_50 rfl ?_
    refine V2_aload_n (i := 0) d_Car_go_51 rfl rfl ?_
    refine V2_get (v := F 2 4) d_Car_go_52 fl_Car_22 (by decide) rfl (by decide) rfl rfl ?_
    refine V2_topi (fun v24 ev24 => ?_)
    refine V2_iconst (v := 1) d_Car_go_55 rfl ?_
    refine V2_isub d_Car_go_56 ?_
    refine V2_topi (fun v25 ev25 => ?_)
    refine V2_mmax d_Car_go_57 lz_Car_41 (Nat.le_of_ble_eq_true rfl) ?_
    refine V2_topi (fun v26 ev26 => ?_)
    refine V2_put d_Car_go_60 fl_Car_22 (by decide) rfl (by decide) rfl ?_
    refine V2_iload (i := 5) d_Car_go_63 rfl ?_
    refine V2_if_eq (tgt := 72) d_Car_go_65 rfl (fun c => (by first | exact absurd c (by decide) | exact absurd (by decide) c)) (fun _ => ?_)
    refine V2_iconst (v := 0) d_Car_go_68 rfl ?_
    refine V2_goto (tgt := 73) d_Car_go_69 rfl ?_
    refine V2_istore (i := 6) (l' := [some (.ref 2), some (.int gas), some (.int grip), some (.int push), some (.int rub), some (.int (1 : Int32)), some (.int (0 : Int32))]) d_Car_go_73 (xst_i (Nat.le_of_ble_eq_true rfl) rfl rfl) ?_
    refine V2_aload_n (i := 0) d_Car_go_75 rfl rfl ?_
    refine V2_iconst (v := 0) d_Car_go_76 rfl ?_
    refine V2_bipush (v := 99) d_Car_go_77 rfl ?_
    refine V2_aload_n (i := 0) d_Car_go_79 rfl rfl ?_
    refine V2_get (v := F 2 2) d_Car_go_80 fl_Car_16 (by decide) rfl (by decide) rfl rfl ?_
    refine V2_topi (fun v27 ev27 => ?_)
    refine V2_iload (i := 6) d_Car_go_83 rfl ?_
    refine V2_iadd d_Car_go_85 ?_
    refine V2_topi (fun v28 ev28 => ?_)
    refine V2_iload_n (i := 3) d_Car_go_86 rfl rfl ?_
    refine V2_iadd d_Car_go_87 ?_
    refine V2_topi (fun v29 ev29 => ?_)
    refine V2_iload (i := 4) d_Car_go_88 rfl ?_
    refine V2_isub d_Car_go_90 ?_
    refine V2_topi (fun v30 ev30 => ?_)
    refine V2_mmin d_Car_go_91 lz_Car_47 (Nat.le_of_ble_eq_true rfl) ?_
    refine V2_topi (fun v31 ev31 => ?_)
    refine V2_mmax d_Car_go_94 lz_Car_41 (Nat.le_of_ble_eq_true rfl) ?_
    refine V2_topi (fun v32 ev32 => ?_)
    refine V2_put d_Car_go_97 fl_Car_16 (by decide) rfl (by decide) rfl ?_
    refine V2_aload_n (i := 0) d_Car_go_100 rfl rfl ?_
    refine V2_iconst (v := 1) d_Car_go_101 rfl ?_
    refine V2_aload_n (i := 0) d_Car_go_102 rfl rfl ?_
    refine V2_get (v := F 2 3) d_Car_go_103 fl_Car_19 (by decide) rfl (by decide) rfl rfl ?_
    refine V2_topi (fun v33 ev33 => ?_)
    refine V2_isub d_Car_go_106 ?_
    refine V2_topi (fun v34 ev34 => ?_)
    refine V2_put d_Car_go_107 fl_Car_19 (by decide) rfl (by decide) rfl ?_
    refine V2_aload_n (i := 0) d_Car_go_110 rfl rfl ?_
    refine V2_dup d_Car_go_111 rfl ?_
    refine V2_get (v := F 2 5) d_Car_go_112 fl_Car_25 (by decide) rfl (by decide) rfl rfl ?_
    refine V2_topi (fun v35 ev35 => ?_)
    refine V2_iconst (v := 1) d_Car_go_115 rfl ?_
    refine V2_iadd d_Car_go_116 ?_
    refine V2_topi (fun v36 ev36 => ?_)
    refine V2_put d_Car_go_117 fl_Car_25 (by decide) rfl (by decide) rfl ?_
    refine V2_aload_n (i := 0) d_Car_go_120 rfl rfl ?_
    refine V2_callV [] d_Car_go_121 rfl rfl lk_Car_50 mo_Car_isOverTheRim (by decide) rfl rfl rfl (Nat.le_of_ble_eq_true rfl) (Nat.le_of_ble_eq_true rfl) ?_
    refine V2.to (l' := [some (.ref 2)]) ?_ rfl rfl rfl rfl
    refine V2_aload_n (i := 0) d_Car_isOverTheRim_0 rfl rfl ?_
    refine V2_get (v := v32) d_Car_isOverTheRim_1 fl_Car_16 (by decide) rfl (by decide) rfl rfl ?_
    refine V2_aload_n (i := 0) d_Car_isOverTheRim_4 rfl rfl ?_
    refine V2_get (v := v23) d_Car_isOverTheRim_5 fl_Car_7 (by decide) rfl (by decide) rfl rfl ?_
    refine V2_icmp_lt (tgt := 15) d_Car_isOverTheRim_8 rfl (fun c37 => ?_) (fun c37 => ?_)
    · refine V2_iconst (v := 0) d_Car_isOverTheRim_15 rfl ?_
      refine V2_zreturn d_Car_isOverTheRim_16 rfl (by decide) ?_
      refine V2.to (st' := [.int (0 : Int32)]) ?_ rfl rfl rfl rfl
      refine V2_if_eq (tgt := 148) d_Car_go_124 rfl (fun _ => ?_) (fun c => (by first | exact absurd c (by decide) | exact absurd (by decide) c))
      refine V2_iload (i := 5) d_Car_go_148 rfl ?_
      refine V2_zreturn d_Car_go_150 rfl (by decide) ?_
      have hs : (grip < gas) := by have h9 := c1; exact Int32.not_le.mp h9
      have ho : ¬ (cDepth (F 2) gas grip ≤ cHeight (F 2) gas grip push rub) := by
        have h9 := c37
        subst ev36 ev35 ev34 ev33 ev32 ev31 ev30 ev29 ev28 ev27 ev26 ev25 ev24 ev23 ev22 ev21 ev20 ev19 ev18 ev17
        simp only [cDepth, cHeight, mn, mx, hs, if_true, if_false]
        exact Int32.not_le.mpr h9
      refine xQi hQ ?_ ?_
      · exact (xb_1 hs).symm
      · subst ev36 ev35 ev34 ev33 ev32 ev31 ev30 ev29 ev28 ev27 ev26 ev25 ev24 ev23 ev22 ev21 ev20 ev19 ev18 ev17
        funext a b
        by_cases hk : a = 2
        · subst hk
          rcases b with _ | _ | _ | _ | _ | _ | _ | _ | b <;> simp [xp, xrw, goC, ho] <;> simp [cDepth, cIce, cSand, cHeight, mn, mx, hs]
        · simp [xp, xrw, hk]
    · refine V2_iconst (v := 1) d_Car_isOverTheRim_11 rfl ?_
      refine V2_goto (tgt := 16) d_Car_isOverTheRim_12 rfl ?_
      refine V2_zreturn d_Car_isOverTheRim_16 rfl (by decide) ?_
      refine V2.to (st' := [.int (1 : Int32)]) ?_ rfl rfl rfl rfl
      refine V2_if_eq (tgt := 148) d_Car_go_124 rfl (fun c => (by first | exact absurd c (by decide) | exact absurd (by decide) c)) (fun _ => ?_)
      refine V2_aload_n (i := 0) d_Car_go_127 rfl rfl ?_
      refine V2_iconst (v := 1) d_Car_go_128 rfl ?_
      refine V2_putz d_Car_go_129 fl_Car_31 (by decide) rfl (by decide) rfl (by decide) ?_
      refine V2_aload_n (i := 0) d_Car_go_132 rfl rfl ?_
      refine V2_sipush (v := 9999) d_Car_go_133 rfl ?_
      refine V2_aload_n (i := 0) d_Car_go_136 rfl rfl ?_
      refine V2_get (v := F 2 6) d_Car_go_137 fl_Car_28 (by decide) rfl (by decide) rfl rfl ?_
      refine V2_topi (fun v38 ev38 => ?_)
      refine V2_iconst (v := 1) d_Car_go_140 rfl ?_
      refine V2_iadd d_Car_go_141 ?_
      refine V2_topi (fun v39 ev39 => ?_)
      refine V2_mmin d_Car_go_142 lz_Car_47 (Nat.le_of_ble_eq_true rfl) ?_
      refine V2_topi (fun v40 ev40 => ?_)
      refine V2_put d_Car_go_145 fl_Car_28 (by decide) rfl (by decide) rfl ?_
      refine V2_iload (i := 5) d_Car_go_148 rfl ?_
      refine V2_zreturn d_Car_go_150 rfl (by decide) ?_
      have hs : (grip < gas) := by have h9 := c1; exact Int32.not_le.mp h9
      have ho : (cDepth (F 2) gas grip ≤ cHeight (F 2) gas grip push rub) := by
        have h9 := c37
        subst ev40 ev39 ev38 ev36 ev35 ev34 ev33 ev32 ev31 ev30 ev29 ev28 ev27 ev26 ev25 ev24 ev23 ev22 ev21 ev20 ev19 ev18 ev17
        simp only [cDepth, cHeight, mn, mx, hs, if_true, if_false]
        exact Int32.not_lt.mp h9
      refine xQi hQ ?_ ?_
      · exact (xb_1 hs).symm
      · subst ev40 ev39 ev38 ev36 ev35 ev34 ev33 ev32 ev31 ev30 ev29 ev28 ev27 ev26 ev25 ev24 ev23 ev22 ev21 ev20 ev19 ev18 ev17
        funext a b
        by_cases hk : a = 2
        · subst hk
          rcases b with _ | _ | _ | _ | _ | _ | _ | _ | b <;> simp [xp, xrw, goC, ho] <;> simp [cDepth, cIce, cSand, cHeight, mn, mx, hs]
        · simp [xp, xrw, hk]
set_option maxHeartbeats 1000000 in
theorem c_Car_go_35 {L : Nat} {xs : Nat → Int32} {d : Nat} {Q : Option Value → xF → Prop} {F : xF} {gas grip push rub : Int32}  (hQ : Q (some (.int (xb (grip < gas)))) (xrw F 35 (goC (F 35) gas grip push rub))) : V2 L xs (d + 1) m_Car_go 0 (xEntry [.ref 35, .int gas, .int grip, .int push, .int rub] 7) [] F Q := by
  refine V2.to (l' := [some (.ref 35), some (.int gas), some (.int grip), some (.int push), some (.int rub), none, none]) ?_ rfl rfl rfl rfl
  refine V2_iload_n (i := 1) d_Car_go_0 rfl rfl ?_
  refine V2_iload_n (i := 2) d_Car_go_1 rfl rfl ?_
  refine V2_icmp_le (tgt := 9) d_Car_go_2 rfl (fun c1 => ?_) (fun c1 => ?_)
  · refine V2_iconst (v := 0) d_Car_go_9 rfl ?_
    refine V2_istore (i := 5) (l' := [some (.ref 35), some (.int gas), some (.int grip), some (.int push), some (.int rub), some (.int (0 : Int32)), none]) d_Car_go_10 (xst_i (Nat.le_of_ble_eq_true rfl) rfl rfl) ?_
    refine V2_iload (i := 5) d_Car_go_12 rfl ?_
    refine V2_if_eq (tgt := 63) d_Car_go_14 rfl (fun _ => ?_) (fun c => (by first | exact absurd c (by decide) | exact absurd (by decide) c))
    refine V2_iload (i := 5) d_Car_go_63 rfl ?_
    refine V2_if_eq (tgt := 72) d_Car_go_65 rfl (fun _ => ?_) (fun c => (by first | exact absurd c (by decide) | exact absurd (by decide) c))
    refine V2_iload_n (i := 1) d_Car_go_72 rfl rfl ?_
    refine V2_istore (i := 6) (l' := [some (.ref 35), some (.int gas), some (.int grip), some (.int push), some (.int rub), some (.int (0 : Int32)), some (.int gas)]) d_Car_go_73 (xst_i (Nat.le_of_ble_eq_true rfl) rfl rfl) ?_
    refine V2_aload_n (i := 0) d_Car_go_75 rfl rfl ?_
    refine V2_iconst (v := 0) d_Car_go_76 rfl ?_
    refine V2_bipush (v := 99) d_Car_go_77 rfl ?_
    refine V2_aload_n (i := 0) d_Car_go_79 rfl rfl ?_
    refine V2_get (v := F 35 2) d_Car_go_80 fl_Car_16 (by decide) rfl (by decide) rfl rfl ?_
    refine V2_topi (fun v2 ev2 => ?_)
    refine V2_iload (i := 6) d_Car_go_83 rfl ?_
    refine V2_iadd d_Car_go_85 ?_
    refine V2_topi (fun v3 ev3 => ?_)
    refine V2_iload_n (i := 3) d_Car_go_86 rfl rfl ?_
    refine V2_iadd d_Car_go_87 ?_
    refine V2_topi (fun v4 ev4 => ?_)
    refine V2_iload (i := 4) d_Car_go_88 rfl ?_
    refine V2_isub d_Car_go_90 ?_
    refine V2_topi (fun v5 ev5 => ?_)
    refine V2_mmin d_Car_go_91 lz_Car_47 (Nat.le_of_ble_eq_true rfl) ?_
    refine V2_topi (fun v6 ev6 => ?_)
    refine V2_mmax d_Car_go_94 lz_Car_41 (Nat.le_of_ble_eq_true rfl) ?_
    refine V2_topi (fun v7 ev7 => ?_)
    refine V2_put d_Car_go_97 fl_Car_16 (by decide) rfl (by decide) rfl ?_
    refine V2_aload_n (i := 0) d_Car_go_100 rfl rfl ?_
    refine V2_iconst (v := 1) d_Car_go_101 rfl ?_
    refine V2_aload_n (i := 0) d_Car_go_102 rfl rfl ?_
    refine V2_get (v := F 35 3) d_Car_go_103 fl_Car_19 (by decide) rfl (by decide) rfl rfl ?_
    refine V2_topi (fun v8 ev8 => ?_)
    refine V2_isub d_Car_go_106 ?_
    refine V2_topi (fun v9 ev9 => ?_)
    refine V2_put d_Car_go_107 fl_Car_19 (by decide) rfl (by decide) rfl ?_
    refine V2_aload_n (i := 0) d_Car_go_110 rfl rfl ?_
    refine V2_dup d_Car_go_111 rfl ?_
    refine V2_get (v := F 35 5) d_Car_go_112 fl_Car_25 (by decide) rfl (by decide) rfl rfl ?_
    refine V2_topi (fun v10 ev10 => ?_)
    refine V2_iconst (v := 1) d_Car_go_115 rfl ?_
    refine V2_iadd d_Car_go_116 ?_
    refine V2_topi (fun v11 ev11 => ?_)
    refine V2_put d_Car_go_117 fl_Car_25 (by decide) rfl (by decide) rfl ?_
    refine V2_aload_n (i := 0) d_Car_go_120 rfl rfl ?_
    refine V2_callV [] d_Car_go_121 rfl rfl lk_Car_50 mo_Car_isOverTheRim (by decide) rfl rfl rfl (Nat.le_of_ble_eq_true rfl) (Nat.le_of_ble_eq_true rfl) ?_
    refine V2.to (l' := [some (.ref 35)]) ?_ rfl rfl rfl rfl
    refine V2_aload_n (i := 0) d_Car_isOverTheRim_0 rfl rfl ?_
    refine V2_get (v := v7) d_Car_isOverTheRim_1 fl_Car_16 (by decide) rfl (by decide) rfl rfl ?_
    refine V2_aload_n (i := 0) d_Car_isOverTheRim_4 rfl rfl ?_
    refine V2_get (v := F 35 0) d_Car_isOverTheRim_5 fl_Car_7 (by decide) rfl (by decide) rfl rfl ?_
    refine V2_topi (fun v12 ev12 => ?_)
    refine V2_icmp_lt (tgt := 15) d_Car_isOverTheRim_8 rfl (fun c13 => ?_) (fun c13 => ?_)
    · refine V2_iconst (v := 0) d_Car_isOverTheRim_15 rfl ?_
      refine V2_zreturn d_Car_isOverTheRim_16 rfl (by decide) ?_
      refine V2.to (st' := [.int (0 : Int32)]) ?_ rfl rfl rfl rfl
      refine V2_if_eq (tgt := 148) d_Car_go_124 rfl (fun _ => ?_) (fun c => (by first | exact absurd c (by decide) | exact absurd (by decide) c))
      refine V2_iload (i := 5) d_Car_go_148 rfl ?_
      refine V2_zreturn d_Car_go_150 rfl (by decide) ?_
      have hs : ¬ (grip < gas) := by have h9 := c1; exact Int32.not_lt.mpr h9
      have ho : ¬ (cDepth (F 35) gas grip ≤ cHeight (F 35) gas grip push rub) := by
        have h9 := c13
        subst ev12 ev11 ev10 ev9 ev8 ev7 ev6 ev5 ev4 ev3 ev2
        simp only [cDepth, cHeight, mn, mx, hs, if_true, if_false]
        exact Int32.not_le.mpr h9
      refine xQi hQ ?_ ?_
      · exact (xb_0 hs).symm
      · subst ev12 ev11 ev10 ev9 ev8 ev7 ev6 ev5 ev4 ev3 ev2
        funext a b
        by_cases hk : a = 35
        · subst hk
          rcases b with _ | _ | _ | _ | _ | _ | _ | _ | b <;> simp [xp, xrw, goC, ho] <;> simp [cDepth, cIce, cSand, cHeight, mn, mx, hs]
        · simp [xp, xrw, hk]
    · refine V2_iconst (v := 1) d_Car_isOverTheRim_11 rfl ?_
      refine V2_goto (tgt := 16) d_Car_isOverTheRim_12 rfl ?_
      refine V2_zreturn d_Car_isOverTheRim_16 rfl (by decide) ?_
      refine V2.to (st' := [.int (1 : Int32)]) ?_ rfl rfl rfl rfl
      refine V2_if_eq (tgt := 148) d_Car_go_124 rfl (fun c => (by first | exact absurd c (by decide) | exact absurd (by decide) c)) (fun _ => ?_)
      refine V2_aload_n (i := 0) d_Car_go_127 rfl rfl ?_
      refine V2_iconst (v := 1) d_Car_go_128 rfl ?_
      refine V2_putz d_Car_go_129 fl_Car_31 (by decide) rfl (by decide) rfl (by decide) ?_
      refine V2_aload_n (i := 0) d_Car_go_132 rfl rfl ?_
      refine V2_sipush (v := 9999) d_Car_go_133 rfl ?_
      refine V2_aload_n (i := 0) d_Car_go_136 rfl rfl ?_
      refine V2_get (v := F 35 6) d_Car_go_137 fl_Car_28 (by decide) rfl (by decide) rfl rfl ?_
      refine V2_topi (fun v14 ev14 => ?_)
      refine V2_iconst (v := 1) d_Car_go_140 rfl ?_
      refine V2_iadd d_Car_go_141 ?_
      refine V2_topi (fun v15 ev15 => ?_)
      refine V2_mmin d_Car_go_142 lz_Car_47 (Nat.le_of_ble_eq_true rfl) ?_
      refine V2_topi (fun v16 ev16 => ?_)
      refine V2_put d_Car_go_145 fl_Car_28 (by decide) rfl (by decide) rfl ?_
      refine V2_iload (i := 5) d_Car_go_148 rfl ?_
      refine V2_zreturn d_Car_go_150 rfl (by decide) ?_
      have hs : ¬ (grip < gas) := by have h9 := c1; exact Int32.not_lt.mpr h9
      have ho : (cDepth (F 35) gas grip ≤ cHeight (F 35) gas grip push rub) := by
        have h9 := c13
        subst ev16 ev15 ev14 ev12 ev11 ev10 ev9 ev8 ev7 ev6 ev5 ev4 ev3 ev2
        simp only [cDepth, cHeight, mn, mx, hs, if_true, if_false]
        exact Int32.not_lt.mp h9
      refine xQi hQ ?_ ?_
      · exact (xb_0 hs).symm
      · subst ev16 ev15 ev14 ev12 ev11 ev10 ev9 ev8 ev7 ev6 ev5 ev4 ev3 ev2
        funext a b
        by_cases hk : a = 35
        · subst hk
          rcases b with _ | _ | _ | _ | _ | _ | _ | _ | b <;> simp [xp, xrw, goC, ho] <;> simp [cDepth, cIce, cSand, cHeight, mn, mx, hs]
        · simp [xp, xrw, hk]
  · refine V2_iconst (v := 1) d_Car_go_5 rfl ?_
    refine V2_goto (tgt := 10) d_Car_go_6 rfl ?_
    refine V2_istore (i := 5) (l' := [some (.ref 35), some (.int gas), some (.int grip), some (.int push), some (.int rub), some (.int (1 : Int32)), none]) d_Car_go_10 (xst_i (Nat.le_of_ble_eq_true rfl) rfl rfl) ?_
    refine V2_iload (i := 5) d_Car_go_12 rfl ?_
    refine V2_if_eq (tgt := 63) d_Car_go_14 rfl (fun c => (by first | exact absurd c (by decide) | exact absurd (by decide) c)) (fun _ => ?_)
    refine V2_aload_n (i := 0) d_Car_go_17 rfl rfl ?_
    refine V2_bipush (v := 99) d_Car_go_18 rfl ?_
    refine V2_aload_n (i := 0) d_Car_go_20 rfl rfl ?_
    refine V2_get (v := F 35 1) d_Car_go_21 fl_Car_13 (by decide) rfl (by decide) rfl rfl ?_
    refine V2_topi (fun v17 ev17 => ?_)
    refine V2_iload_n (i := 1) d_Car_go_24 rfl rfl ?_
    refine V2_iadd d_Car_go_25 ?_
    refine V2_topi (fun v18 ev18 => ?_)
    refine V2_iload_n (i := 2) d_Car_go_26 rfl rfl ?_
    refine V2_isub d_Car_go_27 ?_
    refine V2_topi (fun v19 ev19 => ?_)
    refine V2_mmin d_Car_go_28 lz_Car_47 (Nat.le_of_ble_eq_true rfl) ?_
    refine V2_topi (fun v20 ev20 => ?_)
    refine V2_put d_Car_go_31 fl_Car_13 (by decide) rfl (by decide) rfl ?_
    refine V2_aload_n (i := 0) d_Car_go_34 rfl rfl ?_
    refine V2_bipush (v := 60) d_Car_go_35 rfl ?_
    refine V2_aload_n (i := 0) d_Car_go_37 rfl rfl ?_
    refine V2_get (v := F 35 0) d_Car_go_38 fl_Car_7 (by decide) rfl (by decide) rfl rfl ?_
    refine V2_topi (fun v21 ev21 => ?_)
    refine V2_iconst (v := 1) d_Car_go_41 rfl ?_
    refine V2_iadd d_Car_go_42 ?_
    refine V2_topi (fun v22 ev22 => ?_)
    refine V2_mmin d_Car_go_43 lz_Car_47 (Nat.le_of_ble_eq_true rfl) ?_
    refine V2_topi (fun v23 ev23 => ?_)
    refine V2_put d_Car_go_46 fl_Car_7 (by decide) rfl (by decide) rfl ?_
    refine V2_aload_n (i := 0) d_Car_go_49 rfl rfl ?_
    refine V2_iconst (v := 0) d_Car_go_50 rfl ?_
    refine V2_aload_n (i := 0) d_Car_go_51 rfl rfl ?_
    refine V2_get (v := F 35 4) d_Car_go_52 fl_Car_22 (by decide) rfl (by decide) rfl rfl ?_
    refine V2_topi (fun v24 ev24 => ?_)
    refine V2_iconst (v := 1) d_Car_go_55 rfl ?_
    refine V2_isub d_Car_go_56 ?_
    refine V2_topi (fun v25 ev25 => ?_)
    refine V2_mmax d_Car_go_57 lz_Car_41 (Nat.le_of_ble_eq_true rfl) ?_
    refine V2_topi (fun v26 ev26 => ?_)
    refine V2_put d_Car_go_60 fl_Car_22 (by decide) rfl (by decide) rfl ?_
    refine V2_iload (i := 5) d_Car_go_63 rfl ?_
    refine V2_if_eq (tgt := 72) d_Car_go_65 rfl (fun c => (by first | exact absurd c (by decide) | exact absurd (by decide) c)) (fun _ => ?_)
    refine V2_iconst (v := 0) d_Car_go_68 rfl ?_
    refine V2_goto (tgt := 73) d_Car_go_69 rfl ?_
    refine V2_istore (i := 6) (l' := [some (.ref 35), some (.int gas), some (.int grip), some (.int push), some (.int rub), some (.int (1 : Int32)), some (.int (0 : Int32))]) d_Car_go_73 (xst_i (Nat.le_of_ble_eq_true rfl) rfl rfl) ?_
    refine V2_aload_n (i := 0) d_Car_go_75 rfl rfl ?_
    refine V2_iconst (v := 0) d_Car_go_76 rfl ?_
    refine V2_bipush (v := 99) d_Car_go_77 rfl ?_
    refine V2_aload_n (i := 0) d_Car_go_79 rfl rfl ?_
    refine V2_get (v := F 35 2) d_Car_go_80 fl_Car_16 (by decide) rfl (by decide) rfl rfl ?_
    refine V2_topi (fun v27 ev27 => ?_)
    refine V2_iload (i := 6) d_Car_go_83 rfl ?_
    refine V2_iadd d_Car_go_85 ?_
    refine V2_topi (fun v28 ev28 => ?_)
    refine V2_iload_n (i := 3) d_Car_go_86 rfl rfl ?_
    refine V2_iadd d_Car_go_87 ?_
    refine V2_topi (fun v29 ev29 => ?_)
    refine V2_iload (i := 4) d_Car_go_88 rfl ?_
    refine V2_isub d_Car_go_90 ?_
    refine V2_topi (fun v30 ev30 => ?_)
    refine V2_mmin d_Car_go_91 lz_Car_47 (Nat.le_of_ble_eq_true rfl) ?_
    refine V2_topi (fun v31 ev31 => ?_)
    refine V2_mmax d_Car_go_94 lz_Car_41 (Nat.le_of_ble_eq_true rfl) ?_
    refine V2_topi (fun v32 ev32 => ?_)
    refine V2_put d_Car_go_97 fl_Car_16 (by decide) rfl (by decide) rfl ?_
    refine V2_aload_n (i := 0) d_Car_go_100 rfl rfl ?_
    refine V2_iconst (v := 1) d_Car_go_101 rfl ?_
    refine V2_aload_n (i := 0) d_Car_go_102 rfl rfl ?_
    refine V2_get (v := F 35 3) d_Car_go_103 fl_Car_19 (by decide) rfl (by decide) rfl rfl ?_
    refine V2_topi (fun v33 ev33 => ?_)
    refine V2_isub d_Car_go_106 ?_
    refine V2_topi (fun v34 ev34 => ?_)
    refine V2_put d_Car_go_107 fl_Car_19 (by decide) rfl (by decide) rfl ?_
    refine V2_aload_n (i := 0) d_Car_go_110 rfl rfl ?_
    refine V2_dup d_Car_go_111 rfl ?_
    refine V2_get (v := F 35 5) d_Car_go_112 fl_Car_25 (by decide) rfl (by decide) rfl rfl ?_
    refine V2_topi (fun v35 ev35 => ?_)
    refine V2_iconst (v := 1) d_Car_go_115 rfl ?_
    refine V2_iadd d_Car_go_116 ?_
    refine V2_topi (fun v36 ev36 => ?_)
    refine V2_put d_Car_go_117 fl_Car_25 (by decide) rfl (by decide) rfl ?_
    refine V2_aload_n (i := 0) d_Car_go_120 rfl rfl ?_
    refine V2_callV [] d_Car_go_121 rfl rfl lk_Car_50 mo_Car_isOverTheRim (by decide) rfl rfl rfl (Nat.le_of_ble_eq_true rfl) (Nat.le_of_ble_eq_true rfl) ?_
    refine V2.to (l' := [some (.ref 35)]) ?_ rfl rfl rfl rfl
    refine V2_aload_n (i := 0) d_Car_isOverTheRim_0 rfl rfl ?_
    refine V2_get (v := v32) d_Car_isOverTheRim_1 fl_Car_16 (by decide) rfl (by decide) rfl rfl ?_
    refine V2_aload_n (i := 0) d_Car_isOverTheRim_4 rfl rfl ?_
    refine V2_get (v := v23) d_Car_isOverTheRim_5 fl_Car_7 (by decide) rfl (by decide) rfl rfl ?_
    refine V2_icmp_lt (tgt := 15) d_Car_isOverTheRim_8 rfl (fun c37 => ?_) (fun c37 => ?_)
    · refine V2_iconst (v := 0) d_Car_isOverTheRim_15 rfl ?_
      refine V2_zreturn d_Car_isOverTheRim_16 rfl (by decide) ?_
      refine V2.to (st' := [.int (0 : Int32)]) ?_ rfl rfl rfl rfl
      refine V2_if_eq (tgt := 148) d_Car_go_124 rfl (fun _ => ?_) (fun c => (by first | exact absurd c (by decide) | exact absurd (by decide) c))
      refine V2_iload (i := 5) d_Car_go_148 rfl ?_
      refine V2_zreturn d_Car_go_150 rfl (by decide) ?_
      have hs : (grip < gas) := by have h9 := c1; exact Int32.not_le.mp h9
      have ho : ¬ (cDepth (F 35) gas grip ≤ cHeight (F 35) gas grip push rub) := by
        have h9 := c37
        subst ev36 ev35 ev34 ev33 ev32 ev31 ev30 ev29 ev28 ev27 ev26 ev25 ev24 ev23 ev22 ev21 ev20 ev19 ev18 ev17
        simp only [cDepth, cHeight, mn, mx, hs, if_true, if_false]
        exact Int32.not_le.mpr h9
      refine xQi hQ ?_ ?_
      · exact (xb_1 hs).symm
      · subst ev36 ev35 ev34 ev33 ev32 ev31 ev30 ev29 ev28 ev27 ev26 ev25 ev24 ev23 ev22 ev21 ev20 ev19 ev18 ev17
        funext a b
        by_cases hk : a = 35
        · subst hk
          rcases b with _ | _ | _ | _ | _ | _ | _ | _ | b <;> simp [xp, xrw, goC, ho] <;> simp [cDepth, cIce, cSand, cHeight, mn, mx, hs]
        · simp [xp, xrw, hk]
    · refine V2_iconst (v := 1) d_Car_isOverTheRim_11 rfl ?_
      refine V2_goto (tgt := 16) d_Car_isOverTheRim_12 rfl ?_
      refine V2_zreturn d_Car_isOverTheRim_16 rfl (by decide) ?_
      refine V2.to (st' := [.int (1 : Int32)]) ?_ rfl rfl rfl rfl
      refine V2_if_eq (tgt := 148) d_Car_go_124 rfl (fun c => (by first | exact absurd c (by decide) | exact absurd (by decide) c)) (fun _ => ?_)
      refine V2_aload_n (i := 0) d_Car_go_127 rfl rfl ?_
      refine V2_iconst (v := 1) d_Car_go_128 rfl ?_
      refine V2_putz d_Car_go_129 fl_Car_31 (by decide) rfl (by decide) rfl (by decide) ?_
      refine V2_aload_n (i := 0) d_Car_go_132 rfl rfl ?_
      refine V2_sipush (v := 9999) d_Car_go_133 rfl ?_
      refine V2_aload_n (i := 0) d_Car_go_136 rfl rfl ?_
      refine V2_get (v := F 35 6) d_Car_go_137 fl_Car_28 (by decide) rfl (by decide) rfl rfl ?_
      refine V2_topi (fun v38 ev38 => ?_)
      refine V2_iconst (v := 1) d_Car_go_140 rfl ?_
      refine V2_iadd d_Car_go_141 ?_
      refine V2_topi (fun v39 ev39 => ?_)
      refine V2_mmin d_Car_go_142 lz_Car_47 (Nat.le_of_ble_eq_true rfl) ?_
      refine V2_topi (fun v40 ev40 => ?_)
      refine V2_put d_Car_go_145 fl_Car_28 (by decide) rfl (by decide) rfl ?_
      refine V2_iload (i := 5) d_Car_go_148 rfl ?_
      refine V2_zreturn d_Car_go_150 rfl (by decide) ?_
      have hs : (grip < gas) := by have h9 := c1; exact Int32.not_le.mp h9
      have ho : (cDepth (F 35) gas grip ≤ cHeight (F 35) gas grip push rub) := by
        have h9 := c37
        subst ev40 ev39 ev38 ev36 ev35 ev34 ev33 ev32 ev31 ev30 ev29 ev28 ev27 ev26 ev25 ev24 ev23 ev22 ev21 ev20 ev19 ev18 ev17
        simp only [cDepth, cHeight, mn, mx, hs, if_true, if_false]
        exact Int32.not_lt.mp h9
      refine xQi hQ ?_ ?_
      · exact (xb_1 hs).symm
      · subst ev40 ev39 ev38 ev36 ev35 ev34 ev33 ev32 ev31 ev30 ev29 ev28 ev27 ev26 ev25 ev24 ev23 ev22 ev21 ev20 ev19 ev18 ev17
        funext a b
        by_cases hk : a = 35
        · subst hk
          rcases b with _ | _ | _ | _ | _ | _ | _ | _ | b <;> simp [xp, xrw, goC, ho] <;> simp [cDepth, cIce, cSand, cHeight, mn, mx, hs]
        · simp [xp, xrw, hk]
set_option maxHeartbeats 1000000 in
theorem c_Car_go_43 {L : Nat} {xs : Nat → Int32} {d : Nat} {Q : Option Value → xF → Prop} {F : xF} {gas grip push rub : Int32}  (hQ : Q (some (.int (xb (grip < gas)))) (xrw F 43 (goC (F 43) gas grip push rub))) : V2 L xs (d + 1) m_Car_go 0 (xEntry [.ref 43, .int gas, .int grip, .int push, .int rub] 7) [] F Q := by
  refine V2.to (l' := [some (.ref 43), some (.int gas), some (.int grip), some (.int push), some (.int rub), none, none]) ?_ rfl rfl rfl rfl
  refine V2_iload_n (i := 1) d_Car_go_0 rfl rfl ?_
  refine V2_iload_n (i := 2) d_Car_go_1 rfl rfl ?_
  refine V2_icmp_le (tgt := 9) d_Car_go_2 rfl (fun c1 => ?_) (fun c1 => ?_)
  · refine V2_iconst (v := 0) d_Car_go_9 rfl ?_
    refine V2_istore (i := 5) (l' := [some (.ref 43), some (.int gas), some (.int grip), some (.int push), some (.int rub), some (.int (0 : Int32)), none]) d_Car_go_10 (xst_i (Nat.le_of_ble_eq_true rfl) rfl rfl) ?_
    refine V2_iload (i := 5) d_Car_go_12 rfl ?_
    refine V2_if_eq (tgt := 63) d_Car_go_14 rfl (fun _ => ?_) (fun c => (by first | exact absurd c (by decide) | exact absurd (by decide) c))
    refine V2_iload (i := 5) d_Car_go_63 rfl ?_
    refine V2_if_eq (tgt := 72) d_Car_go_65 rfl (fun _ => ?_) (fun c => (by first | exact absurd c (by decide) | exact absurd (by decide) c))
    refine V2_iload_n (i := 1) d_Car_go_72 rfl rfl ?_
    refine V2_istore (i := 6) (l' := [some (.ref 43), some (.int gas), some (.int grip), some (.int push), some (.int rub), some (.int (0 : Int32)), some (.int gas)]) d_Car_go_73 (xst_i (Nat.le_of_ble_eq_true rfl) rfl rfl) ?_
    refine V2_aload_n (i := 0) d_Car_go_75 rfl rfl ?_
    refine V2_iconst (v := 0) d_Car_go_76 rfl ?_
    refine V2_bipush (v := 99) d_Car_go_77 rfl ?_
    refine V2_aload_n (i := 0) d_Car_go_79 rfl rfl ?_
    refine V2_get (v := F 43 2) d_Car_go_80 fl_Car_16 (by decide) rfl (by decide) rfl rfl ?_
    refine V2_topi (fun v2 ev2 => ?_)
    refine V2_iload (i := 6) d_Car_go_83 rfl ?_
    refine V2_iadd d_Car_go_85 ?_
    refine V2_topi (fun v3 ev3 => ?_)
    refine V2_iload_n (i := 3) d_Car_go_86 rfl rfl ?_
    refine V2_iadd d_Car_go_87 ?_
    refine V2_topi (fun v4 ev4 => ?_)
    refine V2_iload (i := 4) d_Car_go_88 rfl ?_
    refine V2_isub d_Car_go_90 ?_
    refine V2_topi (fun v5 ev5 => ?_)
    refine V2_mmin d_Car_go_91 lz_Car_47 (Nat.le_of_ble_eq_true rfl) ?_
    refine V2_topi (fun v6 ev6 => ?_)
    refine V2_mmax d_Car_go_94 lz_Car_41 (Nat.le_of_ble_eq_true rfl) ?_
    refine V2_topi (fun v7 ev7 => ?_)
    refine V2_put d_Car_go_97 fl_Car_16 (by decide) rfl (by decide) rfl ?_
    refine V2_aload_n (i := 0) d_Car_go_100 rfl rfl ?_
    refine V2_iconst (v := 1) d_Car_go_101 rfl ?_
    refine V2_aload_n (i := 0) d_Car_go_102 rfl rfl ?_
    refine V2_get (v := F 43 3) d_Car_go_103 fl_Car_19 (by decide) rfl (by decide) rfl rfl ?_
    refine V2_topi (fun v8 ev8 => ?_)
    refine V2_isub d_Car_go_106 ?_
    refine V2_topi (fun v9 ev9 => ?_)
    refine V2_put d_Car_go_107 fl_Car_19 (by decide) rfl (by decide) rfl ?_
    refine V2_aload_n (i := 0) d_Car_go_110 rfl rfl ?_
    refine V2_dup d_Car_go_111 rfl ?_
    refine V2_get (v := F 43 5) d_Car_go_112 fl_Car_25 (by decide) rfl (by decide) rfl rfl ?_
    refine V2_topi (fun v10 ev10 => ?_)
    refine V2_iconst (v := 1) d_Car_go_115 rfl ?_
    refine V2_iadd d_Car_go_116 ?_
    refine V2_topi (fun v11 ev11 => ?_)
    refine V2_put d_Car_go_117 fl_Car_25 (by decide) rfl (by decide) rfl ?_
    refine V2_aload_n (i := 0) d_Car_go_120 rfl rfl ?_
    refine V2_callV [] d_Car_go_121 rfl rfl lk_Car_50 mo_Car_isOverTheRim (by decide) rfl rfl rfl (Nat.le_of_ble_eq_true rfl) (Nat.le_of_ble_eq_true rfl) ?_
    refine V2.to (l' := [some (.ref 43)]) ?_ rfl rfl rfl rfl
    refine V2_aload_n (i := 0) d_Car_isOverTheRim_0 rfl rfl ?_
    refine V2_get (v := v7) d_Car_isOverTheRim_1 fl_Car_16 (by decide) rfl (by decide) rfl rfl ?_
    refine V2_aload_n (i := 0) d_Car_isOverTheRim_4 rfl rfl ?_
    refine V2_get (v := F 43 0) d_Car_isOverTheRim_5 fl_Car_7 (by decide) rfl (by decide) rfl rfl ?_
    refine V2_topi (fun v12 ev12 => ?_)
    refine V2_icmp_lt (tgt := 15) d_Car_isOverTheRim_8 rfl (fun c13 => ?_) (fun c13 => ?_)
    · refine V2_iconst (v := 0) d_Car_isOverTheRim_15 rfl ?_
      refine V2_zreturn d_Car_isOverTheRim_16 rfl (by decide) ?_
      refine V2.to (st' := [.int (0 : Int32)]) ?_ rfl rfl rfl rfl
      refine V2_if_eq (tgt := 148) d_Car_go_124 rfl (fun _ => ?_) (fun c => (by first | exact absurd c (by decide) | exact absurd (by decide) c))
      refine V2_iload (i := 5) d_Car_go_148 rfl ?_
      refine V2_zreturn d_Car_go_150 rfl (by decide) ?_
      have hs : ¬ (grip < gas) := by have h9 := c1; exact Int32.not_lt.mpr h9
      have ho : ¬ (cDepth (F 43) gas grip ≤ cHeight (F 43) gas grip push rub) := by
        have h9 := c13
        subst ev12 ev11 ev10 ev9 ev8 ev7 ev6 ev5 ev4 ev3 ev2
        simp only [cDepth, cHeight, mn, mx, hs, if_true, if_false]
        exact Int32.not_le.mpr h9
      refine xQi hQ ?_ ?_
      · exact (xb_0 hs).symm
      · subst ev12 ev11 ev10 ev9 ev8 ev7 ev6 ev5 ev4 ev3 ev2
        funext a b
        by_cases hk : a = 43
        · subst hk
          rcases b with _ | _ | _ | _ | _ | _ | _ | _ | b <;> simp [xp, xrw, goC, ho] <;> simp [cDepth, cIce, cSand, cHeight, mn, mx, hs]
        · simp [xp, xrw, hk]
    · refine V2_iconst (v := 1) d_Car_isOverTheRim_11 rfl ?_
      refine V2_goto (tgt := 16) d_Car_isOverTheRim_12 rfl ?_
      refine V2_zreturn d_Car_isOverTheRim_16 rfl (by decide) ?_
      refine V2.to (st' := [.int (1 : Int32)]) ?_ rfl rfl rfl rfl
      refine V2_if_eq (tgt := 148) d_Car_go_124 rfl (fun c => (by first | exact absurd c (by decide) | exact absurd (by decide) c)) (fun _ => ?_)
      refine V2_aload_n (i := 0) d_Car_go_127 rfl rfl ?_
      refine V2_iconst (v := 1) d_Car_go_128 rfl ?_
      refine V2_putz d_Car_go_129 fl_Car_31 (by decide) rfl (by decide) rfl (by decide) ?_
      refine V2_aload_n (i := 0) d_Car_go_132 rfl rfl ?_
      refine V2_sipush (v := 9999) d_Car_go_133 rfl ?_
      refine V2_aload_n (i := 0) d_Car_go_136 rfl rfl ?_
      refine V2_get (v := F 43 6) d_Car_go_137 fl_Car_28 (by decide) rfl (by decide) rfl rfl ?_
      refine V2_topi (fun v14 ev14 => ?_)
      refine V2_iconst (v := 1) d_Car_go_140 rfl ?_
      refine V2_iadd d_Car_go_141 ?_
      refine V2_topi (fun v15 ev15 => ?_)
      refine V2_mmin d_Car_go_142 lz_Car_47 (Nat.le_of_ble_eq_true rfl) ?_
      refine V2_topi (fun v16 ev16 => ?_)
      refine V2_put d_Car_go_145 fl_Car_28 (by decide) rfl (by decide) rfl ?_
      refine V2_iload (i := 5) d_Car_go_148 rfl ?_
      refine V2_zreturn d_Car_go_150 rfl (by decide) ?_
      have hs : ¬ (grip < gas) := by have h9 := c1; exact Int32.not_lt.mpr h9
      have ho : (cDepth (F 43) gas grip ≤ cHeight (F 43) gas grip push rub) := by
        have h9 := c13
        subst ev16 ev15 ev14 ev12 ev11 ev10 ev9 ev8 ev7 ev6 ev5 ev4 ev3 ev2
        simp only [cDepth, cHeight, mn, mx, hs, if_true, if_false]
        exact Int32.not_lt.mp h9
      refine xQi hQ ?_ ?_
      · exact (xb_0 hs).symm
      · subst ev16 ev15 ev14 ev12 ev11 ev10 ev9 ev8 ev7 ev6 ev5 ev4 ev3 ev2
        funext a b
        by_cases hk : a = 43
        · subst hk
          rcases b with _ | _ | _ | _ | _ | _ | _ | _ | b <;> simp [xp, xrw, goC, ho] <;> simp [cDepth, cIce, cSand, cHeight, mn, mx, hs]
        · simp [xp, xrw, hk]
  · refine V2_iconst (v := 1) d_Car_go_5 rfl ?_
    refine V2_goto (tgt := 10) d_Car_go_6 rfl ?_
    refine V2_istore (i := 5) (l' := [some (.ref 43), some (.int gas), some (.int grip), some (.int push), some (.int rub), some (.int (1 : Int32)), none]) d_Car_go_10 (xst_i (Nat.le_of_ble_eq_true rfl) rfl rfl) ?_
    refine V2_iload (i := 5) d_Car_go_12 rfl ?_
    refine V2_if_eq (tgt := 63) d_Car_go_14 rfl (fun c => (by first | exact absurd c (by decide) | exact absurd (by decide) c)) (fun _ => ?_)
    refine V2_aload_n (i := 0) d_Car_go_17 rfl rfl ?_
    refine V2_bipush (v := 99) d_Car_go_18 rfl ?_
    refine V2_aload_n (i := 0) d_Car_go_20 rfl rfl ?_
    refine V2_get (v := F 43 1) d_Car_go_21 fl_Car_13 (by decide) rfl (by decide) rfl rfl ?_
    refine V2_topi (fun v17 ev17 => ?_)
    refine V2_iload_n (i := 1) d_Car_go_24 rfl rfl ?_
    refine V2_iadd d_Car_go_25 ?_
    refine V2_topi (fun v18 ev18 => ?_)
    refine V2_iload_n (i := 2) d_Car_go_26 rfl rfl ?_
    refine V2_isub d_Car_go_27 ?_
    refine V2_topi (fun v19 ev19 => ?_)
    refine V2_mmin d_Car_go_28 lz_Car_47 (Nat.le_of_ble_eq_true rfl) ?_
    refine V2_topi (fun v20 ev20 => ?_)
    refine V2_put d_Car_go_31 fl_Car_13 (by decide) rfl (by decide) rfl ?_
    refine V2_aload_n (i := 0) d_Car_go_34 rfl rfl ?_
    refine V2_bipush (v := 60) d_Car_go_35 rfl ?_
    refine V2_aload_n (i := 0) d_Car_go_37 rfl rfl ?_
    refine V2_get (v := F 43 0) d_Car_go_38 fl_Car_7 (by decide) rfl (by decide) rfl rfl ?_
    refine V2_topi (fun v21 ev21 => ?_)
    refine V2_iconst (v := 1) d_Car_go_41 rfl ?_
    refine V2_iadd d_Car_go_42 ?_
    refine V2_topi (fun v22 ev22 => ?_)
    refine V2_mmin d_Car_go_43 lz_Car_47 (Nat.le_of_ble_eq_true rfl) ?_
    refine V2_topi (fun v23 ev23 => ?_)
    refine V2_put d_Car_go_46 fl_Car_7 (by decide) rfl (by decide) rfl ?_
    refine V2_aload_n (i := 0) d_Car_go_49 rfl rfl ?_
    refine V2_iconst (v := 0) d_Car_go_50 rfl ?_
    refine V2_aload_n (i := 0) d_Car_go_51 rfl rfl ?_
    refine V2_get (v := F 43 4) d_Car_go_52 fl_Car_22 (by decide) rfl (by decide) rfl rfl ?_
    refine V2_topi (fun v24 ev24 => ?_)
    refine V2_iconst (v := 1) d_Car_go_55 rfl ?_
    refine V2_isub d_Car_go_56 ?_
    refine V2_topi (fun v25 ev25 => ?_)
    refine V2_mmax d_Car_go_57 lz_Car_41 (Nat.le_of_ble_eq_true rfl) ?_
    refine V2_topi (fun v26 ev26 => ?_)
    refine V2_put d_Car_go_60 fl_Car_22 (by decide) rfl (by decide) rfl ?_
    refine V2_iload (i := 5) d_Car_go_63 rfl ?_
    refine V2_if_eq (tgt := 72) d_Car_go_65 rfl (fun c => (by first | exact absurd c (by decide) | exact absurd (by decide) c)) (fun _ => ?_)
    refine V2_iconst (v := 0) d_Car_go_68 rfl ?_
    refine V2_goto (tgt := 73) d_Car_go_69 rfl ?_
    refine V2_istore (i := 6) (l' := [some (.ref 43), some (.int gas), some (.int grip), some (.int push), some (.int rub), some (.int (1 : Int32)), some (.int (0 : Int32))]) d_Car_go_73 (xst_i (Nat.le_of_ble_eq_true rfl) rfl rfl) ?_
    refine V2_aload_n (i := 0) d_Car_go_75 rfl rfl ?_
    refine V2_iconst (v := 0) d_Car_go_76 rfl ?_
    refine V2_bipush (v := 99) d_Car_go_77 rfl ?_
    refine V2_aload_n (i := 0) d_Car_go_79 rfl rfl ?_
    refine V2_get (v := F 43 2) d_Car_go_80 fl_Car_16 (by decide) rfl (by decide) rfl rfl ?_
    refine V2_topi (fun v27 ev27 => ?_)
    refine V2_iload (i := 6) d_Car_go_83 rfl ?_
    refine V2_iadd d_Car_go_85 ?_
    refine V2_topi (fun v28 ev28 => ?_)
    refine V2_iload_n (i := 3) d_Car_go_86 rfl rfl ?_
    refine V2_iadd d_Car_go_87 ?_
    refine V2_topi (fun v29 ev29 => ?_)
    refine V2_iload (i := 4) d_Car_go_88 rfl ?_
    refine V2_isub d_Car_go_90 ?_
    refine V2_topi (fun v30 ev30 => ?_)
    refine V2_mmin d_Car_go_91 lz_Car_47 (Nat.le_of_ble_eq_true rfl) ?_
    refine V2_topi (fun v31 ev31 => ?_)
    refine V2_mmax d_Car_go_94 lz_Car_41 (Nat.le_of_ble_eq_true rfl) ?_
    refine V2_topi (fun v32 ev32 => ?_)
    refine V2_put d_Car_go_97 fl_Car_16 (by decide) rfl (by decide) rfl ?_
    refine V2_aload_n (i := 0) d_Car_go_100 rfl rfl ?_
    refine V2_iconst (v := 1) d_Car_go_101 rfl ?_
    refine V2_aload_n (i := 0) d_Car_go_102 rfl rfl ?_
    refine V2_get (v := F 43 3) d_Car_go_103 fl_Car_19 (by decide) rfl (by decide) rfl rfl ?_
    refine V2_topi (fun v33 ev33 => ?_)
    refine V2_isub d_Car_go_106 ?_
    refine V2_topi (fun v34 ev34 => ?_)
    refine V2_put d_Car_go_107 fl_Car_19 (by decide) rfl (by decide) rfl ?_
    refine V2_aload_n (i := 0) d_Car_go_110 rfl rfl ?_
    refine V2_dup d_Car_go_111 rfl ?_
    refine V2_get (v := F 43 5) d_Car_go_112 fl_Car_25 (by decide) rfl (by decide) rfl rfl ?_
    refine V2_topi (fun v35 ev35 => ?_)
    refine V2_iconst (v := 1) d_Car_go_115 rfl ?_
    refine V2_iadd d_Car_go_116 ?_
    refine V2_topi (fun v36 ev36 => ?_)
    refine V2_put d_Car_go_117 fl_Car_25 (by decide) rfl (by decide) rfl ?_
    refine V2_aload_n (i := 0) d_Car_go_120 rfl rfl ?_
    refine V2_callV [] d_Car_go_121 rfl rfl lk_Car_50 mo_Car_isOverTheRim (by decide) rfl rfl rfl (Nat.le_of_ble_eq_true rfl) (Nat.le_of_ble_eq_true rfl) ?_
    refine V2.to (l' := [some (.ref 43)]) ?_ rfl rfl rfl rfl
    refine V2_aload_n (i := 0) d_Car_isOverTheRim_0 rfl rfl ?_
    refine V2_get (v := v32) d_Car_isOverTheRim_1 fl_Car_16 (by decide) rfl (by decide) rfl rfl ?_
    refine V2_aload_n (i := 0) d_Car_isOverTheRim_4 rfl rfl ?_
    refine V2_get (v := v23) d_Car_isOverTheRim_5 fl_Car_7 (by decide) rfl (by decide) rfl rfl ?_
    refine V2_icmp_lt (tgt := 15) d_Car_isOverTheRim_8 rfl (fun c37 => ?_) (fun c37 => ?_)
    · refine V2_iconst (v := 0) d_Car_isOverTheRim_15 rfl ?_
      refine V2_zreturn d_Car_isOverTheRim_16 rfl (by decide) ?_
      refine V2.to (st' := [.int (0 : Int32)]) ?_ rfl rfl rfl rfl
      refine V2_if_eq (tgt := 148) d_Car_go_124 rfl (fun _ => ?_) (fun c => (by first | exact absurd c (by decide) | exact absurd (by decide) c))
      refine V2_iload (i := 5) d_Car_go_148 rfl ?_
      refine V2_zreturn d_Car_go_150 rfl (by decide) ?_
      have hs : (grip < gas) := by have h9 := c1; exact Int32.not_le.mp h9
      have ho : ¬ (cDepth (F 43) gas grip ≤ cHeight (F 43) gas grip push rub) := by
        have h9 := c37
        subst ev36 ev35 ev34 ev33 ev32 ev31 ev30 ev29 ev28 ev27 ev26 ev25 ev24 ev23 ev22 ev21 ev20 ev19 ev18 ev17
        simp only [cDepth, cHeight, mn, mx, hs, if_true, if_false]
        exact Int32.not_le.mpr h9
      refine xQi hQ ?_ ?_
      · exact (xb_1 hs).symm
      · subst ev36 ev35 ev34 ev33 ev32 ev31 ev30 ev29 ev28 ev27 ev26 ev25 ev24 ev23 ev22 ev21 ev20 ev19 ev18 ev17
        funext a b
        by_cases hk : a = 43
        · subst hk
          rcases b with _ | _ | _ | _ | _ | _ | _ | _ | b <;> simp [xp, xrw, goC, ho] <;> simp [cDepth, cIce, cSand, cHeight, mn, mx, hs]
        · simp [xp, xrw, hk]
    · refine V2_iconst (v := 1) d_Car_isOverTheRim_11 rfl ?_
      refine V2_goto (tgt := 16) d_Car_isOverTheRim_12 rfl ?_
      refine V2_zreturn d_Car_isOverTheRim_16 rfl (by decide) ?_
      refine V2.to (st' := [.int (1 : Int32)]) ?_ rfl rfl rfl rfl
      refine V2_if_eq (tgt := 148) d_Car_go_124 rfl (fun c => (by first | exact absurd c (by decide) | exact absurd (by decide) c)) (fun _ => ?_)
      refine V2_aload_n (i := 0) d_Car_go_127 rfl rfl ?_
      refine V2_iconst (v := 1) d_Car_go_128 rfl ?_
      refine V2_putz d_Car_go_129 fl_Car_31 (by decide) rfl (by decide) rfl (by decide) ?_
      refine V2_aload_n (i := 0) d_Car_go_132 rfl rfl ?_
      refine V2_sipush (v := 9999) d_Car_go_133 rfl ?_
      refine V2_aload_n (i := 0) d_Car_go_136 rfl rfl ?_
      refine V2_get (v := F 43 6) d_Car_go_137 fl_Car_28 (by decide) rfl (by decide) rfl rfl ?_
      refine V2_topi (fun v38 ev38 => ?_)
      refine V2_iconst (v := 1) d_Car_go_140 rfl ?_
      refine V2_iadd d_Car_go_141 ?_
      refine V2_topi (fun v39 ev39 => ?_)
      refine V2_mmin d_Car_go_142 lz_Car_47 (Nat.le_of_ble_eq_true rfl) ?_
      refine V2_topi (fun v40 ev40 => ?_)
      refine V2_put d_Car_go_145 fl_Car_28 (by decide) rfl (by decide) rfl ?_
      refine V2_iload (i := 5) d_Car_go_148 rfl ?_
      refine V2_zreturn d_Car_go_150 rfl (by decide) ?_
      have hs : (grip < gas) := by have h9 := c1; exact Int32.not_le.mp h9
      have ho : (cDepth (F 43) gas grip ≤ cHeight (F 43) gas grip push rub) := by
        have h9 := c37
        subst ev40 ev39 ev38 ev36 ev35 ev34 ev33 ev32 ev31 ev30 ev29 ev28 ev27 ev26 ev25 ev24 ev23 ev22 ev21 ev20 ev19 ev18 ev17
        simp only [cDepth, cHeight, mn, mx, hs, if_true, if_false]
        exact Int32.not_lt.mp h9
      refine xQi hQ ?_ ?_
      · exact (xb_1 hs).symm
      · subst ev40 ev39 ev38 ev36 ev35 ev34 ev33 ev32 ev31 ev30 ev29 ev28 ev27 ev26 ev25 ev24 ev23 ev22 ev21 ev20 ev19 ev18 ev17
        funext a b
        by_cases hk : a = 43
        · subst hk
          rcases b with _ | _ | _ | _ | _ | _ | _ | _ | b <;> simp [xp, xrw, goC, ho] <;> simp [cDepth, cIce, cSand, cHeight, mn, mx, hs]
        · simp [xp, xrw, hk]
set_option maxHeartbeats 1000000 in
theorem c_Car_go_44 {L : Nat} {xs : Nat → Int32} {d : Nat} {Q : Option Value → xF → Prop} {F : xF} {gas grip push rub : Int32}  (hQ : Q (some (.int (xb (grip < gas)))) (xrw F 44 (goC (F 44) gas grip push rub))) : V2 L xs (d + 1) m_Car_go 0 (xEntry [.ref 44, .int gas, .int grip, .int push, .int rub] 7) [] F Q := by
  refine V2.to (l' := [some (.ref 44), some (.int gas), some (.int grip), some (.int push), some (.int rub), none, none]) ?_ rfl rfl rfl rfl
  refine V2_iload_n (i := 1) d_Car_go_0 rfl rfl ?_
  refine V2_iload_n (i := 2) d_Car_go_1 rfl rfl ?_
  refine V2_icmp_le (tgt := 9) d_Car_go_2 rfl (fun c1 => ?_) (fun c1 => ?_)
  · refine V2_iconst (v := 0) d_Car_go_9 rfl ?_
    refine V2_istore (i := 5) (l' := [some (.ref 44), some (.int gas), some (.int grip), some (.int push), some (.int rub), some (.int (0 : Int32)), none]) d_Car_go_10 (xst_i (Nat.le_of_ble_eq_true rfl) rfl rfl) ?_
    refine V2_iload (i := 5) d_Car_go_12 rfl ?_
    refine V2_if_eq (tgt := 63) d_Car_go_14 rfl (fun _ => ?_) (fun c => (by first | exact absurd c (by decide) | exact absurd (by decide) c))
    refine V2_iload (i := 5) d_Car_go_63 rfl ?_
    refine V2_if_eq (tgt := 72) d_Car_go_65 rfl (fun _ => ?_) (fun c => (by first | exact absurd c (by decide) | exact absurd (by decide) c))
    refine V2_iload_n (i := 1) d_Car_go_72 rfl rfl ?_
    refine V2_istore (i := 6) (l' := [some (.ref 44), some (.int gas), some (.int grip), some (.int push), some (.int rub), some (.int (0 : Int32)), some (.int gas)]) d_Car_go_73 (xst_i (Nat.le_of_ble_eq_true rfl) rfl rfl) ?_
    refine V2_aload_n (i := 0) d_Car_go_75 rfl rfl ?_
    refine V2_iconst (v := 0) d_Car_go_76 rfl ?_
    refine V2_bipush (v := 99) d_Car_go_77 rfl ?_
    refine V2_aload_n (i := 0) d_Car_go_79 rfl rfl ?_
    refine V2_get (v := F 44 2) d_Car_go_80 fl_Car_16 (by decide) rfl (by decide) rfl rfl ?_
    refine V2_topi (fun v2 ev2 => ?_)
    refine V2_iload (i := 6) d_Car_go_83 rfl ?_
    refine V2_iadd d_Car_go_85 ?_
    refine V2_topi (fun v3 ev3 => ?_)
    refine V2_iload_n (i := 3) d_Car_go_86 rfl rfl ?_
    refine V2_iadd d_Car_go_87 ?_
    refine V2_topi (fun v4 ev4 => ?_)
    refine V2_iload (i := 4) d_Car_go_88 rfl ?_
    refine V2_isub d_Car_go_90 ?_
    refine V2_topi (fun v5 ev5 => ?_)
    refine V2_mmin d_Car_go_91 lz_Car_47 (Nat.le_of_ble_eq_true rfl) ?_
    refine V2_topi (fun v6 ev6 => ?_)
    refine V2_mmax d_Car_go_94 lz_Car_41 (Nat.le_of_ble_eq_true rfl) ?_
    refine V2_topi (fun v7 ev7 => ?_)
    refine V2_put d_Car_go_97 fl_Car_16 (by decide) rfl (by decide) rfl ?_
    refine V2_aload_n (i := 0) d_Car_go_100 rfl rfl ?_
    refine V2_iconst (v := 1) d_Car_go_101 rfl ?_
    refine V2_aload_n (i := 0) d_Car_go_102 rfl rfl ?_
    refine V2_get (v := F 44 3) d_Car_go_103 fl_Car_19 (by decide) rfl (by decide) rfl rfl ?_
    refine V2_topi (fun v8 ev8 => ?_)
    refine V2_isub d_Car_go_106 ?_
    refine V2_topi (fun v9 ev9 => ?_)
    refine V2_put d_Car_go_107 fl_Car_19 (by decide) rfl (by decide) rfl ?_
    refine V2_aload_n (i := 0) d_Car_go_110 rfl rfl ?_
    refine V2_dup d_Car_go_111 rfl ?_
    refine V2_get (v := F 44 5) d_Car_go_112 fl_Car_25 (by decide) rfl (by decide) rfl rfl ?_
    refine V2_topi (fun v10 ev10 => ?_)
    refine V2_iconst (v := 1) d_Car_go_115 rfl ?_
    refine V2_iadd d_Car_go_116 ?_
    refine V2_topi (fun v11 ev11 => ?_)
    refine V2_put d_Car_go_117 fl_Car_25 (by decide) rfl (by decide) rfl ?_
    refine V2_aload_n (i := 0) d_Car_go_120 rfl rfl ?_
    refine V2_callV [] d_Car_go_121 rfl rfl lk_Car_50 mo_Car_isOverTheRim (by decide) rfl rfl rfl (Nat.le_of_ble_eq_true rfl) (Nat.le_of_ble_eq_true rfl) ?_
    refine V2.to (l' := [some (.ref 44)]) ?_ rfl rfl rfl rfl
    refine V2_aload_n (i := 0) d_Car_isOverTheRim_0 rfl rfl ?_
    refine V2_get (v := v7) d_Car_isOverTheRim_1 fl_Car_16 (by decide) rfl (by decide) rfl rfl ?_
    refine V2_aload_n (i := 0) d_Car_isOverTheRim_4 rfl rfl ?_
    refine V2_get (v := F 44 0) d_Car_isOverTheRim_5 fl_Car_7 (by decide) rfl (by decide) rfl rfl ?_
    refine V2_topi (fun v12 ev12 => ?_)
    refine V2_icmp_lt (tgt := 15) d_Car_isOverTheRim_8 rfl (fun c13 => ?_) (fun c13 => ?_)
    · refine V2_iconst (v := 0) d_Car_isOverTheRim_15 rfl ?_
      refine V2_zreturn d_Car_isOverTheRim_16 rfl (by decide) ?_
      refine V2.to (st' := [.int (0 : Int32)]) ?_ rfl rfl rfl rfl
      refine V2_if_eq (tgt := 148) d_Car_go_124 rfl (fun _ => ?_) (fun c => (by first | exact absurd c (by decide) | exact absurd (by decide) c))
      refine V2_iload (i := 5) d_Car_go_148 rfl ?_
      refine V2_zreturn d_Car_go_150 rfl (by decide) ?_
      have hs : ¬ (grip < gas) := by have h9 := c1; exact Int32.not_lt.mpr h9
      have ho : ¬ (cDepth (F 44) gas grip ≤ cHeight (F 44) gas grip push rub) := by
        have h9 := c13
        subst ev12 ev11 ev10 ev9 ev8 ev7 ev6 ev5 ev4 ev3 ev2
        simp only [cDepth, cHeight, mn, mx, hs, if_true, if_false]
        exact Int32.not_le.mpr h9
      refine xQi hQ ?_ ?_
      · exact (xb_0 hs).symm
      · subst ev12 ev11 ev10 ev9 ev8 ev7 ev6 ev5 ev4 ev3 ev2
        funext a b
        by_cases hk : a = 44
        · subst hk
          rcases b with _ | _ | _ | _ | _ | _ | _ | _ | b <;> simp [xp, xrw, goC, ho] <;> simp [cDepth, cIce, cSand, cHeight, mn, mx, hs]
        · simp [xp, xrw, hk]
    · refine V2_iconst (v := 1) d_Car_isOverTheRim_11 rfl ?_
      refine V2_goto (tgt := 16) d_Car_isOverTheRim_12 rfl ?_
      refine V2_zreturn d_Car_isOverTheRim_16 rfl (by decide) ?_
      refine V2.to (st' := [.int (1 : Int32)]) ?_ rfl rfl rfl rfl
      refine V2_if_eq (tgt := 148) d_Car_go_124 rfl (fun c => (by first | exact absurd c (by decide) | exact absurd (by decide) c)) (fun _ => ?_)
      refine V2_aload_n (i := 0) d_Car_go_127 rfl rfl ?_
      refine V2_iconst (v := 1) d_Car_go_128 rfl ?_
      refine V2_putz d_Car_go_129 fl_Car_31 (by decide) rfl (by decide) rfl (by decide) ?_
      refine V2_aload_n (i := 0) d_Car_go_132 rfl rfl ?_
      refine V2_sipush (v := 9999) d_Car_go_133 rfl ?_
      refine V2_aload_n (i := 0) d_Car_go_136 rfl rfl ?_
      refine V2_get (v := F 44 6) d_Car_go_137 fl_Car_28 (by decide) rfl (by decide) rfl rfl ?_
      refine V2_topi (fun v14 ev14 => ?_)
      refine V2_iconst (v := 1) d_Car_go_140 rfl ?_
      refine V2_iadd d_Car_go_141 ?_
      refine V2_topi (fun v15 ev15 => ?_)
      refine V2_mmin d_Car_go_142 lz_Car_47 (Nat.le_of_ble_eq_true rfl) ?_
      refine V2_topi (fun v16 ev16 => ?_)
      refine V2_put d_Car_go_145 fl_Car_28 (by decide) rfl (by decide) rfl ?_
      refine V2_iload (i := 5) d_Car_go_148 rfl ?_
      refine V2_zreturn d_Car_go_150 rfl (by decide) ?_
      have hs : ¬ (grip < gas) := by have h9 := c1; exact Int32.not_lt.mpr h9
      have ho : (cDepth (F 44) gas grip ≤ cHeight (F 44) gas grip push rub) := by
        have h9 := c13
        subst ev16 ev15 ev14 ev12 ev11 ev10 ev9 ev8 ev7 ev6 ev5 ev4 ev3 ev2
        simp only [cDepth, cHeight, mn, mx, hs, if_true, if_false]
        exact Int32.not_lt.mp h9
      refine xQi hQ ?_ ?_
      · exact (xb_0 hs).symm
      · subst ev16 ev15 ev14 ev12 ev11 ev10 ev9 ev8 ev7 ev6 ev5 ev4 ev3 ev2
        funext a b
        by_cases hk : a = 44
        · subst hk
          rcases b with _ | _ | _ | _ | _ | _ | _ | _ | b <;> simp [xp, xrw, goC, ho] <;> simp [cDepth, cIce, cSand, cHeight, mn, mx, hs]
        · simp [xp, xrw, hk]
  · refine V2_iconst (v := 1) d_Car_go_5 rfl ?_
    refine V2_goto (tgt := 10) d_Car_go_6 rfl ?_
    refine V2_istore (i := 5) (l' := [some (.ref 44), some (.int gas), some (.int grip), some (.int push), some (.int rub), some (.int (1 : Int32)), none]) d_Car_go_10 (xst_i (Nat.le_of_ble_eq_true rfl) rfl rfl) ?_
    refine V2_iload (i := 5) d_Car_go_12 rfl ?_
    refine V2_if_eq (tgt := 63) d_Car_go_14 rfl (fun c => (by first | exact absurd c (by decide) | exact absurd (by decide) c)) (fun _ => ?_)
    refine V2_aload_n (i := 0) d_Car_go_17 rfl rfl ?_
    refine V2_bipush (v := 99) d_Car_go_18 rfl ?_
    refine V2_aload_n (i := 0) d_Car_go_20 rfl rfl ?_
    refine V2_get (v := F 44 1) d_Car_go_21 fl_Car_13 (by decide) rfl (by decide) rfl rfl ?_
    refine V2_topi (fun v17 ev17 => ?_)
    refine V2_iload_n (i := 1) d_Car_go_24 rfl rfl ?_
    refine V2_iadd d_Car_go_25 ?_
    refine V2_topi (fun v18 ev18 => ?_)
    refine V2_iload_n (i := 2) d_Car_go_26 rfl rfl ?_
    refine V2_isub d_Car_go_27 ?_
    refine V2_topi (fun v19 ev19 => ?_)
    refine V2_mmin d_Car_go_28 lz_Car_47 (Nat.le_of_ble_eq_true rfl) ?_
    refine V2_topi (fun v20 ev20 => ?_)
    refine V2_put d_Car_go_31 fl_Car_13 (by decide) rfl (by decide) rfl ?_
    refine V2_aload_n (i := 0) d_Car_go_34 rfl rfl ?_
    refine V2_bipush (v := 60) d_Car_go_35 rfl ?_
    refine V2_aload_n (i := 0) d_Car_go_37 rfl rfl ?_
    refine V2_get (v := F 44 0) d_Car_go_38 fl_Car_7 (by decide) rfl (by decide) rfl rfl ?_
    refine V2_topi (fun v21 ev21 => ?_)
    refine V2_iconst (v := 1) d_Car_go_41 rfl ?_
    refine V2_iadd d_Car_go_42 ?_
    refine V2_topi (fun v22 ev22 => ?_)
    refine V2_mmin d_Car_go_43 lz_Car_47 (Nat.le_of_ble_eq_true rfl) ?_
    refine V2_topi (fun v23 ev23 => ?_)
    refine V2_put d_Car_go_46 fl_Car_7 (by decide) rfl (by decide) rfl ?_
    refine V2_aload_n (i := 0) d_Car_go_49 rfl rfl ?_
    refine V2_iconst (v := 0) d_Car_go_50 rfl ?_
    refine V2_aload_n (i := 0) d_Car_go_51 rfl rfl ?_
    refine V2_get (v := F 44 4) d_Car_go_52 fl_Car_22 (by decide) rfl (by decide) rfl rfl ?_
    refine V2_topi (fun v24 ev24 => ?_)
    refine V2_iconst (v := 1) d_Car_go_55 rfl ?_
    refine V2_isub d_Car_go_56 ?_
    refine V2_topi (fun v25 ev25 => ?_)
    refine V2_mmax d_Car_go_57 lz_Car_41 (Nat.le_of_ble_eq_true rfl) ?_
    refine V2_topi (fun v26 ev26 => ?_)
    refine V2_put d_Car_go_60 fl_Car_22 (by decide) rfl (by decide) rfl ?_
    refine V2_iload (i := 5) d_Car_go_63 rfl ?_
    refine V2_if_eq (tgt := 72) d_Car_go_65 rfl (fun c => (by first | exact absurd c (by decide) | exact absurd (by decide) c)) (fun _ => ?_)
    refine V2_iconst (v := 0) d_Car_go_68 rfl ?_
    refine V2_goto (tgt := 73) d_Car_go_69 rfl ?_
    refine V2_istore (i := 6) (l' := [some (.ref 44), some (.int gas), some (.int grip), some (.int push), some (.int rub), some (.int (1 : Int32)), some (.int (0 : Int32))]) d_Car_go_73 (xst_i (Nat.le_of_ble_eq_true rfl) rfl rfl) ?_
    refine V2_aload_n (i := 0) d_Car_go_75 rfl rfl ?_
    refine V2_iconst (v := 0) d_Car_go_76 rfl ?_
    refine V2_bipush (v := 99) d_Car_go_77 rfl ?_
    refine V2_aload_n (i := 0) d_Car_go_79 rfl rfl ?_
    refine V2_get (v := F 44 2) d_Car_go_80 fl_Car_16 (by decide) rfl (by decide) rfl rfl ?_
    refine V2_topi (fun v27 ev27 => ?_)
    refine V2_iload (i := 6) d_Car_go_83 rfl ?_
    refine V2_iadd d_Car_go_85 ?_
    refine V2_topi (fun v28 ev28 => ?_)
    refine V2_iload_n (i := 3) d_Car_go_86 rfl rfl ?_
    refine V2_iadd d_Car_go_87 ?_
    refine V2_topi (fun v29 ev29 => ?_)
    refine V2_iload (i := 4) d_Car_go_88 rfl ?_
    refine V2_isub d_Car_go_90 ?_
    refine V2_topi (fun v30 ev30 => ?_)
    refine V2_mmin d_Car_go_91 lz_Car_47 (Nat.le_of_ble_eq_true rfl) ?_
    refine V2_topi (fun v31 ev31 => ?_)
    refine V2_mmax d_Car_go_94 lz_Car_41 (Nat.le_of_ble_eq_true rfl) ?_
    refine V2_topi (fun v32 ev32 => ?_)
    refine V2_put d_Car_go_97 fl_Car_16 (by decide) rfl (by decide) rfl ?_
    refine V2_aload_n (i := 0) d_Car_go_100 rfl rfl ?_
    refine V2_iconst (v := 1) d_Car_go_101 rfl ?_
    refine V2_aload_n (i := 0) d_Car_go_102 rfl rfl ?_
    refine V2_get (v := F 44 3) d_Car_go_103 fl_Car_19 (by decide) rfl (by decide) rfl rfl ?_
    refine V2_topi (fun v33 ev33 => ?_)
    refine V2_isub d_Car_go_106 ?_
    refine V2_topi (fun v34 ev34 => ?_)
    refine V2_put d_Car_go_107 fl_Car_19 (by decide) rfl (by decide) rfl ?_
    refine V2_aload_n (i := 0) d_Car_go_110 rfl rfl ?_
    refine V2_dup d_Car_go_111 rfl ?_
    refine V2_get (v := F 44 5) d_Car_go_112 fl_Car_25 (by decide) rfl (by decide) rfl rfl ?_
    refine V2_topi (fun v35 ev35 => ?_)
    refine V2_iconst (v := 1) d_Car_go_115 rfl ?_
    refine V2_iadd d_Car_go_116 ?_
    refine V2_topi (fun v36 ev36 => ?_)
    refine V2_put d_Car_go_117 fl_Car_25 (by decide) rfl (by decide) rfl ?_
    refine V2_aload_n (i := 0) d_Car_go_120 rfl rfl ?_
    refine V2_callV [] d_Car_go_121 rfl rfl lk_Car_50 mo_Car_isOverTheRim (by decide) rfl rfl rfl (Nat.le_of_ble_eq_true rfl) (Nat.le_of_ble_eq_true rfl) ?_
    refine V2.to (l' := [some (.ref 44)]) ?_ rfl rfl rfl rfl
    refine V2_aload_n (i := 0) d_Car_isOverTheRim_0 rfl rfl ?_
    refine V2_get (v := v32) d_Car_isOverTheRim_1 fl_Car_16 (by decide) rfl (by decide) rfl rfl ?_
    refine V2_aload_n (i := 0) d_Car_isOverTheRim_4 rfl rfl ?_
    refine V2_get (v := v23) d_Car_isOverTheRim_5 fl_Car_7 (by decide) rfl (by decide) rfl rfl ?_
    refine V2_icmp_lt (tgt := 15) d_Car_isOverTheRim_8 rfl (fun c37 => ?_) (fun c37 => ?_)
    · refine V2_iconst (v := 0) d_Car_isOverTheRim_15 rfl ?_
      refine V2_zreturn d_Car_isOverTheRim_16 rfl (by decide) ?_
      refine V2.to (st' := [.int (0 : Int32)]) ?_ rfl rfl rfl rfl
      refine V2_if_eq (tgt := 148) d_Car_go_124 rfl (fun _ => ?_) (fun c => (by first | exact absurd c (by decide) | exact absurd (by decide) c))
      refine V2_iload (i := 5) d_Car_go_148 rfl ?_
      refine V2_zreturn d_Car_go_150 rfl (by decide) ?_
      have hs : (grip < gas) := by have h9 := c1; exact Int32.not_le.mp h9
      have ho : ¬ (cDepth (F 44) gas grip ≤ cHeight (F 44) gas grip push rub) := by
        have h9 := c37
        subst ev36 ev35 ev34 ev33 ev32 ev31 ev30 ev29 ev28 ev27 ev26 ev25 ev24 ev23 ev22 ev21 ev20 ev19 ev18 ev17
        simp only [cDepth, cHeight, mn, mx, hs, if_true, if_false]
        exact Int32.not_le.mpr h9
      refine xQi hQ ?_ ?_
      · exact (xb_1 hs).symm
      · subst ev36 ev35 ev34 ev33 ev32 ev31 ev30 ev29 ev28 ev27 ev26 ev25 ev24 ev23 ev22 ev21 ev20 ev19 ev18 ev17
        funext a b
        by_cases hk : a = 44
        · subst hk
          rcases b with _ | _ | _ | _ | _ | _ | _ | _ | b <;> simp [xp, xrw, goC, ho] <;> simp [cDepth, cIce, cSand, cHeight, mn, mx, hs]
        · simp [xp, xrw, hk]
    · refine V2_iconst (v := 1) d_Car_isOverTheRim_11 rfl ?_
      refine V2_goto (tgt := 16) d_Car_isOverTheRim_12 rfl ?_
      refine V2_zreturn d_Car_isOverTheRim_16 rfl (by decide) ?_
      refine V2.to (st' := [.int (1 : Int32)]) ?_ rfl rfl rfl rfl
      refine V2_if_eq (tgt := 148) d_Car_go_124 rfl (fun c => (by first | exact absurd c (by decide) | exact absurd (by decide) c)) (fun _ => ?_)
      refine V2_aload_n (i := 0) d_Car_go_127 rfl rfl ?_
      refine V2_iconst (v := 1) d_Car_go_128 rfl ?_
      refine V2_putz d_Car_go_129 fl_Car_31 (by decide) rfl (by decide) rfl (by decide) ?_
      refine V2_aload_n (i := 0) d_Car_go_132 rfl rfl ?_
      refine V2_sipush (v := 9999) d_Car_go_133 rfl ?_
      refine V2_aload_n (i := 0) d_Car_go_136 rfl rfl ?_
      refine V2_get (v := F 44 6) d_Car_go_137 fl_Car_28 (by decide) rfl (by decide) rfl rfl ?_
      refine V2_topi (fun v38 ev38 => ?_)
      refine V2_iconst (v := 1) d_Car_go_140 rfl ?_
      refine V2_iadd d_Car_go_141 ?_
      refine V2_topi (fun v39 ev39 => ?_)
      refine V2_mmin d_Car_go_142 lz_Car_47 (Nat.le_of_ble_eq_true rfl) ?_
      refine V2_topi (fun v40 ev40 => ?_)
      refine V2_put d_Car_go_145 fl_Car_28 (by decide) rfl (by decide) rfl ?_
      refine V2_iload (i := 5) d_Car_go_148 rfl ?_
      refine V2_zreturn d_Car_go_150 rfl (by decide) ?_
      have hs : (grip < gas) := by have h9 := c1; exact Int32.not_le.mp h9
      have ho : (cDepth (F 44) gas grip ≤ cHeight (F 44) gas grip push rub) := by
        have h9 := c37
        subst ev40 ev39 ev38 ev36 ev35 ev34 ev33 ev32 ev31 ev30 ev29 ev28 ev27 ev26 ev25 ev24 ev23 ev22 ev21 ev20 ev19 ev18 ev17
        simp only [cDepth, cHeight, mn, mx, hs, if_true, if_false]
        exact Int32.not_lt.mp h9
      refine xQi hQ ?_ ?_
      · exact (xb_1 hs).symm
      · subst ev40 ev39 ev38 ev36 ev35 ev34 ev33 ev32 ev31 ev30 ev29 ev28 ev27 ev26 ev25 ev24 ev23 ev22 ev21 ev20 ev19 ev18 ev17
        funext a b
        by_cases hk : a = 44
        · subst hk
          rcases b with _ | _ | _ | _ | _ | _ | _ | _ | b <;> simp [xp, xrw, goC, ho] <;> simp [cDepth, cIce, cSand, cHeight, mn, mx, hs]
        · simp [xp, xrw, hk]
set_option maxHeartbeats 1000000 in
theorem c_Car_go_45 {L : Nat} {xs : Nat → Int32} {d : Nat} {Q : Option Value → xF → Prop} {F : xF} {gas grip push rub : Int32}  (hQ : Q (some (.int (xb (grip < gas)))) (xrw F 45 (goC (F 45) gas grip push rub))) : V2 L xs (d + 1) m_Car_go 0 (xEntry [.ref 45, .int gas, .int grip, .int push, .int rub] 7) [] F Q := by
  refine V2.to (l' := [some (.ref 45), some (.int gas), some (.int grip), some (.int push), some (.int rub), none, none]) ?_ rfl rfl rfl rfl
  refine V2_iload_n (i := 1) d_Car_go_0 rfl rfl ?_
  refine V2_iload_n (i := 2) d_Car_go_1 rfl rfl ?_
  refine V2_icmp_le (tgt := 9) d_Car_go_2 rfl (fun c1 => ?_) (fun c1 => ?_)
  · refine V2_iconst (v := 0) d_Car_go_9 rfl ?_
    refine V2_istore (i := 5) (l' := [some (.ref 45), some (.int gas), some (.int grip), some (.int push), some (.int rub), some (.int (0 : Int32)), none]) d_Car_go_10 (xst_i (Nat.le_of_ble_eq_true rfl) rfl rfl) ?_
    refine V2_iload (i := 5) d_Car_go_12 rfl ?_
    refine V2_if_eq (tgt := 63) d_Car_go_14 rfl (fun _ => ?_) (fun c => (by first | exact absurd c (by decide) | exact absurd (by decide) c))
    refine V2_iload (i := 5) d_Car_go_63 rfl ?_
    refine V2_if_eq (tgt := 72) d_Car_go_65 rfl (fun _ => ?_) (fun c => (by first | exact absurd c (by decide) | exact absurd (by decide) c))
    refine V2_iload_n (i := 1) d_Car_go_72 rfl rfl ?_
    refine V2_istore (i := 6) (l' := [some (.ref 45), some (.int gas), some (.int grip), some (.int push), some (.int rub), some (.int (0 : Int32)), some (.int gas)]) d_Car_go_73 (xst_i (Nat.le_of_ble_eq_true rfl) rfl rfl) ?_
    refine V2_aload_n (i := 0) d_Car_go_75 rfl rfl ?_
    refine V2_iconst (v := 0) d_Car_go_76 rfl ?_
    refine V2_bipush (v := 99) d_Car_go_77 rfl ?_
    refine V2_aload_n (i := 0) d_Car_go_79 rfl rfl ?_
    refine V2_get (v := F 45 2) d_Car_go_80 fl_Car_16 (by decide) rfl (by decide) rfl rfl ?_
    refine V2_topi (fun v2 ev2 => ?_)
    refine V2_iload (i := 6) d_Car_go_83 rfl ?_
    refine V2_iadd d_Car_go_85 ?_
    refine V2_topi (fun v3 ev3 => ?_)
    refine V2_iload_n (i := 3) d_Car_go_86 rfl rfl ?_
    refine V2_iadd d_Car_go_87 ?_
    refine V2_topi (fun v4 ev4 => ?_)
    refine V2_iload (i := 4) d_Car_go_88 rfl ?_
    refine V2_isub d_Car_go_90 ?_
    refine V2_topi (fun v5 ev5 => ?_)
    refine V2_mmin d_Car_go_91 lz_Car_47 (Nat.le_of_ble_eq_true rfl) ?_
    refine V2_topi (fun v6 ev6 => ?_)
    refine V2_mmax d_Car_go_94 lz_Car_41 (Nat.le_of_ble_eq_true rfl) ?_
    refine V2_topi (fun v7 ev7 => ?_)
    refine V2_put d_Car_go_97 fl_Car_16 (by decide) rfl (by decide) rfl ?_
    refine V2_aload_n (i := 0) d_Car_go_100 rfl rfl ?_
    refine V2_iconst (v := 1) d_Car_go_101 rfl ?_
    refine V2_aload_n (i := 0) d_Car_go_102 rfl rfl ?_
    refine V2_get (v := F 45 3) d_Car_go_103 fl_Car_19 (by decide) rfl (by decide) rfl rfl ?_
    refine V2_topi (fun v8 ev8 => ?_)
    refine V2_isub d_Car_go_106 ?_
    refine V2_topi (fun v9 ev9 => ?_)
    refine V2_put d_Car_go_107 fl_Car_19 (by decide) rfl (by decide) rfl ?_
    refine V2_aload_n (i := 0) d_Car_go_110 rfl rfl ?_
    refine V2_dup d_Car_go_111 rfl ?_
    refine V2_get (v := F 45 5) d_Car_go_112 fl_Car_25 (by decide) rfl (by decide) rfl rfl ?_
    refine V2_topi (fun v10 ev10 => ?_)
    refine V2_iconst (v := 1) d_Car_go_115 rfl ?_
    refine V2_iadd d_Car_go_116 ?_
    refine V2_topi (fun v11 ev11 => ?_)
    refine V2_put d_Car_go_117 fl_Car_25 (by decide) rfl (by decide) rfl ?_
    refine V2_aload_n (i := 0) d_Car_go_120 rfl rfl ?_
    refine V2_callV [] d_Car_go_121 rfl rfl lk_Car_50 mo_Car_isOverTheRim (by decide) rfl rfl rfl (Nat.le_of_ble_eq_true rfl) (Nat.le_of_ble_eq_true rfl) ?_
    refine V2.to (l' := [some (.ref 45)]) ?_ rfl rfl rfl rfl
    refine V2_aload_n (i := 0) d_Car_isOverTheRim_0 rfl rfl ?_
    refine V2_get (v := v7) d_Car_isOverTheRim_1 fl_Car_16 (by decide) rfl (by decide) rfl rfl ?_
    refine V2_aload_n (i := 0) d_Car_isOverTheRim_4 rfl rfl ?_
    refine V2_get (v := F 45 0) d_Car_isOverTheRim_5 fl_Car_7 (by decide) rfl (by decide) rfl rfl ?_
    refine V2_topi (fun v12 ev12 => ?_)
    refine V2_icmp_lt (tgt := 15) d_Car_isOverTheRim_8 rfl (fun c13 => ?_) (fun c13 => ?_)
    · refine V2_iconst (v := 0) d_Car_isOverTheRim_15 rfl ?_
      refine V2_zreturn d_Car_isOverTheRim_16 rfl (by decide) ?_
      refine V2.to (st' := [.int (0 : Int32)]) ?_ rfl rfl rfl rfl
      refine V2_if_eq (tgt := 148) d_Car_go_124 rfl (fun _ => ?_) (fun c => (by first | exact absurd c (by decide) | exact absurd (by decide) c))
      refine V2_iload (i := 5) d_Car_go_148 rfl ?_
      refine V2_zreturn d_Car_go_150 rfl (by decide) ?_
      have hs : ¬ (grip < gas) := by have h9 := c1; exact Int32.not_lt.mpr h9
      have ho : ¬ (cDepth (F 45) gas grip ≤ cHeight (F 45) gas grip push rub) := by
        have h9 := c13
        subst ev12 ev11 ev10 ev9 ev8 ev7 ev6 ev5 ev4 ev3 ev2
        simp only [cDepth, cHeight, mn, mx, hs, if_true, if_false]
        exact Int32.not_le.mpr h9
      refine xQi hQ ?_ ?_
      · exact (xb_0 hs).symm
      · subst ev12 ev11 ev10 ev9 ev8 ev7 ev6 ev5 ev4 ev3 ev2
        funext a b
        by_cases hk : a = 45
        · subst hk
          rcases b with _ | _ | _ | _ | _ | _ | _ | _ | b <;> simp [xp, xrw, goC, ho] <;> simp [cDepth, cIce, cSand, cHeight, mn, mx, hs]
        · simp [xp, xrw, hk]
    · refine V2_iconst (v := 1) d_Car_isOverTheRim_11 rfl ?_
      refine V2_goto (tgt := 16) d_Car_isOverTheRim_12 rfl ?_
      refine V2_zreturn d_Car_isOverTheRim_16 rfl (by decide) ?_
      refine V2.to (st' := [.int (1 : Int32)]) ?_ rfl rfl rfl rfl
      refine V2_if_eq (tgt := 148) d_Car_go_124 rfl (fun c => (by first | exact absurd c (by decide) | exact absurd (by decide) c)) (fun _ => ?_)
      refine V2_aload_n (i := 0) d_Car_go_127 rfl rfl ?_
      refine V2_iconst (v := 1) d_Car_go_128 rfl ?_
      refine V2_putz d_Car_go_129 fl_Car_31 (by decide) rfl (by decide) rfl (by decide) ?_
      refine V2_aload_n (i := 0) d_Car_go_132 rfl rfl ?_
      refine V2_sipush (v := 9999) d_Car_go_133 rfl ?_
      refine V2_aload_n (i := 0) d_Car_go_136 rfl rfl ?_
      refine V2_get (v := F 45 6) d_Car_go_137 fl_Car_28 (by decide) rfl (by decide) rfl rfl ?_
      refine V2_topi (fun v14 ev14 => ?_)
      refine V2_iconst (v := 1) d_Car_go_140 rfl ?_
      refine V2_iadd d_Car_go_141 ?_
      refine V2_topi (fun v15 ev15 => ?_)
      refine V2_mmin d_Car_go_142 lz_Car_47 (Nat.le_of_ble_eq_true rfl) ?_
      refine V2_topi (fun v16 ev16 => ?_)
      refine V2_put d_Car_go_145 fl_Car_28 (by decide) rfl (by decide) rfl ?_
      refine V2_iload (i := 5) d_Car_go_148 rfl ?_
      refine V2_zreturn d_Car_go_150 rfl (by decide) ?_
      have hs : ¬ (grip < gas) := by have h9 := c1; exact Int32.not_lt.mpr h9
      have ho : (cDepth (F 45) gas grip ≤ cHeight (F 45) gas grip push rub) := by
        have h9 := c13
        subst ev16 ev15 ev14 ev12 ev11 ev10 ev9 ev8 ev7 ev6 ev5 ev4 ev3 ev2
        simp only [cDepth, cHeight, mn, mx, hs, if_true, if_false]
        exact Int32.not_lt.mp h9
      refine xQi hQ ?_ ?_
      · exact (xb_0 hs).symm
      · subst ev16 ev15 ev14 ev12 ev11 ev10 ev9 ev8 ev7 ev6 ev5 ev4 ev3 ev2
        funext a b
        by_cases hk : a = 45
        · subst hk
          rcases b with _ | _ | _ | _ | _ | _ | _ | _ | b <;> simp [xp, xrw, goC, ho] <;> simp [cDepth, cIce, cSand, cHeight, mn, mx, hs]
        · simp [xp, xrw, hk]
  · refine V2_iconst (v := 1) d_Car_go_5 rfl ?_
    refine V2_goto (tgt := 10) d_Car_go_6 rfl ?_
    refine V2_istore (i := 5) (l' := [some (.ref 45), some (.int gas), some (.int grip), some (.int push), some (.int rub), some (.int (1 : Int32)), none]) d_Car_go_10 (xst_i (Nat.le_of_ble_eq_true rfl) rfl rfl) ?_
    refine V2_iload (i := 5) d_Car_go_12 rfl ?_
    refine V2_if_eq (tgt := 63) d_Car_go_14 rfl (fun c => (by first | exact absurd c (by decide) | exact absurd (by decide) c)) (fun _ => ?_)
    refine V2_aload_n (i := 0) d_Car_go_17 rfl rfl ?_
    refine V2_bipush (v := 99) d_Car_go_18 rfl ?_
    refine V2_aload_n (i := 0) d_Car_go_20 rfl rfl ?_
    refine V2_get (v := F 45 1) d_Car_go_21 fl_Car_13 (by decide) rfl (by decide) rfl rfl ?_
    refine V2_topi (fun v17 ev17 => ?_)
    refine V2_iload_n (i := 1) d_Car_go_24 rfl rfl ?_
    refine V2_iadd d_Car_go_25 ?_
    refine V2_topi (fun v18 ev18 => ?_)
    refine V2_iload_n (i := 2) d_Car_go_26 rfl rfl ?_
    refine V2_isub d_Car_go_27 ?_
    refine V2_topi (fun v19 ev19 => ?_)
    refine V2_mmin d_Car_go_28 lz_Car_47 (Nat.le_of_ble_eq_true rfl) ?_
    refine V2_topi (fun v20 ev20 => ?_)
    refine V2_put d_Car_go_31 fl_Car_13 (by decide) rfl (by decide) rfl ?_
    refine V2_aload_n (i := 0) d_Car_go_34 rfl rfl ?_
    refine V2_bipush (v := 60) d_Car_go_35 rfl ?_
    refine V2_aload_n (i := 0) d_Car_go_37 rfl rfl ?_
    refine V2_get (v := F 45 0) d_Car_go_38 fl_Car_7 (by decide) rfl (by decide) rfl rfl ?_
    refine V2_topi (fun v21 ev21 => ?_)
    refine V2_iconst (v := 1) d_Car_go_41 rfl ?_
    refine V2_iadd d_Car_go_42 ?_
    refine V2_topi (fun v22 ev22 => ?_)
    refine V2_mmin d_Car_go_43 lz_Car_47 (Nat.le_of_ble_eq_true rfl) ?_
    refine V2_topi (fun v23 ev23 => ?_)
    refine V2_put d_Car_go_46 fl_Car_7 (by decide) rfl (by decide) rfl ?_
    refine V2_aload_n (i := 0) d_Car_go_49 rfl rfl ?_
    refine V2_iconst (v := 0) d_Car_go_50 rfl ?_
    refine V2_aload_n (i := 0) d_Car_go_51 rfl rfl ?_
    refine V2_get (v := F 45 4) d_Car_go_52 fl_Car_22 (by decide) rfl (by decide) rfl rfl ?_
    refine V2_topi (fun v24 ev24 => ?_)
    refine V2_iconst (v := 1) d_Car_go_55 rfl ?_
    refine V2_isub d_Car_go_56 ?_
    refine V2_topi (fun v25 ev25 => ?_)
    refine V2_mmax d_Car_go_57 lz_Car_41 (Nat.le_of_ble_eq_true rfl) ?_
    refine V2_topi (fun v26 ev26 => ?_)
    refine V2_put d_Car_go_60 fl_Car_22 (by decide) rfl (by decide) rfl ?_
    refine V2_iload (i := 5) d_Car_go_63 rfl ?_
    refine V2_if_eq (tgt := 72) d_Car_go_65 rfl (fun c => (by first | exact absurd c (by decide) | exact absurd (by decide) c)) (fun _ => ?_)
    refine V2_iconst (v := 0) d_Car_go_68 rfl ?_
    refine V2_goto (tgt := 73) d_Car_go_69 rfl ?_
    refine V2_istore (i := 6) (l' := [some (.ref 45), some (.int gas), some (.int grip), some (.int push), some (.int rub), some (.int (1 : Int32)), some (.int (0 : Int32))]) d_Car_go_73 (xst_i (Nat.le_of_ble_eq_true rfl) rfl rfl) ?_
    refine V2_aload_n (i := 0) d_Car_go_75 rfl rfl ?_
    refine V2_iconst (v := 0) d_Car_go_76 rfl ?_
    refine V2_bipush (v := 99) d_Car_go_77 rfl ?_
    refine V2_aload_n (i := 0) d_Car_go_79 rfl rfl ?_
    refine V2_get (v := F 45 2) d_Car_go_80 fl_Car_16 (by decide) rfl (by decide) rfl rfl ?_
    refine V2_topi (fun v27 ev27 => ?_)
    refine V2_iload (i := 6) d_Car_go_83 rfl ?_
    refine V2_iadd d_Car_go_85 ?_
    refine V2_topi (fun v28 ev28 => ?_)
    refine V2_iload_n (i := 3) d_Car_go_86 rfl rfl ?_
    refine V2_iadd d_Car_go_87 ?_
    refine V2_topi (fun v29 ev29 => ?_)
    refine V2_iload (i := 4) d_Car_go_88 rfl ?_
    refine V2_isub d_Car_go_90 ?_
    refine V2_topi (fun v30 ev30 => ?_)
    refine V2_mmin d_Car_go_91 lz_Car_47 (Nat.le_of_ble_eq_true rfl) ?_
    refine V2_topi (fun v31 ev31 => ?_)
    refine V2_mmax d_Car_go_94 lz_Car_41 (Nat.le_of_ble_eq_true rfl) ?_
    refine V2_topi (fun v32 ev32 => ?_)
    refine V2_put d_Car_go_97 fl_Car_16 (by decide) rfl (by decide) rfl ?_
    refine V2_aload_n (i := 0) d_Car_go_100 rfl rfl ?_
    refine V2_iconst (v := 1) d_Car_go_101 rfl ?_
    refine V2_aload_n (i := 0) d_Car_go_102 rfl rfl ?_
    refine V2_get (v := F 45 3) d_Car_go_103 fl_Car_19 (by decide) rfl (by decide) rfl rfl ?_
    refine V2_topi (fun v33 ev33 => ?_)
    refine V2_isub d_Car_go_106 ?_
    refine V2_topi (fun v34 ev34 => ?_)
    refine V2_put d_Car_go_107 fl_Car_19 (by decide) rfl (by decide) rfl ?_
    refine V2_aload_n (i := 0) d_Car_go_110 rfl rfl ?_
    refine V2_dup d_Car_go_111 rfl ?_
    refine V2_get (v := F 45 5) d_Car_go_112 fl_Car_25 (by decide) rfl (by decide) rfl rfl ?_
    refine V2_topi (fun v35 ev35 => ?_)
    refine V2_iconst (v := 1) d_Car_go_115 rfl ?_
    refine V2_iadd d_Car_go_116 ?_
    refine V2_topi (fun v36 ev36 => ?_)
    refine V2_put d_Car_go_117 fl_Car_25 (by decide) rfl (by decide) rfl ?_
    refine V2_aload_n (i := 0) d_Car_go_120 rfl rfl ?_
    refine V2_callV [] d_Car_go_121 rfl rfl lk_Car_50 mo_Car_isOverTheRim (by decide) rfl rfl rfl (Nat.le_of_ble_eq_true rfl) (Nat.le_of_ble_eq_true rfl) ?_
    refine V2.to (l' := [some (.ref 45)]) ?_ rfl rfl rfl rfl
    refine V2_aload_n (i := 0) d_Car_isOverTheRim_0 rfl rfl ?_
    refine V2_get (v := v32) d_Car_isOverTheRim_1 fl_Car_16 (by decide) rfl (by decide) rfl rfl ?_
    refine V2_aload_n (i := 0) d_Car_isOverTheRim_4 rfl rfl ?_
    refine V2_get (v := v23) d_Car_isOverTheRim_5 fl_Car_7 (by decide) rfl (by decide) rfl rfl ?_
    refine V2_icmp_lt (tgt := 15) d_Car_isOverTheRim_8 rfl (fun c37 => ?_) (fun c37 => ?_)
    · refine V2_iconst (v := 0) d_Car_isOverTheRim_15 rfl ?_
      refine V2_zreturn d_Car_isOverTheRim_16 rfl (by decide) ?_
      refine V2.to (st' := [.int (0 : Int32)]) ?_ rfl rfl rfl rfl
      refine V2_if_eq (tgt := 148) d_Car_go_124 rfl (fun _ => ?_) (fun c => (by first | exact absurd c (by decide) | exact absurd (by decide) c))
      refine V2_iload (i := 5) d_Car_go_148 rfl ?_
      refine V2_zreturn d_Car_go_150 rfl (by decide) ?_
      have hs : (grip < gas) := by have h9 := c1; exact Int32.not_le.mp h9
      have ho : ¬ (cDepth (F 45) gas grip ≤ cHeight (F 45) gas grip push rub) := by
        have h9 := c37
        subst ev36 ev35 ev34 ev33 ev32 ev31 ev30 ev29 ev28 ev27 ev26 ev25 ev24 ev23 ev22 ev21 ev20 ev19 ev18 ev17
        simp only [cDepth, cHeight, mn, mx, hs, if_true, if_false]
        exact Int32.not_le.mpr h9
      refine xQi hQ ?_ ?_
      · exact (xb_1 hs).symm
      · subst ev36 ev35 ev34 ev33 ev32 ev31 ev30 ev29 ev28 ev27 ev26 ev25 ev24 ev23 ev22 ev21 ev20 ev19 ev18 ev17
        funext a b
        by_cases hk : a = 45
        · subst hk
          rcases b with _ | _ | _ | _ | _ | _ | _ | _ | b <;> simp [xp, xrw, goC, ho] <;> simp [cDepth, cIce, cSand, cHeight, mn, mx, hs]
        · simp [xp, xrw, hk]
    · refine V2_iconst (v := 1) d_Car_isOverTheRim_11 rfl ?_
      refine V2_goto (tgt := 16) d_Car_isOverTheRim_12 rfl ?_
      refine V2_zreturn d_Car_isOverTheRim_16 rfl (by decide) ?_
      refine V2.to (st' := [.int (1 : Int32)]) ?_ rfl rfl rfl rfl
      refine V2_if_eq (tgt := 148) d_Car_go_124 rfl (fun c => (by first | exact absurd c (by decide) | exact absurd (by decide) c)) (fun _ => ?_)
      refine V2_aload_n (i := 0) d_Car_go_127 rfl rfl ?_
      refine V2_iconst (v := 1) d_Car_go_128 rfl ?_
      refine V2_putz d_Car_go_129 fl_Car_31 (by decide) rfl (by decide) rfl (by decide) ?_
      refine V2_aload_n (i := 0) d_Car_go_132 rfl rfl ?_
      refine V2_sipush (v := 9999) d_Car_go_133 rfl ?_
      refine V2_aload_n (i := 0) d_Car_go_136 rfl rfl ?_
      refine V2_get (v := F 45 6) d_Car_go_137 fl_Car_28 (by decide) rfl (by decide) rfl rfl ?_
      refine V2_topi (fun v38 ev38 => ?_)
      refine V2_iconst (v := 1) d_Car_go_140 rfl ?_
      refine V2_iadd d_Car_go_141 ?_
      refine V2_topi (fun v39 ev39 => ?_)
      refine V2_mmin d_Car_go_142 lz_Car_47 (Nat.le_of_ble_eq_true rfl) ?_
      refine V2_topi (fun v40 ev40 => ?_)
      refine V2_put d_Car_go_145 fl_Car_28 (by decide) rfl (by decide) rfl ?_
      refine V2_iload (i := 5) d_Car_go_148 rfl ?_
      refine V2_zreturn d_Car_go_150 rfl (by decide) ?_
      have hs : (grip < gas) := by have h9 := c1; exact Int32.not_le.mp h9
      have ho : (cDepth (F 45) gas grip ≤ cHeight (F 45) gas grip push rub) := by
        have h9 := c37
        subst ev40 ev39 ev38 ev36 ev35 ev34 ev33 ev32 ev31 ev30 ev29 ev28 ev27 ev26 ev25 ev24 ev23 ev22 ev21 ev20 ev19 ev18 ev17
        simp only [cDepth, cHeight, mn, mx, hs, if_true, if_false]
        exact Int32.not_lt.mp h9
      refine xQi hQ ?_ ?_
      · exact (xb_1 hs).symm
      · subst ev40 ev39 ev38 ev36 ev35 ev34 ev33 ev32 ev31 ev30 ev29 ev28 ev27 ev26 ev25 ev24 ev23 ev22 ev21 ev20 ev19 ev18 ev17
        funext a b
        by_cases hk : a = 45
        · subst hk
          rcases b with _ | _ | _ | _ | _ | _ | _ | _ | b <;> simp [xp, xrw, goC, ho] <;> simp [cDepth, cIce, cSand, cHeight, mn, mx, hs]
        · simp [xp, xrw, hk]
set_option maxHeartbeats 1000000 in
theorem c_Car_go_46 {L : Nat} {xs : Nat → Int32} {d : Nat} {Q : Option Value → xF → Prop} {F : xF} {gas grip push rub : Int32}  (hQ : Q (some (.int (xb (grip < gas)))) (xrw F 46 (goC (F 46) gas grip push rub))) : V2 L xs (d + 1) m_Car_go 0 (xEntry [.ref 46, .int gas, .int grip, .int push, .int rub] 7) [] F Q := by
  refine V2.to (l' := [some (.ref 46), some (.int gas), some (.int grip), some (.int push), some (.int rub), none, none]) ?_ rfl rfl rfl rfl
  refine V2_iload_n (i := 1) d_Car_go_0 rfl rfl ?_
  refine V2_iload_n (i := 2) d_Car_go_1 rfl rfl ?_
  refine V2_icmp_le (tgt := 9) d_Car_go_2 rfl (fun c1 => ?_) (fun c1 => ?_)
  · refine V2_iconst (v := 0) d_Car_go_9 rfl ?_
    refine V2_istore (i := 5) (l' := [some (.ref 46), some (.int gas), some (.int grip), some (.int push), some (.int rub), some (.int (0 : Int32)), none]) d_Car_go_10 (xst_i (Nat.le_of_ble_eq_true rfl) rfl rfl) ?_
    refine V2_iload (i := 5) d_Car_go_12 rfl ?_
    refine V2_if_eq (tgt := 63) d_Car_go_14 rfl (fun _ => ?_) (fun c => (by first | exact absurd c (by decide) | exact absurd (by decide) c))
    refine V2_iload (i := 5) d_Car_go_63 rfl ?_
    refine V2_if_eq (tgt := 72) d_Car_go_65 rfl (fun _ => ?_) (fun c => (by first | exact absurd c (by decide) | exact absurd (by decide) c))
    refine V2_iload_n (i := 1) d_Car_go_72 rfl rfl ?_
    refine V2_istore (i := 6) (l' := [some (.ref 46), some (.int gas), some (.int grip), some (.int push), some (.int rub), some (.int (0 : Int32)), some (.int gas)]) d_Car_go_73 (xst_i (Nat.le_of_ble_eq_true rfl) rfl rfl) ?_
    refine V2_aload_n (i := 0) d_Car_go_75 rfl rfl ?_
    refine V2_iconst (v := 0) d_Car_go_76 rfl ?_
    refine V2_bipush (v := 99) d_Car_go_77 rfl ?_
    refine V2_aload_n (i := 0) d_Car_go_79 rfl rfl ?_
    refine V2_get (v := F 46 2) d_Car_go_80 fl_Car_16 (by decide) rfl (by decide) rfl rfl ?_
    refine V2_topi (fun v2 ev2 => ?_)
    refine V2_iload (i := 6) d_Car_go_83 rfl ?_
    refine V2_iadd d_Car_go_85 ?_
    refine V2_topi (fun v3 ev3 => ?_)
    refine V2_iload_n (i := 3) d_Car_go_86 rfl rfl ?_
    refine V2_iadd d_Car_go_87 ?_
    refine V2_topi (fun v4 ev4 => ?_)
    refine V2_iload (i := 4) d_Car_go_88 rfl ?_
    refine V2_isub d_Car_go_90 ?_
    refine V2_topi (fun v5 ev5 => ?_)
    refine V2_mmin d_Car_go_91 lz_Car_47 (Nat.le_of_ble_eq_true rfl) ?_
    refine V2_topi (fun v6 ev6 => ?_)
    refine V2_mmax d_Car_go_94 lz_Car_41 (Nat.le_of_ble_eq_true rfl) ?_
    refine V2_topi (fun v7 ev7 => ?_)
    refine V2_put d_Car_go_97 fl_Car_16 (by decide) rfl (by decide) rfl ?_
    refine V2_aload_n (i := 0) d_Car_go_100 rfl rfl ?_
    refine V2_iconst (v := 1) d_Car_go_101 rfl ?_
    refine V2_aload_n (i := 0) d_Car_go_102 rfl rfl ?_
    refine V2_get (v := F 46 3) d_Car_go_103 fl_Car_19 (by decide) rfl (by decide) rfl rfl ?_
    refine V2_topi (fun v8 ev8 => ?_)
    refine V2_isub d_Car_go_106 ?_
    refine V2_topi (fun v9 ev9 => ?_)
    refine V2_put d_Car_go_107 fl_Car_19 (by decide) rfl (by decide) rfl ?_
    refine V2_aload_n (i := 0) d_Car_go_110 rfl rfl ?_
    refine V2_dup d_Car_go_111 rfl ?_
    refine V2_get (v := F 46 5) d_Car_go_112 fl_Car_25 (by decide) rfl (by decide) rfl rfl ?_
    refine V2_topi (fun v10 ev10 => ?_)
    refine V2_iconst (v := 1) d_Car_go_115 rfl ?_
    refine V2_iadd d_Car_go_116 ?_
    refine V2_topi (fun v11 ev11 => ?_)
    refine V2_put d_Car_go_117 fl_Car_25 (by decide) rfl (by decide) rfl ?_
    refine V2_aload_n (i := 0) d_Car_go_120 rfl rfl ?_
    refine V2_callV [] d_Car_go_121 rfl rfl lk_Car_50 mo_Car_isOverTheRim (by decide) rfl rfl rfl (Nat.le_of_ble_eq_true rfl) (Nat.le_of_ble_eq_true rfl) ?_
    refine V2.to (l' := [some (.ref 46)]) ?_ rfl rfl rfl rfl
    refine V2_aload_n (i := 0) d_Car_isOverTheRim_0 rfl rfl ?_
    refine V2_get (v := v7) d_Car_isOverTheRim_1 fl_Car_16 (by decide) rfl (by decide) rfl rfl ?_
    refine V2_aload_n (i := 0) d_Car_isOverTheRim_4 rfl rfl ?_
    refine V2_get (v := F 46 0) d_Car_isOverTheRim_5 fl_Car_7 (by decide) rfl (by decide) rfl rfl ?_
    refine V2_topi (fun v12 ev12 => ?_)
    refine V2_icmp_lt (tgt := 15) d_Car_isOverTheRim_8 rfl (fun c13 => ?_) (fun c13 => ?_)
    · refine V2_iconst (v := 0) d_Car_isOverTheRim_15 rfl ?_
      refine V2_zreturn d_Car_isOverTheRim_16 rfl (by decide) ?_
      refine V2.to (st' := [.int (0 : Int32)]) ?_ rfl rfl rfl rfl
      refine V2_if_eq (tgt := 148) d_Car_go_124 rfl (fun _ => ?_) (fun c => (by first | exact absurd c (by decide) | exact absurd (by decide) c))
      refine V2_iload (i := 5) d_Car_go_148 rfl ?_
      refine V2_zreturn d_Car_go_150 rfl (by decide) ?_
      have hs : ¬ (grip < gas) := by have h9 := c1; exact Int32.not_lt.mpr h9
      have ho : ¬ (cDepth (F 46) gas grip ≤ cHeight (F 46) gas grip push rub) := by
        have h9 := c13
        subst ev12 ev11 ev10 ev9 ev8 ev7 ev6 ev5 ev4 ev3 ev2
        simp only [cDepth, cHeight, mn, mx, hs, if_true, if_false]
        exact Int32.not_le.mpr h9
      refine xQi hQ ?_ ?_
      · exact (xb_0 hs).symm
      · subst ev12 ev11 ev10 ev9 ev8 ev7 ev6 ev5 ev4 ev3 ev2
        funext a b
        by_cases hk : a = 46
        · subst hk
          rcases b with _ | _ | _ | _ | _ | _ | _ | _ | b <;> simp [xp, xrw, goC, ho] <;> simp [cDepth, cIce, cSand, cHeight, mn, mx, hs]
        · simp [xp, xrw, hk]
    · refine V2_iconst (v := 1) d_Car_isOverTheRim_11 rfl ?_
      refine V2_goto (tgt := 16) d_Car_isOverTheRim_12 rfl ?_
      refine V2_zreturn d_Car_isOverTheRim_16 rfl (by decide) ?_
      refine V2.to (st' := [.int (1 : Int32)]) ?_ rfl rfl rfl rfl
      refine V2_if_eq (tgt := 148) d_Car_go_124 rfl (fun c => (by first | exact absurd c (by decide) | exact absurd (by decide) c)) (fun _ => ?_)
      refine V2_aload_n (i := 0) d_Car_go_127 rfl rfl ?_
      refine V2_iconst (v := 1) d_Car_go_128 rfl ?_
      refine V2_putz d_Car_go_129 fl_Car_31 (by decide) rfl (by decide) rfl (by decide) ?_
      refine V2_aload_n (i := 0) d_Car_go_132 rfl rfl ?_
      refine V2_sipush (v := 9999) d_Car_go_133 rfl ?_
      refine V2_aload_n (i := 0) d_Car_go_136 rfl rfl ?_
      refine V2_get (v := F 46 6) d_Car_go_137 fl_Car_28 (by decide) rfl (by decide) rfl rfl ?_
      refine V2_topi (fun v14 ev14 => ?_)
      refine V2_iconst (v := 1) d_Car_go_140 rfl ?_
      refine V2_iadd d_Car_go_141 ?_
      refine V2_topi (fun v15 ev15 => ?_)
      refine V2_mmin d_Car_go_142 lz_Car_47 (Nat.le_of_ble_eq_true rfl) ?_
      refine V2_topi (fun v16 ev16 => ?_)
      refine V2_put d_Car_go_145 fl_Car_28 (by decide) rfl (by decide) rfl ?_
      refine V2_iload (i := 5) d_Car_go_148 rfl ?_
      refine V2_zreturn d_Car_go_150 rfl (by decide) ?_
      have hs : ¬ (grip < gas) := by have h9 := c1; exact Int32.not_lt.mpr h9
      have ho : (cDepth (F 46) gas grip ≤ cHeight (F 46) gas grip push rub) := by
        have h9 := c13
        subst ev16 ev15 ev14 ev12 ev11 ev10 ev9 ev8 ev7 ev6 ev5 ev4 ev3 ev2
        simp only [cDepth, cHeight, mn, mx, hs, if_true, if_false]
        exact Int32.not_lt.mp h9
      refine xQi hQ ?_ ?_
      · exact (xb_0 hs).symm
      · subst ev16 ev15 ev14 ev12 ev11 ev10 ev9 ev8 ev7 ev6 ev5 ev4 ev3 ev2
        funext a b
        by_cases hk : a = 46
        · subst hk
          rcases b with _ | _ | _ | _ | _ | _ | _ | _ | b <;> simp [xp, xrw, goC, ho] <;> simp [cDepth, cIce, cSand, cHeight, mn, mx, hs]
        · simp [xp, xrw, hk]
  · refine V2_iconst (v := 1) d_Car_go_5 rfl ?_
    refine V2_goto (tgt := 10) d_Car_go_6 rfl ?_
    refine V2_istore (i := 5) (l' := [some (.ref 46), some (.int gas), some (.int grip), some (.int push), some (.int rub), some (.int (1 : Int32)), none]) d_Car_go_10 (xst_i (Nat.le_of_ble_eq_true rfl) rfl rfl) ?_
    refine V2_iload (i := 5) d_Car_go_12 rfl ?_
    refine V2_if_eq (tgt := 63) d_Car_go_14 rfl (fun c => (by first | exact absurd c (by decide) | exact absurd (by decide) c)) (fun _ => ?_)
    refine V2_aload_n (i := 0) d_Car_go_17 rfl rfl ?_
    refine V2_bipush (v := 99) d_Car_go_18 rfl ?_
    refine V2_aload_n (i := 0) d_Car_go_20 rfl rfl ?_
    refine V2_get (v := F 46 1) d_Car_go_21 fl_Car_13 (by decide) rfl (by decide) rfl rfl ?_
    refine V2_topi (fun v17 ev17 => ?_)
    refine V2_iload_n (i := 1) d_Car_go_24 rfl rfl ?_
    refine V2_iadd d_Car_go_25 ?_
    refine V2_topi (fun v18 ev18 => ?_)
    refine V2_iload_n (i := 2) d_Car_go_26 rfl rfl ?_
    refine V2_isub d_Car_go_27 ?_
    refine V2_topi (fun v19 ev19 => ?_)
    refine V2_mmin d_Car_go_28 lz_Car_47 (Nat.le_of_ble_eq_true rfl) ?_
    refine V2_topi (fun v20 ev20 => ?_)
    refine V2_put d_Car_go_31 fl_Car_13 (by decide) rfl (by decide) rfl ?_
    refine V2_aload_n (i := 0) d_Car_go_34 rfl rfl ?_
    refine V2_bipush (v := 60) d_Car_go_35 rfl ?_
    refine V2_aload_n (i := 0) d_Car_go_37 rfl rfl ?_
    refine V2_get (v := F 46 0) d_Car_go_38 fl_Car_7 (by decide) rfl (by decide) rfl rfl ?_
    refine V2_topi (fun v21 ev21 => ?_)
    refine V2_iconst (v := 1) d_Car_go_41 rfl ?_
    refine V2_iadd d_Car_go_42 ?_
    refine V2_topi (fun v22 ev22 => ?_)
    refine V2_mmin d_Car_go_43 lz_Car_47 (Nat.le_of_ble_eq_true rfl) ?_
    refine V2_topi (fun v23 ev23 => ?_)
    refine V2_put d_Car_go_46 fl_Car_7 (by decide) rfl (by decide) rfl ?_
    refine V2_aload_n (i := 0) d_Car_go_49 rfl rfl ?_
    refine V2_iconst (v := 0) d_Car_go_50 rfl ?_
    refine V2_aload_n (i := 0) d_Car_go_51 rfl rfl ?_
    refine V2_get (v := F 46 4) d_Car_go_52 fl_Car_22 (by decide) rfl (by decide) rfl rfl ?_
    refine V2_topi (fun v24 ev24 => ?_)
    refine V2_iconst (v := 1) d_Car_go_55 rfl ?_
    refine V2_isub d_Car_go_56 ?_
    refine V2_topi (fun v25 ev25 => ?_)
    refine V2_mmax d_Car_go_57 lz_Car_41 (Nat.le_of_ble_eq_true rfl) ?_
    refine V2_topi (fun v26 ev26 => ?_)
    refine V2_put d_Car_go_60 fl_Car_22 (by decide) rfl (by decide) rfl ?_
    refine V2_iload (i := 5) d_Car_go_63 rfl ?_
    refine V2_if_eq (tgt := 72) d_Car_go_65 rfl (fun c => (by first | exact absurd c (by decide) | exact absurd (by decide) c)) (fun _ => ?_)
    refine V2_iconst (v := 0) d_Car_go_68 rfl ?_
    refine V2_goto (tgt := 73) d_Car_go_69 rfl ?_
    refine V2_istore (i := 6) (l' := [some (.ref 46), some (.int gas), some (.int grip), some (.int push), some (.int rub), some (.int (1 : Int32)), some (.int (0 : Int32))]) d_Car_go_73 (xst_i (Nat.le_of_ble_eq_true rfl) rfl rfl) ?_
    refine V2_aload_n (i := 0) d_Car_go_75 rfl rfl ?_
    refine V2_iconst (v := 0) d_Car_go_76 rfl ?_
    refine V2_bipush (v := 99) d_Car_go_77 rfl ?_
    refine V2_aload_n (i := 0) d_Car_go_79 rfl rfl ?_
    refine V2_get (v := F 46 2) d_Car_go_80 fl_Car_16 (by decide) rfl (by decide) rfl rfl ?_
    refine V2_topi (fun v27 ev27 => ?_)
    refine V2_iload (i := 6) d_Car_go_83 rfl ?_
    refine V2_iadd d_Car_go_85 ?_
    refine V2_topi (fun v28 ev28 => ?_)
    refine V2_iload_n (i := 3) d_Car_go_86 rfl rfl ?_
    refine V2_iadd d_Car_go_87 ?_
    refine V2_topi (fun v29 ev29 => ?_)
    refine V2_iload (i := 4) d_Car_go_88 rfl ?_
    refine V2_isub d_Car_go_90 ?_
    refine V2_topi (fun v30 ev30 => ?_)
    refine V2_mmin d_Car_go_91 lz_Car_47 (Nat.le_of_ble_eq_true rfl) ?_
    refine V2_topi (fun v31 ev31 => ?_)
    refine V2_mmax d_Car_go_94 lz_Car_41 (Nat.le_of_ble_eq_true rfl) ?_
    refine V2_topi (fun v32 ev32 => ?_)
    refine V2_put d_Car_go_97 fl_Car_16 (by decide) rfl (by decide) rfl ?_
    refine V2_aload_n (i := 0) d_Car_go_100 rfl rfl ?_
    refine V2_iconst (v := 1) d_Car_go_101 rfl ?_
    refine V2_aload_n (i := 0) d_Car_go_102 rfl rfl ?_
    refine V2_get (v := F 46 3) d_Car_go_103 fl_Car_19 (by decide) rfl (by decide) rfl rfl ?_
    refine V2_topi (fun v33 ev33 => ?_)
    refine V2_isub d_Car_go_106 ?_
    refine V2_topi (fun v34 ev34 => ?_)
    refine V2_put d_Car_go_107 fl_Car_19 (by decide) rfl (by decide) rfl ?_
    refine V2_aload_n (i := 0) d_Car_go_110 rfl rfl ?_
    refine V2_dup d_Car_go_111 rfl ?_
    refine V2_get (v := F 46 5) d_Car_go_112 fl_Car_25 (by decide) rfl (by decide) rfl rfl ?_
    refine V2_topi (fun v35 ev35 => ?_)
    refine V2_iconst (v := 1) d_Car_go_115 rfl ?_
    refine V2_iadd d_Car_go_116 ?_
    refine V2_topi (fun v36 ev36 => ?_)
    refine V2_put d_Car_go_117 fl_Car_25 (by decide) rfl (by decide) rfl ?_
    refine V2_aload_n (i := 0) d_Car_go_120 rfl rfl ?_
    refine V2_callV [] d_Car_go_121 rfl rfl lk_Car_50 mo_Car_isOverTheRim (by decide) rfl rfl rfl (Nat.le_of_ble_eq_true rfl) (Nat.le_of_ble_eq_true rfl) ?_
    refine V2.to (l' := [some (.ref 46)]) ?_ rfl rfl rfl rfl
    refine V2_aload_n (i := 0) d_Car_isOverTheRim_0 rfl rfl ?_
    refine V2_get (v := v32) d_Car_isOverTheRim_1 fl_Car_16 (by decide) rfl (by decide) rfl rfl ?_
    refine V2_aload_n (i := 0) d_Car_isOverTheRim_4 rfl rfl ?_
    refine V2_get (v := v23) d_Car_isOverTheRim_5 fl_Car_7 (by decide) rfl (by decide) rfl rfl ?_
    refine V2_icmp_lt (tgt := 15) d_Car_isOverTheRim_8 rfl (fun c37 => ?_) (fun c37 => ?_)
    · refine V2_iconst (v := 0) d_Car_isOverTheRim_15 rfl ?_
      refine V2_zreturn d_Car_isOverTheRim_16 rfl (by decide) ?_
      refine V2.to (st' := [.int (0 : Int32)]) ?_ rfl rfl rfl rfl
      refine V2_if_eq (tgt := 148) d_Car_go_124 rfl (fun _ => ?_) (fun c => (by first | exact absurd c (by decide) | exact absurd (by decide) c))
      refine V2_iload (i := 5) d_Car_go_148 rfl ?_
      refine V2_zreturn d_Car_go_150 rfl (by decide) ?_
      have hs : (grip < gas) := by have h9 := c1; exact Int32.not_le.mp h9
      have ho : ¬ (cDepth (F 46) gas grip ≤ cHeight (F 46) gas grip push rub) := by
        have h9 := c37
        subst ev36 ev35 ev34 ev33 ev32 ev31 ev30 ev29 ev28 ev27 ev26 ev25 ev24 ev23 ev22 ev21 ev20 ev19 ev18 ev17
        simp only [cDepth, cHeight, mn, mx, hs, if_true, if_false]
        exact Int32.not_le.mpr h9
      refine xQi hQ ?_ ?_
      · exact (xb_1 hs).symm
      · subst ev36 ev35 ev34 ev33 ev32 ev31 ev30 ev29 ev28 ev27 ev26 ev25 ev24 ev23 ev22 ev21 ev20 ev19 ev18 ev17
        funext a b
        by_cases hk : a = 46
        · subst hk
          rcases b with _ | _ | _ | _ | _ | _ | _ | _ | b <;> simp [xp, xrw, goC, ho] <;> simp [cDepth, cIce, cSand, cHeight, mn, mx, hs]
        · simp [xp, xrw, hk]
    · refine V2_iconst (v := 1) d_Car_isOverTheRim_11 rfl ?_
      refine V2_goto (tgt := 16) d_Car_isOverTheRim_12 rfl ?_
      refine V2_zreturn d_Car_isOverTheRim_16 rfl (by decide) ?_
      refine V2.to (st' := [.int (1 : Int32)]) ?_ rfl rfl rfl rfl
      refine V2_if_eq (tgt := 148) d_Car_go_124 rfl (fun c => (by first | exact absurd c (by decide) | exact absurd (by decide) c)) (fun _ => ?_)
      refine V2_aload_n (i := 0) d_Car_go_127 rfl rfl ?_
      refine V2_iconst (v := 1) d_Car_go_128 rfl ?_
      refine V2_putz d_Car_go_129 fl_Car_31 (by decide) rfl (by decide) rfl (by decide) ?_
      refine V2_aload_n (i := 0) d_Car_go_132 rfl rfl ?_
      refine V2_sipush (v := 9999) d_Car_go_133 rfl ?_
      refine V2_aload_n (i := 0) d_Car_go_136 rfl rfl ?_
      refine V2_get (v := F 46 6) d_Car_go_137 fl_Car_28 (by decide) rfl (by decide) rfl rfl ?_
      refine V2_topi (fun v38 ev38 => ?_)
      refine V2_iconst (v := 1) d_Car_go_140 rfl ?_
      refine V2_iadd d_Car_go_141 ?_
      refine V2_topi (fun v39 ev39 => ?_)
      refine V2_mmin d_Car_go_142 lz_Car_47 (Nat.le_of_ble_eq_true rfl) ?_
      refine V2_topi (fun v40 ev40 => ?_)
      refine V2_put d_Car_go_145 fl_Car_28 (by decide) rfl (by decide) rfl ?_
      refine V2_iload (i := 5) d_Car_go_148 rfl ?_
      refine V2_zreturn d_Car_go_150 rfl (by decide) ?_
      have hs : (grip < gas) := by have h9 := c1; exact Int32.not_le.mp h9
      have ho : (cDepth (F 46) gas grip ≤ cHeight (F 46) gas grip push rub) := by
        have h9 := c37
        subst ev40 ev39 ev38 ev36 ev35 ev34 ev33 ev32 ev31 ev30 ev29 ev28 ev27 ev26 ev25 ev24 ev23 ev22 ev21 ev20 ev19 ev18 ev17
        simp only [cDepth, cHeight, mn, mx, hs, if_true, if_false]
        exact Int32.not_lt.mp h9
      refine xQi hQ ?_ ?_
      · exact (xb_1 hs).symm
      · subst ev40 ev39 ev38 ev36 ev35 ev34 ev33 ev32 ev31 ev30 ev29 ev28 ev27 ev26 ev25 ev24 ev23 ev22 ev21 ev20 ev19 ev18 ev17
        funext a b
        by_cases hk : a = 46
        · subst hk
          rcases b with _ | _ | _ | _ | _ | _ | _ | _ | b <;> simp [xp, xrw, goC, ho] <;> simp [cDepth, cIce, cSand, cHeight, mn, mx, hs]
        · simp [xp, xrw, hk]
theorem toI_le {a b : Int32} : a ≤ b ↔ a.toInt ≤ b.toInt := Int32.le_iff_toInt_le
theorem toI_lt {a b : Int32} : a < b ↔ a.toInt < b.toInt := Int32.lt_iff_toInt_lt
/-- sums and differences of small numbers do not wrap -/
theorem toI_add {a b : Int32} (h1 : -1000000 ≤ a.toInt) (h2 : a.toInt ≤ 1000000) (h3 : -1000000 ≤ b.toInt) (h4 : b.toInt ≤ 1000000) : (a + b).toInt = a.toInt + b.toInt := by
  rw [Int32.toInt_add]
  simp only [Int.bmod]
  split <;> omega
theorem toI_sub {a b : Int32} (h1 : -1000000 ≤ a.toInt) (h2 : a.toInt ≤ 1000000) (h3 : -1000000 ≤ b.toInt) (h4 : b.toInt ≤ 1000000) : (a - b).toInt = a.toInt - b.toInt := by
  rw [Int32.toInt_sub]
  simp only [Int.bmod]
  split <;> omega
theorem held_range {v lo hi : Int32} (h : lo.toInt ≤ hi.toInt) : lo.toInt ≤ (heldS v lo hi).toInt ∧ (heldS v lo hi).toInt ≤ hi.toInt := by
  unfold heldS
  by_cases h1 : v < lo
  · rw [if_pos h1]
    exact ⟨Int.le_refl _, h⟩
  · rw [if_neg h1]
    rw [toI_lt] at h1
    by_cases h2 : hi < v
    · rw [if_pos h2]
      exact ⟨h, Int.le_refl _⟩
    · rw [if_neg h2]
      rw [toI_lt] at h2
      omega
theorem mn_held {m v lo : Int32} (h : lo.toInt ≤ v.toInt) : mn m v = heldS v lo m := by
  unfold mn heldS
  rw [if_neg (show ¬ v < lo from fun hh => by rw [toI_lt] at hh; omega)]
  by_cases h1 : v < m
  · rw [if_pos h1, if_neg (fun hh => by rw [toI_lt] at hh h1; omega)]
  · rw [if_neg h1]
    by_cases h2 : m < v
    · rw [if_pos h2]
    · rw [if_neg h2]
      refine Int32.toInt_inj.mp ?_
      rw [toI_lt] at h1 h2
      omega
theorem mx_held {v hi : Int32} (h : v.toInt ≤ hi.toInt) : mx 0 v = heldS v 0 hi := by
  unfold mx heldS
  have e0 : (0 : Int32).toInt = 0 := by decide
  by_cases h1 : v < 0
  · rw [if_pos h1, if_neg (fun hh => by rw [toI_lt] at hh h1; omega)]
  · rw [if_neg h1, if_neg (show ¬ hi < v from fun hh => by rw [toI_lt] at hh; omega)]
    by_cases h2 : (0 : Int32) < v
    · rw [if_pos h2]
    · rw [if_neg h2]
      refine Int32.toInt_inj.mp ?_
      rw [toI_lt] at h1 h2
      omega
theorem i32_regroup (h c p r : Int32) : h + c + p - r = h + (p - r) + c := by
  rw [Int32.sub_eq_add_neg, Int32.sub_eq_add_neg]
  ac_rfl
theorem cD_eq {r S : Nat → Int32} {gas grip : Int32} (r0 : r 0 = S 0) (i0 : 1 ≤ (S 0).toInt ∧ (S 0).toInt ≤ 60) : cDepth r gas grip = gDepth S gas grip := by
  have e1 : (1 : Int32).toInt = 1 := by decide
  unfold cDepth gDepth
  rw [r0]
  by_cases hs : grip < gas
  · rw [if_pos hs, if_pos hs]
    exact mn_held (by rw [toI_add (by omega) (by omega) (by omega) (by omega)]; omega)
  · rw [if_neg hs, if_neg hs]
theorem cI_eq {r S : Nat → Int32} {gas grip : Int32} (r1 : r 1 = S 1) (i1 : 0 ≤ (S 1).toInt ∧ (S 1).toInt ≤ 99) (hg : 0 ≤ gas.toInt ∧ gas.toInt ≤ 9) (hgr : 0 ≤ grip.toInt ∧ grip.toInt ≤ 1000) : cIce r gas grip = gIce S gas grip := by
  have e0 : (0 : Int32).toInt = 0 := by decide
  unfold cIce gIce
  rw [r1]
  by_cases hs : grip < gas
  · rw [if_pos hs, if_pos hs]
    rw [toI_lt] at hs
    have ea : (S 1 + gas).toInt = (S 1).toInt + gas.toInt := toI_add (by omega) (by omega) (by omega) (by omega)
    exact mn_held (by rw [toI_sub (by omega) (by omega) (by omega) (by omega), ea]; omega)
  · rw [if_neg hs, if_neg hs]
theorem cS_eq {r S : Nat → Int32} {gas grip : Int32} (r4 : r 4 = S 4) (i4 : 0 ≤ (S 4).toInt ∧ (S 4).toInt ≤ 99) : cSand r gas grip = gSand S gas grip := by
  have e1 : (1 : Int32).toInt = 1 := by decide
  have e99 : (99 : Int32).toInt = 99 := by decide
  unfold cSand gSand
  rw [r4]
  by_cases hs : grip < gas
  · rw [if_pos hs, if_pos hs]
    exact mx_held (by rw [toI_sub (by omega) (by omega) (by omega) (by omega)]; omega)
  · rw [if_neg hs, if_neg hs]
theorem cH_eq {r S : Nat → Int32} {gas grip push rub : Int32} (r2 : r 2 = S 2) : cHeight r gas grip push rub = gHeight S gas grip (push - rub) := by
  unfold cHeight gHeight
  rw [r2, i32_regroup]
  exact held99
theorem cO_eq {x y : Int32} (h : x = y) (i6 : 0 ≤ y.toInt ∧ y.toInt ≤ 9999) : mn 9999 (x + 1) = heldS (y + 1) 0 9999 := by
  have e0 : (0 : Int32).toInt = 0 := by decide
  have e1 : (1 : Int32).toInt = 1 := by decide
  rw [h]
  exact mn_held (by rw [toI_add (by omega) (by omega) (by omega) (by omega)]; omega)
theorem heldR {v lo hi : Int32} {a b : Int} (h1 : lo.toInt = a) (h2 : hi.toInt = b) (h : a ≤ b) : a ≤ (heldS v lo hi).toInt ∧ (heldS v lo hi).toInt ≤ b := by
  have := held_range (v := v) (lo := lo) (hi := hi) (by rw [h1, h2]; exact h)
  rw [h1, h2] at this
  exact this
theorem goM_0 (S : Nat → Int32) (gas grip more : Int32) : goM S gas grip more 0 = gDepth S gas grip := by simp [goM]
theorem goC_0 (r : Nat → Int32) (gas grip push rub : Int32) : goC r gas grip push rub 0 = cDepth r gas grip := by simp [goC]
theorem goM_1 (S : Nat → Int32) (gas grip more : Int32) : goM S gas grip more 1 = gIce S gas grip := by simp [goM]
theorem goC_1 (r : Nat → Int32) (gas grip push rub : Int32) : goC r gas grip push rub 1 = cIce r gas grip := by simp [goC]
theorem goM_2 (S : Nat → Int32) (gas grip more : Int32) : goM S gas grip more 2 = gHeight S gas grip more := by simp [goM]
theorem goC_2 (r : Nat → Int32) (gas grip push rub : Int32) : goC r gas grip push rub 2 = cHeight r gas grip push rub := by simp [goC]
theorem goM_3 (S : Nat → Int32) (gas grip more : Int32) : goM S gas grip more 3 = 1 - S 3 := by simp [goM]
theorem goC_3 (r : Nat → Int32) (gas grip push rub : Int32) : goC r gas grip push rub 3 = 1 - r 3 := by simp [goC]
theorem goM_4 (S : Nat → Int32) (gas grip more : Int32) : goM S gas grip more 4 = gSand S gas grip := by simp [goM]
theorem goC_4 (r : Nat → Int32) (gas grip push rub : Int32) : goC r gas grip push rub 4 = cSand r gas grip := by simp [goC]
theorem goM_5 (S : Nat → Int32) (gas grip more : Int32) : goM S gas grip more 5 = (if gDepth S gas grip ≤ gHeight S gas grip more then 1 else S 5) := by simp [goM]
theorem goC_5 (r : Nat → Int32) (gas grip push rub : Int32) : goC r gas grip push rub 5 = r 5 + 1 := by simp [goC]
theorem goM_6 (S : Nat → Int32) (gas grip more : Int32) : goM S gas grip more 6 = (if gDepth S gas grip ≤ gHeight S gas grip more then heldS (S 6 + 1) 0 9999 else S 6) := by simp [goM]
theorem goC_6 (r : Nat → Int32) (gas grip push rub : Int32) : goC r gas grip push rub 6 = (if cDepth r gas grip ≤ cHeight r gas grip push rub then mn 9999 (r 6 + 1) else r 6) := by simp [goC]
theorem goM_7 (S : Nat → Int32) (gas grip more : Int32) : goM S gas grip more 7 = S 7 + 1 := by simp [goM]
theorem goC_7 (r : Nat → Int32) (gas grip push rub : Int32) : goC r gas grip push rub 7 = (if cDepth r gas grip ≤ cHeight r gas grip push rub then 1 else r 7) := by simp [goC]
theorem goM_hi (S : Nat → Int32) (gas grip more : Int32) {j : Nat} (h : 8 ≤ j) : goM S gas grip more j = S j := by
  unfold goM
  rw [if_neg (show ¬ j = 0 by omega)]
  rw [if_neg (show ¬ j = 1 by omega)]
  rw [if_neg (show ¬ j = 2 by omega)]
  rw [if_neg (show ¬ j = 3 by omega)]
  rw [if_neg (show ¬ j = 4 by omega)]
  rw [if_neg (show ¬ j = 5 by omega)]
  rw [if_neg (show ¬ j = 6 by omega)]
  rw [if_neg (show ¬ j = 7 by omega)]
theorem go_inv {S : Nat → Int32} {gas grip more : Int32} (hi : invC S) : invC (goM S gas grip more) := by
  obtain ⟨i0, i1, i2, i3, i4, i5, i6⟩ := hi
  unfold invC
  rw [goM_0, goM_1, goM_2, goM_3, goM_4, goM_5, goM_6]
  refine ⟨?_, ?_, ?_, ?_, ?_, ?_, ?_⟩
  · unfold gDepth
    split
    · exact heldR (by decide) (by decide) (by decide)
    · exact i0
  · unfold gIce
    split
    · exact heldR (by decide) (by decide) (by decide)
    · exact i1
  · exact heldR (a := 0) (b := 99) (by decide) (by decide) (by decide)
  · rcases i3 with h | h
    · rw [h]; exact Or.inr (by decide)
    · rw [h]; exact Or.inl (by decide)
  · unfold gSand
    split
    · exact heldR (by decide) (by decide) (by decide)
    · exact i4
  · split
    · exact Or.inr rfl
    · exact i5
  · split
    · exact heldR (a := 0) (b := 9999) (by decide) (by decide) (by omega)
    · exact i6
/-- one swing: the class's car and the state's row stay tied -/
theorem go_rel {r S : Nat → Int32} {gas grip push rub : Int32} (h : relCr r S) (hi : invC S) (hg : 0 ≤ gas.toInt ∧ gas.toInt ≤ 9) (hgr : 0 ≤ grip.toInt ∧ grip.toInt ≤ 1000) : relCr (goC r gas grip push rub) (goM S gas grip (push - rub)) := by
  obtain ⟨r0, r1, r2, r3, r4, r5, r6, r7⟩ := h
  obtain ⟨i0, i1, i2, i3, i4, i5, i6⟩ := hi
  have hD := cD_eq (gas := gas) (grip := grip) r0 i0
  have hH := cH_eq (gas := gas) (grip := grip) (push := push) (rub := rub) r2
  unfold relCr
  rw [goM_0, goM_1, goM_2, goM_3, goM_4, goM_5, goM_6, goM_7, goC_0, goC_1, goC_2, goC_3, goC_4, goC_5, goC_6, goC_7, hD, hH, cI_eq r1 i1 hg hgr, cS_eq r4 i4, cO_eq r6 i6, r3, r5, r6, r7]
  exact ⟨rfl, rfl, rfl, rfl, rfl, rfl, rfl, rfl⟩
theorem gripM_range (S : Nat → Int32) (set : Int32) (P : Nat) : 0 ≤ (gripM S set P).toInt ∧ (gripM S set P).toInt ≤ 1000 := by
  have e0 : (0 : Int32).toInt = 0 := by decide
  have e3 : (3 : Int32).toInt = 3 := by decide
  have e99 : (99 : Int32).toInt = 99 := by decide
  have key : ∀ X Y : Int32, 0 ≤ Y.toInt → Y.toInt ≤ 3 → 0 ≤ (heldS X 0 99 + Y).toInt ∧ (heldS X 0 99 + Y).toInt ≤ 1000 := by
    intro X Y h1 h2
    have h := held_range (v := X) (lo := 0) (hi := 99) (by rw [e0, e99]; omega)
    rw [e0, e99] at h
    rw [toI_add (by omega) (by omega) (by omega) (by omega)]
    omega
  refine key _ _ ?_ ?_
  · split
    · rw [e0]; omega
    · rw [e3]; omega
  · split
    · rw [e0]; omega
    · rw [e3]; omega
theorem c_World_gripOf_2 {L : Nat} {xs : Nat → Int32} {d : Nat} {Q : Option Value → xF → Prop} {F : xF} {S : Nat → Int32} {P : Nat} {set : Int32} (hC : relCr (F 2) S) (hPp : relP F S P) (hL0 : relL F 8 0 S) (hT0 : okT 0 S) (hQ : ∀ q : Nat → Int32, Q (some (.int (gripM S set P))) (xrw F 10 q)) : V2 L xs (d + 5) m_World_gripOf 0 (xEntry [.ref 1, .ref 2, .int set] 4) [] F Q := by
  refine V2.to (l' := [some (.ref 1), some (.ref 2), some (.int set), none]) ?_ rfl rfl rfl rfl
  refine V2_aload_n (i := 1) d_World_gripOf_0 rfl rfl ?_
  refine V2_get (v := F 2 4) d_World_gripOf_1 fl_World_49 (by decide) rfl (by decide) rfl rfl ?_
  refine V2_topi (fun v1 ev1 => ?_)
  refine V2_if_ne (tgt := 11) d_World_gripOf_4 rfl (fun c2 => ?_) (fun c2 => ?_)
  · refine V2_iconst (v := 3) d_World_gripOf_11 rfl ?_
    refine V2_istore_n (i := 3) (l' := [some (.ref 1), some (.ref 2), some (.int set), some (.int (3 : Int32))]) d_World_gripOf_12 rfl (xst_i (Nat.le_of_ble_eq_true rfl) rfl rfl) ?_
    refine V2_aload_n (i := 0) d_World_gripOf_13 rfl rfl ?_
    refine V2_getr (a := 8) d_World_gripOf_14 fl_World_28 (by decide) rfl (by decide) rfl ?_
    refine V2_aload_n (i := 1) d_World_gripOf_17 rfl rfl ?_
    refine V2_get (v := F 2 1) d_World_gripOf_18 fl_World_52 (by decide) rfl (by decide) rfl rfl ?_
    refine V2_topi (fun v3 ev3 => ?_)
    refine V2_aload_n (i := 1) d_World_gripOf_21 rfl rfl ?_
    refine V2_get (v := F 2 0) d_World_gripOf_22 fl_World_55 (by decide) rfl (by decide) rfl rfl ?_
    refine V2_topi (fun v4 ev4 => ?_)
    refine V2_aload_n (i := 0) d_World_gripOf_25 rfl rfl ?_
    refine V2_getr (a := 3) d_World_gripOf_26 fl_World_19 (by decide) rfl (by decide) rfl ?_
    refine V2_iload_n (i := 2) d_World_gripOf_29 rfl rfl ?_
    refine V2_callV [.int set] d_World_gripOf_30 rfl rfl lk_World_58 mo_Push_weightOfSet (by decide) rfl rfl rfl (Nat.le_of_ble_eq_true rfl) (Nat.le_of_ble_eq_true rfl) ?_
    refine c_Push_weightOfSet hPp.1 hPp.2.1 hPp.2.2.1 ?_
    refine V2_topi (x := _) (fun v5 ev5 => ?_)
    refine V2_callV [.int v3, .int v4, .int v5] d_World_gripOf_33 rfl rfl lk_World_62 mo_Law_gives (by decide) rfl rfl rfl (Nat.le_of_ble_eq_true rfl) (Nat.le_of_ble_eq_true rfl) ?_
    refine c_Law_gives8 hL0 hT0 (fun q6 => ?_)
    refine V2_topi (fun v7 ev7 => ?_)
    refine V2_iload_n (i := 3) d_World_gripOf_36 rfl rfl ?_
    refine V2_iadd d_World_gripOf_37 ?_
    refine V2_topi (fun v8 ev8 => ?_)
    refine V2_ireturn d_World_gripOf_38 rfl ?_
    refine xQi (hQ q6) ?_ rfl
    have hsa : ¬ S 4 = 0 := by have h9 := c2; subst ev8 ev7 ev5 ev4 ev3 ev1; rw [hC.2.2.2.2.1] at h9; exact h9
    unfold gripM
    rw [if_neg hsa, ← relP_weight hPp set, ← hC.2.1, ← hC.1]
    subst ev8 ev7 ev5 ev4 ev3 ev1
    rfl
  · refine V2_iconst (v := 0) d_World_gripOf_7 rfl ?_
    refine V2_goto (tgt := 12) d_World_gripOf_8 rfl ?_
    refine V2_istore_n (i := 3) (l' := [some (.ref 1), some (.ref 2), some (.int set), some (.int (0 : Int32))]) d_World_gripOf_12 rfl (xst_i (Nat.le_of_ble_eq_true rfl) rfl rfl) ?_
    refine V2_aload_n (i := 0) d_World_gripOf_13 rfl rfl ?_
    refine V2_getr (a := 8) d_World_gripOf_14 fl_World_28 (by decide) rfl (by decide) rfl ?_
    refine V2_aload_n (i := 1) d_World_gripOf_17 rfl rfl ?_
    refine V2_get (v := F 2 1) d_World_gripOf_18 fl_World_52 (by decide) rfl (by decide) rfl rfl ?_
    refine V2_topi (fun v9 ev9 => ?_)
    refine V2_aload_n (i := 1) d_World_gripOf_21 rfl rfl ?_
    refine V2_get (v := F 2 0) d_World_gripOf_22 fl_World_55 (by decide) rfl (by decide) rfl rfl ?_
    refine V2_topi (fun v10 ev10 => ?_)
    refine V2_aload_n (i := 0) d_World_gripOf_25 rfl rfl ?_
    refine V2_getr (a := 3) d_World_gripOf_26 fl_World_19 (by decide) rfl (by decide) rfl ?_
    refine V2_iload_n (i := 2) d_World_gripOf_29 rfl rfl ?_
    refine V2_callV [.int set] d_World_gripOf_30 rfl rfl lk_World_58 mo_Push_weightOfSet (by decide) rfl rfl rfl (Nat.le_of_ble_eq_true rfl) (Nat.le_of_ble_eq_true rfl) ?_
    refine c_Push_weightOfSet hPp.1 hPp.2.1 hPp.2.2.1 ?_
    refine V2_topi (x := _) (fun v11 ev11 => ?_)
    refine V2_callV [.int v9, .int v10, .int v11] d_World_gripOf_33 rfl rfl lk_World_62 mo_Law_gives (by decide) rfl rfl rfl (Nat.le_of_ble_eq_true rfl) (Nat.le_of_ble_eq_true rfl) ?_
    refine c_Law_gives8 hL0 hT0 (fun q12 => ?_)
    refine V2_topi (fun v13 ev13 => ?_)
    refine V2_iload_n (i := 3) d_World_gripOf_36 rfl rfl ?_
    refine V2_iadd d_World_gripOf_37 ?_
    refine V2_topi (fun v14 ev14 => ?_)
    refine V2_ireturn d_World_gripOf_38 rfl ?_
    refine xQi (hQ q12) ?_ rfl
    have hsa : S 4 = 0 := by have h9 := c2; subst ev14 ev13 ev11 ev10 ev9 ev1; rw [hC.2.2.2.2.1] at h9; exact h9
    unfold gripM
    rw [if_pos hsa, ← relP_weight hPp set, ← hC.2.1, ← hC.1]
    subst ev14 ev13 ev11 ev10 ev9 ev1
    rfl
theorem c_World_pushOf_2 {L : Nat} {xs : Nat → Int32} {d : Nat} {Q : Option Value → xF → Prop} {F : xF} {S : Nat → Int32} {P : Nat} {set : Int32} (hC : relCr (F 2) S) (hPp : relP F S P) (hQ : Q (some (.int (pushSum S set P))) F) : V2 L xs (d + 5) m_World_pushOf 0 (xEntry [.ref 1, .ref 2, .int set] 3) [] F Q := by
  refine V2.to (l' := [some (.ref 1), some (.ref 2), some (.int set)]) ?_ rfl rfl rfl rfl
  refine V2_aload_n (i := 0) d_World_pushOf_0 rfl rfl ?_
  refine V2_getr (a := 3) d_World_pushOf_1 fl_World_19 (by decide) rfl (by decide) rfl ?_
  refine V2_iload_n (i := 2) d_World_pushOf_4 rfl rfl ?_
  refine V2_aload_n (i := 1) d_World_pushOf_5 rfl rfl ?_
  refine V2_callV [.int set, .ref 2] d_World_pushOf_6 rfl rfl lk_World_66 mo_Push_pushOfSet (by decide) rfl rfl rfl (Nat.le_of_ble_eq_true rfl) (Nat.le_of_ble_eq_true rfl) ?_
  refine c_Push_pushOfSet_2 hPp.1 hPp.2.1 hPp.2.2.1 ?_
  refine V2_topi (fun v1 ev1 => ?_)
  refine V2_ireturn d_World_pushOf_9 rfl ?_
  refine xQi hQ ?_ rfl
  subst ev1
  exact relP_push hPp set hC.2.2.2.1 hC.2.2.1 hC.2.2.2.2.2.1
theorem c_World_rubOf_2 {L : Nat} {xs : Nat → Int32} {d : Nat} {Q : Option Value → xF → Prop} {F : xF} {S : Nat → Int32} (hC : relCr (F 2) S) (hL1 : relL F 11 1 S) (hT1 : okT 1 S) (hQ : ∀ q : Nat → Int32, Q (some (.int (rubM S))) (xrw F 13 q)) : V2 L xs (d + 4) m_World_rubOf 0 (xEntry [.ref 1, .ref 2] 2) [] F Q := by
  refine V2.to (l' := [some (.ref 1), some (.ref 2)]) ?_ rfl rfl rfl rfl
  refine V2_aload_n (i := 0) d_World_rubOf_0 rfl rfl ?_
  refine V2_getr (a := 11) d_World_rubOf_1 fl_World_32 (by decide) rfl (by decide) rfl ?_
  refine V2_aload_n (i := 1) d_World_rubOf_4 rfl rfl ?_
  refine V2_get (v := F 2 2) d_World_rubOf_5 fl_World_70 (by decide) rfl (by decide) rfl rfl ?_
  refine V2_topi (fun v1 ev1 => ?_)
  refine V2_aload_n (i := 1) d_World_rubOf_8 rfl rfl ?_
  refine V2_get (v := F 2 0) d_World_rubOf_9 fl_World_55 (by decide) rfl (by decide) rfl rfl ?_
  refine V2_topi (fun v2 ev2 => ?_)
  refine V2_aload_n (i := 1) d_World_rubOf_12 rfl rfl ?_
  refine V2_get (v := F 2 5) d_World_rubOf_13 fl_World_73 (by decide) rfl (by decide) rfl rfl ?_
  refine V2_topi (fun v3 ev3 => ?_)
  refine V2_callV [.int v1, .int v2, .int v3] d_World_rubOf_16 rfl rfl lk_World_62 mo_Law_gives (by decide) rfl rfl rfl (Nat.le_of_ble_eq_true rfl) (Nat.le_of_ble_eq_true rfl) ?_
  refine c_Law_gives11 hL1 hT1 (fun q4 => ?_)
  refine V2_topi (fun v5 ev5 => ?_)
  refine V2_ireturn d_World_rubOf_19 rfl ?_
  refine xQi (hQ q4) ?_ rfl
  unfold rubM
  rw [← hC.1, ← hC.2.2.1, ← hC.2.2.2.2.2.1]
  subst ev5 ev3 ev2 ev1
  rfl
theorem c_World_gripOf_35 {L : Nat} {xs : Nat → Int32} {d : Nat} {Q : Option Value → xF → Prop} {F : xF} {S : Nat → Int32} {P : Nat} {set : Int32} (hC : relCr (F 35) S) (hPp : relP F S P) (hL0 : relL F 8 0 S) (hT0 : okT 0 S) (hQ : ∀ q : Nat → Int32, Q (some (.int (gripM S set P))) (xrw F 10 q)) : V2 L xs (d + 5) m_World_gripOf 0 (xEntry [.ref 1, .ref 35, .int set] 4) [] F Q := by
  refine V2.to (l' := [some (.ref 1), some (.ref 35), some (.int set), none]) ?_ rfl rfl rfl rfl
  refine V2_aload_n (i := 1) d_World_gripOf_0 rfl rfl ?_
  refine V2_get (v := F 35 4) d_World_gripOf_1 fl_World_49 (by decide) rfl (by decide) rfl rfl ?_
  refine V2_topi (fun v1 ev1 => ?_)
  refine V2_if_ne (tgt := 11) d_World_gripOf_4 rfl (fun c2 => ?_) (fun c2 => ?_)
  · refine V2_iconst (v := 3) d_World_gripOf_11 rfl ?_
    refine V2_istore_n (i := 3) (l' := [some (.ref 1), some (.ref 35), some (.int set), some (.int (3 : Int32))]) d_World_gripOf_12 rfl (xst_i (Nat.le_of_ble_eq_true rfl) rfl rfl) ?_
    refine V2_aload_n (i := 0) d_World_gripOf_13 rfl rfl ?_
    refine V2_getr (a := 8) d_World_gripOf_14 fl_World_28 (by decide) rfl (by decide) rfl ?_
    refine V2_aload_n (i := 1) d_World_gripOf_17 rfl rfl ?_
    refine V2_get (v := F 35 1) d_World_gripOf_18 fl_World_52 (by decide) rfl (by decide) rfl rfl ?_
    refine V2_topi (fun v3 ev3 => ?_)
    refine V2_aload_n (i := 1) d_World_gripOf_21 rfl rfl ?_
    refine V2_get (v := F 35 0) d_World_gripOf_22 fl_World_55 (by decide) rfl (by decide) rfl rfl ?_
    refine V2_topi (fun v4 ev4 => ?_)
    refine V2_aload_n (i := 0) d_World_gripOf_25 rfl rfl ?_
    refine V2_getr (a := 3) d_World_gripOf_26 fl_World_19 (by decide) rfl (by decide) rfl ?_
    refine V2_iload_n (i := 2) d_World_gripOf_29 rfl rfl ?_
    refine V2_callV [.int set] d_World_gripOf_30 rfl rfl lk_World_58 mo_Push_weightOfSet (by decide) rfl rfl rfl (Nat.le_of_ble_eq_true rfl) (Nat.le_of_ble_eq_true rfl) ?_
    refine c_Push_weightOfSet hPp.1 hPp.2.1 hPp.2.2.1 ?_
    refine V2_topi (x := _) (fun v5 ev5 => ?_)
    refine V2_callV [.int v3, .int v4, .int v5] d_World_gripOf_33 rfl rfl lk_World_62 mo_Law_gives (by decide) rfl rfl rfl (Nat.le_of_ble_eq_true rfl) (Nat.le_of_ble_eq_true rfl) ?_
    refine c_Law_gives8 hL0 hT0 (fun q6 => ?_)
    refine V2_topi (fun v7 ev7 => ?_)
    refine V2_iload_n (i := 3) d_World_gripOf_36 rfl rfl ?_
    refine V2_iadd d_World_gripOf_37 ?_
    refine V2_topi (fun v8 ev8 => ?_)
    refine V2_ireturn d_World_gripOf_38 rfl ?_
    refine xQi (hQ q6) ?_ rfl
    have hsa : ¬ S 4 = 0 := by have h9 := c2; subst ev8 ev7 ev5 ev4 ev3 ev1; rw [hC.2.2.2.2.1] at h9; exact h9
    unfold gripM
    rw [if_neg hsa, ← relP_weight hPp set, ← hC.2.1, ← hC.1]
    subst ev8 ev7 ev5 ev4 ev3 ev1
    rfl
  · refine V2_iconst (v := 0) d_World_gripOf_7 rfl ?_
    refine V2_goto (tgt := 12) d_World_gripOf_8 rfl ?_
    refine V2_istore_n (i := 3) (l' := [some (.ref 1), some (.ref 35), some (.int set), some (.int (0 : Int32))]) d_World_gripOf_12 rfl (xst_i (Nat.le_of_ble_eq_true rfl) rfl rfl) ?_
    refine V2_aload_n (i := 0) d_World_gripOf_13 rfl rfl ?_
    refine V2_getr (a := 8) d_World_gripOf_14 fl_World_28 (by decide) rfl (by decide) rfl ?_
    refine V2_aload_n (i := 1) d_World_gripOf_17 rfl rfl ?_
    refine V2_get (v := F 35 1) d_World_gripOf_18 fl_World_52 (by decide) rfl (by decide) rfl rfl ?_
    refine V2_topi (fun v9 ev9 => ?_)
    refine V2_aload_n (i := 1) d_World_gripOf_21 rfl rfl ?_
    refine V2_get (v := F 35 0) d_World_gripOf_22 fl_World_55 (by decide) rfl (by decide) rfl rfl ?_
    refine V2_topi (fun v10 ev10 => ?_)
    refine V2_aload_n (i := 0) d_World_gripOf_25 rfl rfl ?_
    refine V2_getr (a := 3) d_World_gripOf_26 fl_World_19 (by decide) rfl (by decide) rfl ?_
    refine V2_iload_n (i := 2) d_World_gripOf_29 rfl rfl ?_
    refine V2_callV [.int set] d_World_gripOf_30 rfl rfl lk_World_58 mo_Push_weightOfSet (by decide) rfl rfl rfl (Nat.le_of_ble_eq_true rfl) (Nat.le_of_ble_eq_true rfl) ?_
    refine c_Push_weightOfSet hPp.1 hPp.2.1 hPp.2.2.1 ?_
    refine V2_topi (x := _) (fun v11 ev11 => ?_)
    refine V2_callV [.int v9, .int v10, .int v11] d_World_gripOf_33 rfl rfl lk_World_62 mo_Law_gives (by decide) rfl rfl rfl (Nat.le_of_ble_eq_true rfl) (Nat.le_of_ble_eq_true rfl) ?_
    refine c_Law_gives8 hL0 hT0 (fun q12 => ?_)
    refine V2_topi (fun v13 ev13 => ?_)
    refine V2_iload_n (i := 3) d_World_gripOf_36 rfl rfl ?_
    refine V2_iadd d_World_gripOf_37 ?_
    refine V2_topi (fun v14 ev14 => ?_)
    refine V2_ireturn d_World_gripOf_38 rfl ?_
    refine xQi (hQ q12) ?_ rfl
    have hsa : S 4 = 0 := by have h9 := c2; subst ev14 ev13 ev11 ev10 ev9 ev1; rw [hC.2.2.2.2.1] at h9; exact h9
    unfold gripM
    rw [if_pos hsa, ← relP_weight hPp set, ← hC.2.1, ← hC.1]
    subst ev14 ev13 ev11 ev10 ev9 ev1
    rfl
theorem c_World_pushOf_35 {L : Nat} {xs : Nat → Int32} {d : Nat} {Q : Option Value → xF → Prop} {F : xF} {S : Nat → Int32} {P : Nat} {set : Int32} (hC : relCr (F 35) S) (hPp : relP F S P) (hQ : Q (some (.int (pushSum S set P))) F) : V2 L xs (d + 5) m_World_pushOf 0 (xEntry [.ref 1, .ref 35, .int set] 3) [] F Q := by
  refine V2.to (l' := [some (.ref 1), some (.ref 35), some (.int set)]) ?_ rfl rfl rfl rfl
  refine V2_aload_n (i := 0) d_World_pushOf_0 rfl rfl ?_
  refine V2_getr (a := 3) d_World_pushOf_1 fl_World_19 (by decide) rfl (by decide) rfl ?_
  refine V2_iload_n (i := 2) d_World_pushOf_4 rfl rfl ?_
  refine V2_aload_n (i := 1) d_World_pushOf_5 rfl rfl ?_
  refine V2_callV [.int set, .ref 35] d_World_pushOf_6 rfl rfl lk_World_66 mo_Push_pushOfSet (by decide) rfl rfl rfl (Nat.le_of_ble_eq_true rfl) (Nat.le_of_ble_eq_true rfl) ?_
  refine c_Push_pushOfSet_35 hPp.1 hPp.2.1 hPp.2.2.1 ?_
  refine V2_topi (fun v1 ev1 => ?_)
  refine V2_ireturn d_World_pushOf_9 rfl ?_
  refine xQi hQ ?_ rfl
  subst ev1
  exact relP_push hPp set hC.2.2.2.1 hC.2.2.1 hC.2.2.2.2.2.1
theorem c_World_rubOf_35 {L : Nat} {xs : Nat → Int32} {d : Nat} {Q : Option Value → xF → Prop} {F : xF} {S : Nat → Int32} (hC : relCr (F 35) S) (hL1 : relL F 11 1 S) (hT1 : okT 1 S) (hQ : ∀ q : Nat → Int32, Q (some (.int (rubM S))) (xrw F 13 q)) : V2 L xs (d + 4) m_World_rubOf 0 (xEntry [.ref 1, .ref 35] 2) [] F Q := by
  refine V2.to (l' := [some (.ref 1), some (.ref 35)]) ?_ rfl rfl rfl rfl
  refine V2_aload_n (i := 0) d_World_rubOf_0 rfl rfl ?_
  refine V2_getr (a := 11) d_World_rubOf_1 fl_World_32 (by decide) rfl (by decide) rfl ?_
  refine V2_aload_n (i := 1) d_World_rubOf_4 rfl rfl ?_
  refine V2_get (v := F 35 2) d_World_rubOf_5 fl_World_70 (by decide) rfl (by decide) rfl rfl ?_
  refine V2_topi (fun v1 ev1 => ?_)
  refine V2_aload_n (i := 1) d_World_rubOf_8 rfl rfl ?_
  refine V2_get (v := F 35 0) d_World_rubOf_9 fl_World_55 (by decide) rfl (by decide) rfl rfl ?_
  refine V2_topi (fun v2 ev2 => ?_)
  refine V2_aload_n (i := 1) d_World_rubOf_12 rfl rfl ?_
  refine V2_get (v := F 35 5) d_World_rubOf_13 fl_World_73 (by decide) rfl (by decide) rfl rfl ?_
  refine V2_topi (fun v3 ev3 => ?_)
  refine V2_callV [.int v1, .int v2, .int v3] d_World_rubOf_16 rfl rfl lk_World_62 mo_Law_gives (by decide) rfl rfl rfl (Nat.le_of_ble_eq_true rfl) (Nat.le_of_ble_eq_true rfl) ?_
  refine c_Law_gives11 hL1 hT1 (fun q4 => ?_)
  refine V2_topi (fun v5 ev5 => ?_)
  refine V2_ireturn d_World_rubOf_19 rfl ?_
  refine xQi (hQ q4) ?_ rfl
  unfold rubM
  rw [← hC.1, ← hC.2.2.1, ← hC.2.2.2.2.2.1]
  subst ev5 ev3 ev2 ev1
  rfl
theorem c_World_gripOf_42 {L : Nat} {xs : Nat → Int32} {d : Nat} {Q : Option Value → xF → Prop} {F : xF} {S : Nat → Int32} {P : Nat} {set : Int32} (hC : relCr (F 42) S) (hPp : relP F S P) (hL0 : relL F 8 0 S) (hT0 : okT 0 S) (hQ : ∀ q : Nat → Int32, Q (some (.int (gripM S set P))) (xrw F 10 q)) : V2 L xs (d + 5) m_World_gripOf 0 (xEntry [.ref 1, .ref 42, .int set] 4) [] F Q := by
  refine V2.to (l' := [some (.ref 1), some (.ref 42), some (.int set), none]) ?_ rfl rfl rfl rfl
  refine V2_aload_n (i := 1) d_World_gripOf_0 rfl rfl ?_
  refine V2_get (v := F 42 4) d_World_gripOf_1 fl_World_49 (by decide) rfl (by decide) rfl rfl ?_
  refine V2_topi (fun v1 ev1 => ?_)
  refine V2_if_ne (tgt := 11) d_World_gripOf_4 rfl (fun c2 => ?_) (fun c2 => ?_)
  · refine V2_iconst (v := 3) d_World_gripOf_11 rfl ?_
    refine V2_istore_n (i := 3) (l' := [some (.ref 1), some (.ref 42), some (.int set), some (.int (3 : Int32))]) d_World_gripOf_12 rfl (xst_i (Nat.le_of_ble_eq_true rfl) rfl rfl) ?_
    refine V2_aload_n (i := 0) d_World_gripOf_13 rfl rfl ?_
    refine V2_getr (a := 8) d_World_gripOf_14 fl_World_28 (by decide) rfl (by decide) rfl ?_
    refine V2_aload_n (i := 1) d_World_gripOf_17 rfl rfl ?_
    refine V2_get (v := F 42 1) d_World_gripOf_18 fl_World_52 (by decide) rfl (by decide) rfl rfl ?_
    refine V2_topi (fun v3 ev3 => ?_)
    refine V2_aload_n (i := 1) d_World_gripOf_21 rfl rfl ?_
    refine V2_get (v := F 42 0) d_World_gripOf_22 fl_World_55 (by decide) rfl (by decide) rfl rfl ?_
    refine V2_topi (fun v4 ev4 => ?_)
    refine V2_aload_n (i := 0) d_World_gripOf_25 rfl rfl ?_
    refine V2_getr (a := 3) d_World_gripOf_26 fl_World_19 (by decide) rfl (by decide) rfl ?_
    refine V2_iload_n (i := 2) d_World_gripOf_29 rfl rfl ?_
    refine V2_callV [.int set] d_World_gripOf_30 rfl rfl lk_World_58 mo_Push_weightOfSet (by decide) rfl rfl rfl (Nat.le_of_ble_eq_true rfl) (Nat.le_of_ble_eq_true rfl) ?_
    refine c_Push_weightOfSet hPp.1 hPp.2.1 hPp.2.2.1 ?_
    refine V2_topi (x := _) (fun v5 ev5 => ?_)
    refine V2_callV [.int v3, .int v4, .int v5] d_World_gripOf_33 rfl rfl lk_World_62 mo_Law_gives (by decide) rfl rfl rfl (Nat.le_of_ble_eq_true rfl) (Nat.le_of_ble_eq_true rfl) ?_
    refine c_Law_gives8 hL0 hT0 (fun q6 => ?_)
    refine V2_topi (fun v7 ev7 => ?_)
    refine V2_iload_n (i := 3) d_World_gripOf_36 rfl rfl ?_
    refine V2_iadd d_World_gripOf_37 ?_
    refine V2_topi (fun v8 ev8 => ?_)
    refine V2_ireturn d_World_gripOf_38 rfl ?_
    refine xQi (hQ q6) ?_ rfl
    have hsa : ¬ S 4 = 0 := by have h9 := c2; subst ev8 ev7 ev5 ev4 ev3 ev1; rw [hC.2.2.2.2.1] at h9; exact h9
    unfold gripM
    rw [if_neg hsa, ← relP_weight hPp set, ← hC.2.1, ← hC.1]
    subst ev8 ev7 ev5 ev4 ev3 ev1
    rfl
  · refine V2_iconst (v := 0) d_World_gripOf_7 rfl ?_
    refine V2_goto (tgt := 12) d_World_gripOf_8 rfl ?_
    refine V2_istore_n (i := 3) (l' := [some (.ref 1), some (.ref 42), some (.int set), some (.int (0 : Int32))]) d_World_gripOf_12 rfl (xst_i (Nat.le_of_ble_eq_true rfl) rfl rfl) ?_
    refine V2_aload_n (i := 0) d_World_gripOf_13 rfl rfl ?_
    refine V2_getr (a := 8) d_World_gripOf_14 fl_World_28 (by decide) rfl (by decide) rfl ?_
    refine V2_aload_n (i := 1) d_World_gripOf_17 rfl rfl ?_
    refine V2_get (v := F 42 1) d_World_gripOf_18 fl_World_52 (by decide) rfl (by decide) rfl rfl ?_
    refine V2_topi (fun v9 ev9 => ?_)
    refine V2_aload_n (i := 1) d_World_gripOf_21 rfl rfl ?_
    refine V2_get (v := F 42 0) d_World_gripOf_22 fl_World_55 (by decide) rfl (by decide) rfl rfl ?_
    refine V2_topi (fun v10 ev10 => ?_)
    refine V2_aload_n (i := 0) d_World_gripOf_25 rfl rfl ?_
    refine V2_getr (a := 3) d_World_gripOf_26 fl_World_19 (by decide) rfl (by decide) rfl ?_
    refine V2_iload_n (i := 2) d_World_gripOf_29 rfl rfl ?_
    refine V2_callV [.int set] d_World_gripOf_30 rfl rfl lk_World_58 mo_Push_weightOfSet (by decide) rfl rfl rfl (Nat.le_of_ble_eq_true rfl) (Nat.le_of_ble_eq_true rfl) ?_
    refine c_Push_weightOfSet hPp.1 hPp.2.1 hPp.2.2.1 ?_
    refine V2_topi (x := _) (fun v11 ev11 => ?_)
    refine V2_callV [.int v9, .int v10, .int v11] d_World_gripOf_33 rfl rfl lk_World_62 mo_Law_gives (by decide) rfl rfl rfl (Nat.le_of_ble_eq_true rfl) (Nat.le_of_ble_eq_true rfl) ?_
    refine c_Law_gives8 hL0 hT0 (fun q12 => ?_)
    refine V2_topi (fun v13 ev13 => ?_)
    refine V2_iload_n (i := 3) d_World_gripOf_36 rfl rfl ?_
    refine V2_iadd d_World_gripOf_37 ?_
    refine V2_topi (fun v14 ev14 => ?_)
    refine V2_ireturn d_World_gripOf_38 rfl ?_
    refine xQi (hQ q12) ?_ rfl
    have hsa : S 4 = 0 := by have h9 := c2; subst ev14 ev13 ev11 ev10 ev9 ev1; rw [hC.2.2.2.2.1] at h9; exact h9
    unfold gripM
    rw [if_pos hsa, ← relP_weight hPp set, ← hC.2.1, ← hC.1]
    subst ev14 ev13 ev11 ev10 ev9 ev1
    rfl
theorem c_World_pushOf_42 {L : Nat} {xs : Nat → Int32} {d : Nat} {Q : Option Value → xF → Prop} {F : xF} {S : Nat → Int32} {P : Nat} {set : Int32} (hC : relCr (F 42) S) (hPp : relP F S P) (hQ : Q (some (.int (pushSum S set P))) F) : V2 L xs (d + 5) m_World_pushOf 0 (xEntry [.ref 1, .ref 42, .int set] 3) [] F Q := by
  refine V2.to (l' := [some (.ref 1), some (.ref 42), some (.int set)]) ?_ rfl rfl rfl rfl
  refine V2_aload_n (i := 0) d_World_pushOf_0 rfl rfl ?_
  refine V2_getr (a := 3) d_World_pushOf_1 fl_World_19 (by decide) rfl (by decide) rfl ?_
  refine V2_iload_n (i := 2) d_World_pushOf_4 rfl rfl ?_
  refine V2_aload_n (i := 1) d_World_pushOf_5 rfl rfl ?_
  refine V2_callV [.int set, .ref 42] d_World_pushOf_6 rfl rfl lk_World_66 mo_Push_pushOfSet (by decide) rfl rfl rfl (Nat.le_of_ble_eq_true rfl) (Nat.le_of_ble_eq_true rfl) ?_
  refine c_Push_pushOfSet_42 hPp.1 hPp.2.1 hPp.2.2.1 ?_
  refine V2_topi (fun v1 ev1 => ?_)
  refine V2_ireturn d_World_pushOf_9 rfl ?_
  refine xQi hQ ?_ rfl
  subst ev1
  exact relP_push hPp set hC.2.2.2.1 hC.2.2.1 hC.2.2.2.2.2.1
theorem c_World_rubOf_42 {L : Nat} {xs : Nat → Int32} {d : Nat} {Q : Option Value → xF → Prop} {F : xF} {S : Nat → Int32} (hC : relCr (F 42) S) (hL1 : relL F 11 1 S) (hT1 : okT 1 S) (hQ : ∀ q : Nat → Int32, Q (some (.int (rubM S))) (xrw F 13 q)) : V2 L xs (d + 4) m_World_rubOf 0 (xEntry [.ref 1, .ref 42] 2) [] F Q := by
  refine V2.to (l' := [some (.ref 1), some (.ref 42)]) ?_ rfl rfl rfl rfl
  refine V2_aload_n (i := 0) d_World_rubOf_0 rfl rfl ?_
  refine V2_getr (a := 11) d_World_rubOf_1 fl_World_32 (by decide) rfl (by decide) rfl ?_
  refine V2_aload_n (i := 1) d_World_rubOf_4 rfl rfl ?_
  refine V2_get (v := F 42 2) d_World_rubOf_5 fl_World_70 (by decide) rfl (by decide) rfl rfl ?_
  refine V2_topi (fun v1 ev1 => ?_)
  refine V2_aload_n (i := 1) d_World_rubOf_8 rfl rfl ?_
  refine V2_get (v := F 42 0) d_World_rubOf_9 fl_World_55 (by decide) rfl (by decide) rfl rfl ?_
  refine V2_topi (fun v2 ev2 => ?_)
  refine V2_aload_n (i := 1) d_World_rubOf_12 rfl rfl ?_
  refine V2_get (v := F 42 5) d_World_rubOf_13 fl_World_73 (by decide) rfl (by decide) rfl rfl ?_
  refine V2_topi (fun v3 ev3 => ?_)
  refine V2_callV [.int v1, .int v2, .int v3] d_World_rubOf_16 rfl rfl lk_World_62 mo_Law_gives (by decide) rfl rfl rfl (Nat.le_of_ble_eq_true rfl) (Nat.le_of_ble_eq_true rfl) ?_
  refine c_Law_gives11 hL1 hT1 (fun q4 => ?_)
  refine V2_topi (fun v5 ev5 => ?_)
  refine V2_ireturn d_World_rubOf_19 rfl ?_
  refine xQi (hQ q4) ?_ rfl
  unfold rubM
  rw [← hC.1, ← hC.2.2.1, ← hC.2.2.2.2.2.1]
  subst ev5 ev3 ev2 ev1
  rfl
theorem c_World_gripOf_43 {L : Nat} {xs : Nat → Int32} {d : Nat} {Q : Option Value → xF → Prop} {F : xF} {S : Nat → Int32} {P : Nat} {set : Int32} (hC : relCr (F 43) S) (hPp : relP F S P) (hL0 : relL F 8 0 S) (hT0 : okT 0 S) (hQ : ∀ q : Nat → Int32, Q (some (.int (gripM S set P))) (xrw F 10 q)) : V2 L xs (d + 5) m_World_gripOf 0 (xEntry [.ref 1, .ref 43, .int set] 4) [] F Q := by
  refine V2.to (l' := [some (.ref 1), some (.ref 43), some (.int set), none]) ?_ rfl rfl rfl rfl
  refine V2_aload_n (i := 1) d_World_gripOf_0 rfl rfl ?_
  refine V2_get (v := F 43 4) d_World_gripOf_1 fl_World_49 (by decide) rfl (by decide) rfl rfl ?_
  refine V2_topi (fun v1 ev1 => ?_)
  refine V2_if_ne (tgt := 11) d_World_gripOf_4 rfl (fun c2 => ?_) (fun c2 => ?_)
  · refine V2_iconst (v := 3) d_World_gripOf_11 rfl ?_
    refine V2_istore_n (i := 3) (l' := [some (.ref 1), some (.ref 43), some (.int set), some (.int (3 : Int32))]) d_World_gripOf_12 rfl (xst_i (Nat.le_of_ble_eq_true rfl) rfl rfl) ?_
    refine V2_aload_n (i := 0) d_World_gripOf_13 rfl rfl ?_
    refine V2_getr (a := 8) d_World_gripOf_14 fl_World_28 (by decide) rfl (by decide) rfl ?_
    refine V2_aload_n (i := 1) d_World_gripOf_17 rfl rfl ?_
    refine V2_get (v := F 43 1) d_World_gripOf_18 fl_World_52 (by decide) rfl (by decide) rfl rfl ?_
    refine V2_topi (fun v3 ev3 => ?_)
    refine V2_aload_n (i := 1) d_World_gripOf_21 rfl rfl ?_
    refine V2_get (v := F 43 0) d_World_gripOf_22 fl_World_55 (by decide) rfl (by decide) rfl rfl ?_
    refine V2_topi (fun v4 ev4 => ?_)
    refine V2_aload_n (i := 0) d_World_gripOf_25 rfl rfl ?_
    refine V2_getr (a := 3) d_World_gripOf_26 fl_World_19 (by decide) rfl (by decide) rfl ?_
    refine V2_iload_n (i := 2) d_World_gripOf_29 rfl rfl ?_
    refine V2_callV [.int set] d_World_gripOf_30 rfl rfl lk_World_58 mo_Push_weightOfSet (by decide) rfl rfl rfl (Nat.le_of_ble_eq_true rfl) (Nat.le_of_ble_eq_true rfl) ?_
    refine c_Push_weightOfSet hPp.1 hPp.2.1 hPp.2.2.1 ?_
    refine V2_topi (x := _) (fun v5 ev5 => ?_)
    refine V2_callV [.int v3, .int v4, .int v5] d_World_gripOf_33 rfl rfl lk_World_62 mo_Law_gives (by decide) rfl rfl rfl (Nat.le_of_ble_eq_true rfl) (Nat.le_of_ble_eq_true rfl) ?_
    refine c_Law_gives8 hL0 hT0 (fun q6 => ?_)
    refine V2_topi (fun v7 ev7 => ?_)
    refine V2_iload_n (i := 3) d_World_gripOf_36 rfl rfl ?_
    refine V2_iadd d_World_gripOf_37 ?_
    refine V2_topi (fun v8 ev8 => ?_)
    refine V2_ireturn d_World_gripOf_38 rfl ?_
    refine xQi (hQ q6) ?_ rfl
    have hsa : ¬ S 4 = 0 := by have h9 := c2; subst ev8 ev7 ev5 ev4 ev3 ev1; rw [hC.2.2.2.2.1] at h9; exact h9
    unfold gripM
    rw [if_neg hsa, ← relP_weight hPp set, ← hC.2.1, ← hC.1]
    subst ev8 ev7 ev5 ev4 ev3 ev1
    rfl
  · refine V2_iconst (v := 0) d_World_gripOf_7 rfl ?_
    refine V2_goto (tgt := 12) d_World_gripOf_8 rfl ?_
    refine V2_istore_n (i := 3) (l' := [some (.ref 1), some (.ref 43), some (.int set), some (.int (0 : Int32))]) d_World_gripOf_12 rfl (xst_i (Nat.le_of_ble_eq_true rfl) rfl rfl) ?_
    refine V2_aload_n (i := 0) d_World_gripOf_13 rfl rfl ?_
    refine V2_getr (a := 8) d_World_gripOf_14 fl_World_28 (by decide) rfl (by decide) rfl ?_
    refine V2_aload_n (i := 1) d_World_gripOf_17 rfl rfl ?_
    refine V2_get (v := F 43 1) d_World_gripOf_18 fl_World_52 (by decide) rfl (by decide) rfl rfl ?_
    refine V2_topi (fun v9 ev9 => ?_)
    refine V2_aload_n (i := 1) d_World_gripOf_21 rfl rfl ?_
    refine V2_get (v := F 43 0) d_World_gripOf_22 fl_World_55 (by decide) rfl (by decide) rfl rfl ?_
    refine V2_topi (fun v10 ev10 => ?_)
    refine V2_aload_n (i := 0) d_World_gripOf_25 rfl rfl ?_
    refine V2_getr (a := 3) d_World_gripOf_26 fl_World_19 (by decide) rfl (by decide) rfl ?_
    refine V2_iload_n (i := 2) d_World_gripOf_29 rfl rfl ?_
    refine V2_callV [.int set] d_World_gripOf_30 rfl rfl lk_World_58 mo_Push_weightOfSet (by decide) rfl rfl rfl (Nat.le_of_ble_eq_true rfl) (Nat.le_of_ble_eq_true rfl) ?_
    refine c_Push_weightOfSet hPp.1 hPp.2.1 hPp.2.2.1 ?_
    refine V2_topi (x := _) (fun v11 ev11 => ?_)
    refine V2_callV [.int v9, .int v10, .int v11] d_World_gripOf_33 rfl rfl lk_World_62 mo_Law_gives (by decide) rfl rfl rfl (Nat.le_of_ble_eq_true rfl) (Nat.le_of_ble_eq_true rfl) ?_
    refine c_Law_gives8 hL0 hT0 (fun q12 => ?_)
    refine V2_topi (fun v13 ev13 => ?_)
    refine V2_iload_n (i := 3) d_World_gripOf_36 rfl rfl ?_
    refine V2_iadd d_World_gripOf_37 ?_
    refine V2_topi (fun v14 ev14 => ?_)
    refine V2_ireturn d_World_gripOf_38 rfl ?_
    refine xQi (hQ q12) ?_ rfl
    have hsa : S 4 = 0 := by have h9 := c2; subst ev14 ev13 ev11 ev10 ev9 ev1; rw [hC.2.2.2.2.1] at h9; exact h9
    unfold gripM
    rw [if_pos hsa, ← relP_weight hPp set, ← hC.2.1, ← hC.1]
    subst ev14 ev13 ev11 ev10 ev9 ev1
    rfl
theorem c_World_pushOf_43 {L : Nat} {xs : Nat → Int32} {d : Nat} {Q : Option Value → xF → Prop} {F : xF} {S : Nat → Int32} {P : Nat} {set : Int32} (hC : relCr (F 43) S) (hPp : relP F S P) (hQ : Q (some (.int (pushSum S set P))) F) : V2 L xs (d + 5) m_World_pushOf 0 (xEntry [.ref 1, .ref 43, .int set] 3) [] F Q := by
  refine V2.to (l' := [some (.ref 1), some (.ref 43), some (.int set)]) ?_ rfl rfl rfl rfl
  refine V2_aload_n (i := 0) d_World_pushOf_0 rfl rfl ?_
  refine V2_getr (a := 3) d_World_pushOf_1 fl_World_19 (by decide) rfl (by decide) rfl ?_
  refine V2_iload_n (i := 2) d_World_pushOf_4 rfl rfl ?_
  refine V2_aload_n (i := 1) d_World_pushOf_5 rfl rfl ?_
  refine V2_callV [.int set, .ref 43] d_World_pushOf_6 rfl rfl lk_World_66 mo_Push_pushOfSet (by decide) rfl rfl rfl (Nat.le_of_ble_eq_true rfl) (Nat.le_of_ble_eq_true rfl) ?_
  refine c_Push_pushOfSet_43 hPp.1 hPp.2.1 hPp.2.2.1 ?_
  refine V2_topi (fun v1 ev1 => ?_)
  refine V2_ireturn d_World_pushOf_9 rfl ?_
  refine xQi hQ ?_ rfl
  subst ev1
  exact relP_push hPp set hC.2.2.2.1 hC.2.2.1 hC.2.2.2.2.2.1
theorem c_World_rubOf_43 {L : Nat} {xs : Nat → Int32} {d : Nat} {Q : Option Value → xF → Prop} {F : xF} {S : Nat → Int32} (hC : relCr (F 43) S) (hL1 : relL F 11 1 S) (hT1 : okT 1 S) (hQ : ∀ q : Nat → Int32, Q (some (.int (rubM S))) (xrw F 13 q)) : V2 L xs (d + 4) m_World_rubOf 0 (xEntry [.ref 1, .ref 43] 2) [] F Q := by
  refine V2.to (l' := [some (.ref 1), some (.ref 43)]) ?_ rfl rfl rfl rfl
  refine V2_aload_n (i := 0) d_World_rubOf_0 rfl rfl ?_
  refine V2_getr (a := 11) d_World_rubOf_1 fl_World_32 (by decide) rfl (by decide) rfl ?_
  refine V2_aload_n (i := 1) d_World_rubOf_4 rfl rfl ?_
  refine V2_get (v := F 43 2) d_World_rubOf_5 fl_World_70 (by decide) rfl (by decide) rfl rfl ?_
  refine V2_topi (fun v1 ev1 => ?_)
  refine V2_aload_n (i := 1) d_World_rubOf_8 rfl rfl ?_
  refine V2_get (v := F 43 0) d_World_rubOf_9 fl_World_55 (by decide) rfl (by decide) rfl rfl ?_
  refine V2_topi (fun v2 ev2 => ?_)
  refine V2_aload_n (i := 1) d_World_rubOf_12 rfl rfl ?_
  refine V2_get (v := F 43 5) d_World_rubOf_13 fl_World_73 (by decide) rfl (by decide) rfl rfl ?_
  refine V2_topi (fun v3 ev3 => ?_)
  refine V2_callV [.int v1, .int v2, .int v3] d_World_rubOf_16 rfl rfl lk_World_62 mo_Law_gives (by decide) rfl rfl rfl (Nat.le_of_ble_eq_true rfl) (Nat.le_of_ble_eq_true rfl) ?_
  refine c_Law_gives11 hL1 hT1 (fun q4 => ?_)
  refine V2_topi (fun v5 ev5 => ?_)
  refine V2_ireturn d_World_rubOf_19 rfl ?_
  refine xQi (hQ q4) ?_ rfl
  unfold rubM
  rw [← hC.1, ← hC.2.2.1, ← hC.2.2.2.2.2.1]
  subst ev5 ev3 ev2 ev1
  rfl
theorem c_World_gripOf_44 {L : Nat} {xs : Nat → Int32} {d : Nat} {Q : Option Value → xF → Prop} {F : xF} {S : Nat → Int32} {P : Nat} {set : Int32} (hC : relCr (F 44) S) (hPp : relP F S P) (hL0 : relL F 8 0 S) (hT0 : okT 0 S) (hQ : ∀ q : Nat → Int32, Q (some (.int (gripM S set P))) (xrw F 10 q)) : V2 L xs (d + 5) m_World_gripOf 0 (xEntry [.ref 1, .ref 44, .int set] 4) [] F Q := by
  refine V2.to (l' := [some (.ref 1), some (.ref 44), some (.int set), none]) ?_ rfl rfl rfl rfl
  refine V2_aload_n (i := 1) d_World_gripOf_0 rfl rfl ?_
  refine V2_get (v := F 44 4) d_World_gripOf_1 fl_World_49 (by decide) rfl (by decide) rfl rfl ?_
  refine V2_topi (fun v1 ev1 => ?_)
  refine V2_if_ne (tgt := 11) d_World_gripOf_4 rfl (fun c2 => ?_) (fun c2 => ?_)
  · refine V2_iconst (v := 3) d_World_gripOf_11 rfl ?_
    refine V2_istore_n (i := 3) (l' := [some (.ref 1), some (.ref 44), some (.int set), some (.int (3 : Int32))]) d_World_gripOf_12 rfl (xst_i (Nat.le_of_ble_eq_true rfl) rfl rfl) ?_
    refine V2_aload_n (i := 0) d_World_gripOf_13 rfl rfl ?_
    refine V2_getr (a := 8) d_World_gripOf_14 fl_World_28 (by decide) rfl (by decide) rfl ?_
    refine V2_aload_n (i := 1) d_World_gripOf_17 rfl rfl ?_
    refine V2_get (v := F 44 1) d_World_gripOf_18 fl_World_52 (by decide) rfl (by decide) rfl rfl ?_
    refine V2_topi (fun v3 ev3 => ?_)
    refine V2_aload_n (i := 1) d_World_gripOf_21 rfl rfl ?_
    refine V2_get (v := F 44 0) d_World_gripOf_22 fl_World_55 (by decide) rfl (by decide) rfl rfl ?_
    refine V2_topi (fun v4 ev4 => ?_)
    refine V2_aload_n (i := 0) d_World_gripOf_25 rfl rfl ?_
    refine V2_getr (a := 3) d_World_gripOf_26 fl_World_19 (by decide) rfl (by decide) rfl ?_
    refine V2_iload_n (i := 2) d_World_gripOf_29 rfl rfl ?_
    refine V2_callV [.int set] d_World_gripOf_30 rfl rfl lk_World_58 mo_Push_weightOfSet (by decide) rfl rfl rfl (Nat.le_of_ble_eq_true rfl) (Nat.le_of_ble_eq_true rfl) ?_
    refine c_Push_weightOfSet hPp.1 hPp.2.1 hPp.2.2.1 ?_
    refine V2_topi (x := _) (fun v5 ev5 => ?_)
    refine V2_callV [.int v3, .int v4, .int v5] d_World_gripOf_33 rfl rfl lk_World_62 mo_Law_gives (by decide) rfl rfl rfl (Nat.le_of_ble_eq_true rfl) (Nat.le_of_ble_eq_true rfl) ?_
    refine c_Law_gives8 hL0 hT0 (fun q6 => ?_)
    refine V2_topi (fun v7 ev7 => ?_)
    refine V2_iload_n (i := 3) d_World_gripOf_36 rfl rfl ?_
    refine V2_iadd d_World_gripOf_37 ?_
    refine V2_topi (fun v8 ev8 => ?_)
    refine V2_ireturn d_World_gripOf_38 rfl ?_
    refine xQi (hQ q6) ?_ rfl
    have hsa : ¬ S 4 = 0 := by have h9 := c2; subst ev8 ev7 ev5 ev4 ev3 ev1; rw [hC.2.2.2.2.1] at h9; exact h9
    unfold gripM
    rw [if_neg hsa, ← relP_weight hPp set, ← hC.2.1, ← hC.1]
    subst ev8 ev7 ev5 ev4 ev3 ev1
    rfl
  · refine V2_iconst (v := 0) d_World_gripOf_7 rfl ?_
    refine V2_goto (tgt := 12) d_World_gripOf_8 rfl ?_
    refine V2_istore_n (i := 3) (l' := [some (.ref 1), some (.ref 44), some (.int set), some (.int (0 : Int32))]) d_World_gripOf_12 rfl (xst_i (Nat.le_of_ble_eq_true rfl) rfl rfl) ?_
    refine V2_aload_n (i := 0) d_World_gripOf_13 rfl rfl ?_
    refine V2_getr (a := 8) d_World_gripOf_14 fl_World_28 (by decide) rfl (by decide) rfl ?_
    refine V2_aload_n (i := 1) d_World_gripOf_17 rfl rfl ?_
    refine V2_get (v := F 44 1) d_World_gripOf_18 fl_World_52 (by decide) rfl (by decide) rfl rfl ?_
    refine V2_topi (fun v9 ev9 => ?_)
    refine V2_aload_n (i := 1) d_World_gripOf_21 rfl rfl ?_
    refine V2_get (v := F 44 0) d_World_gripOf_22 fl_World_55 (by decide) rfl (by decide) rfl rfl ?_
    refine V2_topi (fun v10 ev10 => ?_)
    refine V2_aload_n (i := 0) d_World_gripOf_25 rfl rfl ?_
    refine V2_getr (a := 3) d_World_gripOf_26 fl_World_19 (by decide) rfl (by decide) rfl ?_
    refine V2_iload_n (i := 2) d_World_gripOf_29 rfl rfl ?_
    refine V2_callV [.int set] d_World_gripOf_30 rfl rfl lk_World_58 mo_Push_weightOfSet (by decide) rfl rfl rfl (Nat.le_of_ble_eq_true rfl) (Nat.le_of_ble_eq_true rfl) ?_
    refine c_Push_weightOfSet hPp.1 hPp.2.1 hPp.2.2.1 ?_
    refine V2_topi (x := _) (fun v11 ev11 => ?_)
    refine V2_callV [.int v9, .int v10, .int v11] d_World_gripOf_33 rfl rfl lk_World_62 mo_Law_gives (by decide) rfl rfl rfl (Nat.le_of_ble_eq_true rfl) (Nat.le_of_ble_eq_true rfl) ?_
    refine c_Law_gives8 hL0 hT0 (fun q12 => ?_)
    refine V2_topi (fun v13 ev13 => ?_)
    refine V2_iload_n (i := 3) d_World_gripOf_36 rfl rfl ?_
    refine V2_iadd d_World_gripOf_37 ?_
    refine V2_topi (fun v14 ev14 => ?_)
    refine V2_ireturn d_World_gripOf_38 rfl ?_
    refine xQi (hQ q12) ?_ rfl
    have hsa : S 4 = 0 := by have h9 := c2; subst ev14 ev13 ev11 ev10 ev9 ev1; rw [hC.2.2.2.2.1] at h9; exact h9
    unfold gripM
    rw [if_pos hsa, ← relP_weight hPp set, ← hC.2.1, ← hC.1]
    subst ev14 ev13 ev11 ev10 ev9 ev1
    rfl
theorem c_World_pushOf_44 {L : Nat} {xs : Nat → Int32} {d : Nat} {Q : Option Value → xF → Prop} {F : xF} {S : Nat → Int32} {P : Nat} {set : Int32} (hC : relCr (F 44) S) (hPp : relP F S P) (hQ : Q (some (.int (pushSum S set P))) F) : V2 L xs (d + 5) m_World_pushOf 0 (xEntry [.ref 1, .ref 44, .int set] 3) [] F Q := by
  refine V2.to (l' := [some (.ref 1), some (.ref 44), some (.int set)]) ?_ rfl rfl rfl rfl
  refine V2_aload_n (i := 0) d_World_pushOf_0 rfl rfl ?_
  refine V2_getr (a := 3) d_World_pushOf_1 fl_World_19 (by decide) rfl (by decide) rfl ?_
  refine V2_iload_n (i := 2) d_World_pushOf_4 rfl rfl ?_
  refine V2_aload_n (i := 1) d_World_pushOf_5 rfl rfl ?_
  refine V2_callV [.int set, .ref 44] d_World_pushOf_6 rfl rfl lk_World_66 mo_Push_pushOfSet (by decide) rfl rfl rfl (Nat.le_of_ble_eq_true rfl) (Nat.le_of_ble_eq_true rfl) ?_
  refine c_Push_pushOfSet_44 hPp.1 hPp.2.1 hPp.2.2.1 ?_
  refine V2_topi (fun v1 ev1 => ?_)
  refine V2_ireturn d_World_pushOf_9 rfl ?_
  refine xQi hQ ?_ rfl
  subst ev1
  exact relP_push hPp set hC.2.2.2.1 hC.2.2.1 hC.2.2.2.2.2.1
theorem c_World_rubOf_44 {L : Nat} {xs : Nat → Int32} {d : Nat} {Q : Option Value → xF → Prop} {F : xF} {S : Nat → Int32} (hC : relCr (F 44) S) (hL1 : relL F 11 1 S) (hT1 : okT 1 S) (hQ : ∀ q : Nat → Int32, Q (some (.int (rubM S))) (xrw F 13 q)) : V2 L xs (d + 4) m_World_rubOf 0 (xEntry [.ref 1, .ref 44] 2) [] F Q := by
  refine V2.to (l' := [some (.ref 1), some (.ref 44)]) ?_ rfl rfl rfl rfl
  refine V2_aload_n (i := 0) d_World_rubOf_0 rfl rfl ?_
  refine V2_getr (a := 11) d_World_rubOf_1 fl_World_32 (by decide) rfl (by decide) rfl ?_
  refine V2_aload_n (i := 1) d_World_rubOf_4 rfl rfl ?_
  refine V2_get (v := F 44 2) d_World_rubOf_5 fl_World_70 (by decide) rfl (by decide) rfl rfl ?_
  refine V2_topi (fun v1 ev1 => ?_)
  refine V2_aload_n (i := 1) d_World_rubOf_8 rfl rfl ?_
  refine V2_get (v := F 44 0) d_World_rubOf_9 fl_World_55 (by decide) rfl (by decide) rfl rfl ?_
  refine V2_topi (fun v2 ev2 => ?_)
  refine V2_aload_n (i := 1) d_World_rubOf_12 rfl rfl ?_
  refine V2_get (v := F 44 5) d_World_rubOf_13 fl_World_73 (by decide) rfl (by decide) rfl rfl ?_
  refine V2_topi (fun v3 ev3 => ?_)
  refine V2_callV [.int v1, .int v2, .int v3] d_World_rubOf_16 rfl rfl lk_World_62 mo_Law_gives (by decide) rfl rfl rfl (Nat.le_of_ble_eq_true rfl) (Nat.le_of_ble_eq_true rfl) ?_
  refine c_Law_gives11 hL1 hT1 (fun q4 => ?_)
  refine V2_topi (fun v5 ev5 => ?_)
  refine V2_ireturn d_World_rubOf_19 rfl ?_
  refine xQi (hQ q4) ?_ rfl
  unfold rubM
  rw [← hC.1, ← hC.2.2.1, ← hC.2.2.2.2.2.1]
  subst ev5 ev3 ev2 ev1
  rfl
theorem c_World_gripOf_45 {L : Nat} {xs : Nat → Int32} {d : Nat} {Q : Option Value → xF → Prop} {F : xF} {S : Nat → Int32} {P : Nat} {set : Int32} (hC : relCr (F 45) S) (hPp : relP F S P) (hL0 : relL F 8 0 S) (hT0 : okT 0 S) (hQ : ∀ q : Nat → Int32, Q (some (.int (gripM S set P))) (xrw F 10 q)) : V2 L xs (d + 5) m_World_gripOf 0 (xEntry [.ref 1, .ref 45, .int set] 4) [] F Q := by
  refine V2.to (l' := [some (.ref 1), some (.ref 45), some (.int set), none]) ?_ rfl rfl rfl rfl
  refine V2_aload_n (i := 1) d_World_gripOf_0 rfl rfl ?_
  refine V2_get (v := F 45 4) d_World_gripOf_1 fl_World_49 (by decide) rfl (by decide) rfl rfl ?_
  refine V2_topi (fun v1 ev1 => ?_)
  refine V2_if_ne (tgt := 11) d_World_gripOf_4 rfl (fun c2 => ?_) (fun c2 => ?_)
  · refine V2_iconst (v := 3) d_World_gripOf_11 rfl ?_
    refine V2_istore_n (i := 3) (l' := [some (.ref 1), some (.ref 45), some (.int set), some (.int (3 : Int32))]) d_World_gripOf_12 rfl (xst_i (Nat.le_of_ble_eq_true rfl) rfl rfl) ?_
    refine V2_aload_n (i := 0) d_World_gripOf_13 rfl rfl ?_
    refine V2_getr (a := 8) d_World_gripOf_14 fl_World_28 (by decide) rfl (by decide) rfl ?_
    refine V2_aload_n (i := 1) d_World_gripOf_17 rfl rfl ?_
    refine V2_get (v := F 45 1) d_World_gripOf_18 fl_World_52 (by decide) rfl (by decide) rfl rfl ?_
    refine V2_topi (fun v3 ev3 => ?_)
    refine V2_aload_n (i := 1) d_World_gripOf_21 rfl rfl ?_
    refine V2_get (v := F 45 0) d_World_gripOf_22 fl_World_55 (by decide) rfl (by decide) rfl rfl ?_
    refine V2_topi (fun v4 ev4 => ?_)
    refine V2_aload_n (i := 0) d_World_gripOf_25 rfl rfl ?_
    refine V2_getr (a := 3) d_World_gripOf_26 fl_World_19 (by decide) rfl (by decide) rfl ?_
    refine V2_iload_n (i := 2) d_World_gripOf_29 rfl rfl ?_
    refine V2_callV [.int set] d_World_gripOf_30 rfl rfl lk_World_58 mo_Push_weightOfSet (by decide) rfl rfl rfl (Nat.le_of_ble_eq_true rfl) (Nat.le_of_ble_eq_true rfl) ?_
    refine c_Push_weightOfSet hPp.1 hPp.2.1 hPp.2.2.1 ?_
    refine V2_topi (x := _) (fun v5 ev5 => ?_)
    refine V2_callV [.int v3, .int v4, .int v5] d_World_gripOf_33 rfl rfl lk_World_62 mo_Law_gives (by decide) rfl rfl rfl (Nat.le_of_ble_eq_true rfl) (Nat.le_of_ble_eq_true rfl) ?_
    refine c_Law_gives8 hL0 hT0 (fun q6 => ?_)
    refine V2_topi (fun v7 ev7 => ?_)
    refine V2_iload_n (i := 3) d_World_gripOf_36 rfl rfl ?_
    refine V2_iadd d_World_gripOf_37 ?_
    refine V2_topi (fun v8 ev8 => ?_)
    refine V2_ireturn d_World_gripOf_38 rfl ?_
    refine xQi (hQ q6) ?_ rfl
    have hsa : ¬ S 4 = 0 := by have h9 := c2; subst ev8 ev7 ev5 ev4 ev3 ev1; rw [hC.2.2.2.2.1] at h9; exact h9
    unfold gripM
    rw [if_neg hsa, ← relP_weight hPp set, ← hC.2.1, ← hC.1]
    subst ev8 ev7 ev5 ev4 ev3 ev1
    rfl
  · refine V2_iconst (v := 0) d_World_gripOf_7 rfl ?_
    refine V2_goto (tgt := 12) d_World_gripOf_8 rfl ?_
    refine V2_istore_n (i := 3) (l' := [some (.ref 1), some (.ref 45), some (.int set), some (.int (0 : Int32))]) d_World_gripOf_12 rfl (xst_i (Nat.le_of_ble_eq_true rfl) rfl rfl) ?_
    refine V2_aload_n (i := 0) d_World_gripOf_13 rfl rfl ?_
    refine V2_getr (a := 8) d_World_gripOf_14 fl_World_28 (by decide) rfl (by decide) rfl ?_
    refine V2_aload_n (i := 1) d_World_gripOf_17 rfl rfl ?_
    refine V2_get (v := F 45 1) d_World_gripOf_18 fl_World_52 (by decide) rfl (by decide) rfl rfl ?_
    refine V2_topi (fun v9 ev9 => ?_)
    refine V2_aload_n (i := 1) d_World_gripOf_21 rfl rfl ?_
    refine V2_get (v := F 45 0) d_World_gripOf_22 fl_World_55 (by decide) rfl (by decide) rfl rfl ?_
    refine V2_topi (fun v10 ev10 => ?_)
    refine V2_aload_n (i := 0) d_World_gripOf_25 rfl rfl ?_
    refine V2_getr (a := 3) d_World_gripOf_26 fl_World_19 (by decide) rfl (by decide) rfl ?_
    refine V2_iload_n (i := 2) d_World_gripOf_29 rfl rfl ?_
    refine V2_callV [.int set] d_World_gripOf_30 rfl rfl lk_World_58 mo_Push_weightOfSet (by decide) rfl rfl rfl (Nat.le_of_ble_eq_true rfl) (Nat.le_of_ble_eq_true rfl) ?_
    refine c_Push_weightOfSet hPp.1 hPp.2.1 hPp.2.2.1 ?_
    refine V2_topi (x := _) (fun v11 ev11 => ?_)
    refine V2_callV [.int v9, .int v10, .int v11] d_World_gripOf_33 rfl rfl lk_World_62 mo_Law_gives (by decide) rfl rfl rfl (Nat.le_of_ble_eq_true rfl) (Nat.le_of_ble_eq_true rfl) ?_
    refine c_Law_gives8 hL0 hT0 (fun q12 => ?_)
    refine V2_topi (fun v13 ev13 => ?_)
    refine V2_iload_n (i := 3) d_World_gripOf_36 rfl rfl ?_
    refine V2_iadd d_World_gripOf_37 ?_
    refine V2_topi (fun v14 ev14 => ?_)
    refine V2_ireturn d_World_gripOf_38 rfl ?_
    refine xQi (hQ q12) ?_ rfl
    have hsa : S 4 = 0 := by have h9 := c2; subst ev14 ev13 ev11 ev10 ev9 ev1; rw [hC.2.2.2.2.1] at h9; exact h9
    unfold gripM
    rw [if_pos hsa, ← relP_weight hPp set, ← hC.2.1, ← hC.1]
    subst ev14 ev13 ev11 ev10 ev9 ev1
    rfl
theorem c_World_pushOf_45 {L : Nat} {xs : Nat → Int32} {d : Nat} {Q : Option Value → xF → Prop} {F : xF} {S : Nat → Int32} {P : Nat} {set : Int32} (hC : relCr (F 45) S) (hPp : relP F S P) (hQ : Q (some (.int (pushSum S set P))) F) : V2 L xs (d + 5) m_World_pushOf 0 (xEntry [.ref 1, .ref 45, .int set] 3) [] F Q := by
  refine V2.to (l' := [some (.ref 1), some (.ref 45), some (.int set)]) ?_ rfl rfl rfl rfl
  refine V2_aload_n (i := 0) d_World_pushOf_0 rfl rfl ?_
  refine V2_getr (a := 3) d_World_pushOf_1 fl_World_19 (by decide) rfl (by decide) rfl ?_
  refine V2_iload_n (i := 2) d_World_pushOf_4 rfl rfl ?_
  refine V2_aload_n (i := 1) d_World_pushOf_5 rfl rfl ?_
  refine V2_callV [.int set, .ref 45] d_World_pushOf_6 rfl rfl lk_World_66 mo_Push_pushOfSet (by decide) rfl rfl rfl (Nat.le_of_ble_eq_true rfl) (Nat.le_of_ble_eq_true rfl) ?_
  refine c_Push_pushOfSet_45 hPp.1 hPp.2.1 hPp.2.2.1 ?_
  refine V2_topi (fun v1 ev1 => ?_)
  refine V2_ireturn d_World_pushOf_9 rfl ?_
  refine xQi hQ ?_ rfl
  subst ev1
  exact relP_push hPp set hC.2.2.2.1 hC.2.2.1 hC.2.2.2.2.2.1
theorem c_World_rubOf_45 {L : Nat} {xs : Nat → Int32} {d : Nat} {Q : Option Value → xF → Prop} {F : xF} {S : Nat → Int32} (hC : relCr (F 45) S) (hL1 : relL F 11 1 S) (hT1 : okT 1 S) (hQ : ∀ q : Nat → Int32, Q (some (.int (rubM S))) (xrw F 13 q)) : V2 L xs (d + 4) m_World_rubOf 0 (xEntry [.ref 1, .ref 45] 2) [] F Q := by
  refine V2.to (l' := [some (.ref 1), some (.ref 45)]) ?_ rfl rfl rfl rfl
  refine V2_aload_n (i := 0) d_World_rubOf_0 rfl rfl ?_
  refine V2_getr (a := 11) d_World_rubOf_1 fl_World_32 (by decide) rfl (by decide) rfl ?_
  refine V2_aload_n (i := 1) d_World_rubOf_4 rfl rfl ?_
  refine V2_get (v := F 45 2) d_World_rubOf_5 fl_World_70 (by decide) rfl (by decide) rfl rfl ?_
  refine V2_topi (fun v1 ev1 => ?_)
  refine V2_aload_n (i := 1) d_World_rubOf_8 rfl rfl ?_
  refine V2_get (v := F 45 0) d_World_rubOf_9 fl_World_55 (by decide) rfl (by decide) rfl rfl ?_
  refine V2_topi (fun v2 ev2 => ?_)
  refine V2_aload_n (i := 1) d_World_rubOf_12 rfl rfl ?_
  refine V2_get (v := F 45 5) d_World_rubOf_13 fl_World_73 (by decide) rfl (by decide) rfl rfl ?_
  refine V2_topi (fun v3 ev3 => ?_)
  refine V2_callV [.int v1, .int v2, .int v3] d_World_rubOf_16 rfl rfl lk_World_62 mo_Law_gives (by decide) rfl rfl rfl (Nat.le_of_ble_eq_true rfl) (Nat.le_of_ble_eq_true rfl) ?_
  refine c_Law_gives11 hL1 hT1 (fun q4 => ?_)
  refine V2_topi (fun v5 ev5 => ?_)
  refine V2_ireturn d_World_rubOf_19 rfl ?_
  refine xQi (hQ q4) ?_ rfl
  unfold rubM
  rw [← hC.1, ← hC.2.2.1, ← hC.2.2.2.2.2.1]
  subst ev5 ev3 ev2 ev1
  rfl
theorem c_World_drive_2 {L : Nat} {xs : Nat → Int32} {d : Nat} {Q : Option Value → xF → Prop} {F : xF} {S : Nat → Int32} {P : Nat} {gas set : Int32} (hC : relCr (F 2) S) (hPp : relP F S P) (hL0 : relL F 8 0 S) (hT0 : okT 0 S) (hL1 : relL F 11 1 S) (hT1 : okT 1 S) (hi : invC S) (hg : 0 ≤ gas.toInt ∧ gas.toInt ≤ 9) (hQ : ∀ q10 q13 row : Nat → Int32, relCr row (goS S gas set P) → Q (some (.int (xb (gripM S set P < gas)))) (xrw (xrw (xrw F 10 q10) 13 q13) 2 row)) : V2 L xs (d + 6) m_World_drive 0 (xEntry [.ref 1, .ref 2, .int gas, .int set] 4) [] F Q := by
  refine V2.to (l' := [some (.ref 1), some (.ref 2), some (.int gas), some (.int set)]) ?_ rfl rfl rfl rfl
  refine V2_aload_n (i := 1) d_World_drive_0 rfl rfl ?_
  refine V2_iload_n (i := 2) d_World_drive_1 rfl rfl ?_
  refine V2_aload_n (i := 0) d_World_drive_2 rfl rfl ?_
  refine V2_aload_n (i := 1) d_World_drive_3 rfl rfl ?_
  refine V2_iload_n (i := 3) d_World_drive_4 rfl rfl ?_
  refine V2_callV [.ref 2, .int set] d_World_drive_5 rfl rfl lk_World_76 mo_World_gripOf (by decide) rfl rfl rfl (Nat.le_of_ble_eq_true rfl) (Nat.le_of_ble_eq_true rfl) ?_
  refine c_World_gripOf_2 hC hPp hL0 hT0 (fun q1 => ?_)
  refine V2_topi (x := gripM S set P) (fun v2 ev2 => ?_)
  refine V2_aload_n (i := 0) d_World_drive_8 rfl rfl ?_
  refine V2_aload_n (i := 1) d_World_drive_9 rfl rfl ?_
  refine V2_iload_n (i := 3) d_World_drive_10 rfl rfl ?_
  refine V2_callV [.ref 2, .int set] d_World_drive_11 rfl rfl lk_World_80 mo_World_pushOf (by decide) rfl rfl rfl (Nat.le_of_ble_eq_true rfl) (Nat.le_of_ble_eq_true rfl) ?_
  refine c_World_pushOf_2 (S := S) hC hPp ?_
  refine V2_topi (x := pushSum S set P) (fun v3 ev3 => ?_)
  refine V2_aload_n (i := 0) d_World_drive_14 rfl rfl ?_
  refine V2_aload_n (i := 1) d_World_drive_15 rfl rfl ?_
  refine V2_callV [.ref 2] d_World_drive_16 rfl rfl lk_World_83 mo_World_rubOf (by decide) rfl rfl rfl (Nat.le_of_ble_eq_true rfl) (Nat.le_of_ble_eq_true rfl) ?_
  refine c_World_rubOf_2 (S := S) hC hL1 hT1 (fun q4 => ?_)
  refine V2_topi (x := rubM S) (fun v5 ev5 => ?_)
  refine V2_callV [.int gas, .int v2, .int v3, .int v5] d_World_drive_19 rfl rfl lk_World_87 mo_Car_go (by decide) rfl rfl rfl (Nat.le_of_ble_eq_true rfl) (Nat.le_of_ble_eq_true rfl) ?_
  refine c_Car_go_2 ?_
  refine V2_topi (fun v6 ev6 => ?_)
  refine V2_zreturn d_World_drive_22 rfl (by rw [ev6]; exact xb_01) ?_
  have e9 : (xrw (xrw F 10 q1) 13 q4) 2 = F 2 := rfl
  refine xQi (hQ q1 q4 (goC (F 2) gas (gripM S set P) (pushSum S set P) (rubM S)) (go_rel hC hi hg (gripM_range S set P))) ?_ ?_
  · subst ev6 ev5 ev3 ev2
    rfl
  · subst ev6 ev5 ev3 ev2
    rw [e9]
theorem c_World_drive_35 {L : Nat} {xs : Nat → Int32} {d : Nat} {Q : Option Value → xF → Prop} {F : xF} {S : Nat → Int32} {P : Nat} {gas set : Int32} (hC : relCr (F 35) S) (hPp : relP F S P) (hL0 : relL F 8 0 S) (hT0 : okT 0 S) (hL1 : relL F 11 1 S) (hT1 : okT 1 S) (hi : invC S) (hg : 0 ≤ gas.toInt ∧ gas.toInt ≤ 9) (hQ : ∀ q10 q13 row : Nat → Int32, relCr row (goS S gas set P) → Q (some (.int (xb (gripM S set P < gas)))) (xrw (xrw (xrw F 10 q10) 13 q13) 35 row)) : V2 L xs (d + 6) m_World_drive 0 (xEntry [.ref 1, .ref 35, .int gas, .int set] 4) [] F Q := by
  refine V2.to (l' := [some (.ref 1), some (.ref 35), some (.int gas), some (.int set)]) ?_ rfl rfl rfl rfl
  refine V2_aload_n (i := 1) d_World_drive_0 rfl rfl ?_
  refine V2_iload_n (i := 2) d_World_drive_1 rfl rfl ?_
  refine V2_aload_n (i := 0) d_World_drive_2 rfl rfl ?_
  refine V2_aload_n (i := 1) d_World_drive_3 rfl rfl ?_
  refine V2_iload_n (i := 3) d_World_drive_4 rfl rfl ?_
  refine V2_callV [.ref 35, .int set] d_World_drive_5 rfl rfl lk_World_76 mo_World_gripOf (by decide) rfl rfl rfl (Nat.le_of_ble_eq_true rfl) (Nat.le_of_ble_eq_true rfl) ?_
  refine c_World_gripOf_35 hC hPp hL0 hT0 (fun q1 => ?_)
  refine V2_topi (x := gripM S set P) (fun v2 ev2 => ?_)
  refine V2_aload_n (i := 0) d_World_drive_8 rfl rfl ?_
  refine V2_aload_n (i := 1) d_World_drive_9 rfl rfl ?_
  refine V2_iload_n (i := 3) d_World_drive_10 rfl rfl ?_
  refine V2_callV [.ref 35, .int set] d_World_drive_11 rfl rfl lk_World_80 mo_World_pushOf (by decide) rfl rfl rfl (Nat.le_of_ble_eq_true rfl) (Nat.le_of_ble_eq_true rfl) ?_
  refine c_World_pushOf_35 (S := S) hC hPp ?_
  refine V2_topi (x := pushSum S set P) (fun v3 ev3 => ?_)
  refine V2_aload_n (i := 0) d_World_drive_14 rfl rfl ?_
  refine V2_aload_n (i := 1) d_World_drive_15 rfl rfl ?_
  refine V2_callV [.ref 35] d_World_drive_16 rfl rfl lk_World_83 mo_World_rubOf (by decide) rfl rfl rfl (Nat.le_of_ble_eq_true rfl) (Nat.le_of_ble_eq_true rfl) ?_
  refine c_World_rubOf_35 (S := S) hC hL1 hT1 (fun q4 => ?_)
  refine V2_topi (x := rubM S) (fun v5 ev5 => ?_)
  refine V2_callV [.int gas, .int v2, .int v3, .int v5] d_World_drive_19 rfl rfl lk_World_87 mo_Car_go (by decide) rfl rfl rfl (Nat.le_of_ble_eq_true rfl) (Nat.le_of_ble_eq_true rfl) ?_
  refine c_Car_go_35 ?_
  refine V2_topi (fun v6 ev6 => ?_)
  refine V2_zreturn d_World_drive_22 rfl (by rw [ev6]; exact xb_01) ?_
  have e9 : (xrw (xrw F 10 q1) 13 q4) 35 = F 35 := rfl
  refine xQi (hQ q1 q4 (goC (F 35) gas (gripM S set P) (pushSum S set P) (rubM S)) (go_rel hC hi hg (gripM_range S set P))) ?_ ?_
  · subst ev6 ev5 ev3 ev2
    rfl
  · subst ev6 ev5 ev3 ev2
    rw [e9]
