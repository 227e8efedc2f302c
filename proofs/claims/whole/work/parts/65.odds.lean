/-! odds -/
noncomputable def procO (n : Nat) (S : Nat → Int32) (row s : Nat) : Nat := s + (if (trN (PN S) n row S).1.isSome then 1 else 0)
theorem blkO_all {n : Nat} {S : Nat → Int32} : ∀ (m a s : Nat), (∀ i, a ≤ i → i < a + m → (trN (PN S) n i S).1.isSome = true) → blk (procO n S) a m s = s + m := by
  intro m
  induction m with
  | zero => intro a s _; rfl
  | succ m ih =>
    intro a s h
    show blk (procO n S) (a + 1) m (procO n S a s) = _
    have e : procO n S a s = s + 1 := by
      unfold procO
      rw [if_pos (h a (Nat.le_refl a) (by omega))]
    rw [e, ih (a + 1) (s + 1) (fun i h1 h2 => h i (by omega) (by omega))]
    omega
theorem blkO_le {n : Nat} {S : Nat → Int32} : ∀ (m a s : Nat), blk (procO n S) a m s ≤ s + m := by
  intro m
  induction m with
  | zero => intro a s; exact Nat.le_refl s
  | succ m ih =>
    intro a s
    have h := ih (a + 1) (procO n S a s)
    have e : procO n S a s ≤ s + 1 := by
      unfold procO
      split <;> omega
    show blk (procO n S) (a + 1) m (procO n S a s) ≤ _
    omega
theorem frV.refl (G : xF) : frV G G := ⟨fun _ _ _ => rfl, rfl, rfl⟩
/-- behind triesRow, any number of times -/
def trF (F G : xF) : Prop := (∀ a, ¬ a = 65 → ¬ a = 68 → ¬ a = 71 → ¬ a = 72 → G a = F a) ∧ ∀ j, ¬ j = 13 → ¬ j = 14 → G 65 j = F 65 j
theorem trF.refl (F : xF) : trF F F := ⟨fun _ _ _ _ _ => rfl, fun _ _ _ => rfl⟩
theorem trF.tries {F G H : xF} {t : Option Nat × (Nat → Int32)} (h : trF F G) (h2 : triesG G H t) : trF F H := ⟨fun a b c d e => (h2.1 a b c d e).trans (h.1 a b c d e), fun j a b => (h2.2.1 j a b).trans (h.2 j a b)⟩
theorem rel_tr {F0 F G : xF} (h : Rel F0) (hM : Mid F0 F F0) (hf : trF F G) : Rel G := by
  refine rel_gen hM.2 h.2 (fun a ha => hf.1 a (by omega) (by omega) (by omega) (by omega)) (fun a ha => ?_) ?_ ?_ ?_ (fun i _ => ?_)
  · rw [hf.1 a (by omega) (by omega) (by omega) (by omega)]
    exact hM.1 a (by omega)
  · rw [hf.2 3 (by decide) (by decide), hM.1 65 (by decide)]
  · rw [hf.2 5 (by decide) (by decide), hM.1 65 (by decide)]
  · rw [hf.2 15 (by decide) (by decide), hM.1 65 (by decide)]
  · rw [hf.1 73 (by decide) (by decide) (by decide) (by decide), hM.1 73 (by decide)]
theorem tr_le {P : Nat} : ∀ (r q : Nat) (T : Nat → Int32) (j : Nat), (trN P r q T).1 = some j → j ≤ r := by
  intro r
  induction r with
  | zero =>
    intro q T j h
    by_cases h5 : T 5 = 1
    · rw [tr_1 h5] at h
      cases h
      exact Nat.le_refl 0
    · rw [tr_0 h5] at h
      cases h
  | succ r ih =>
    intro q T j h
    by_cases h5 : T 5 = 1
    · rw [tr_1 h5] at h
      cases h
      exact Nat.zero_le _
    · rw [tr_s h5] at h
      cases e : (trN P r (q % 10 ^ r) (goS T (nI (q / 10 ^ r)) 63 P)).1 with
      | none =>
        have h2 : Option.map (fun j => j + 1) (trN P r (q % 10 ^ r) (goS T (nI (q / 10 ^ r)) 63 P)).1 = some j := h
        rw [e] at h2
        cases h2
      | some i =>
        have h2 : Option.map (fun j => j + 1) (trN P r (q % 10 ^ r) (goS T (nI (q / 10 ^ r)) 63 P)).1 = some j := h
        rw [e] at h2
        cases h2
        have := ih _ _ i e
        show i + 1 ≤ r + 1
        omega
theorem tr_pos {P r q : Nat} {T : Nat → Int32} {j : Nat} (h5 : ¬ T 5 = 1) (h : (trN P r q T).1 = some j) : 0 < j := by
  cases r with
  | zero =>
    rw [tr_0 h5] at h
    cases h
  | succ r =>
    rw [tr_s h5] at h
    have h2 : Option.map (fun j => j + 1) (trN P r (q % 10 ^ r) (goS T (nI (q / 10 ^ r)) 63 P)).1 = some j := h
    cases e : (trN P r (q % 10 ^ r) (goS T (nI (q / 10 ^ r)) 63 P)).1 with
    | none =>
      rw [e] at h2
      cases h2
    | some i =>
      rw [e] at h2
      cases h2
      exact Nat.succ_pos i
theorem c_Rows_rowsOf_loop {L : Nat} {xs : Nat → Int32} {d : Nat} {Q : Option Value → xF → Prop} {F : xF} {m : Nat} (hm : m ≤ 4) : ∀ (n_ : Nat) (k : Nat), k ≤ m → m < n_ + k → (Q (some (.int (nI (10 ^ m)))) F) → V2 L xs d m_Rows_rowsOf 4 [some (.int (nI m)), some (.int (nI (10 ^ k))), some (.int (nI k))] [] F Q := by
  intro n_
  induction n_ with
  | zero => exact fun k h1 h2 => absurd h2 (by omega)
  | succ n_ ih =>
    intro k h1 h2 hQ
    refine V2_iload_n (i := 2) d_Rows_rowsOf_4 rfl rfl ?_
    refine V2_iload_n (i := 0) d_Rows_rowsOf_5 rfl rfl ?_
    refine V2_icmp_ge (tgt := 25) d_Rows_rowsOf_6 rfl (fun c1 => ?_) (fun c1 => ?_)
    · refine V2_iload_n (i := 1) d_Rows_rowsOf_25 rfl rfl ?_
      refine V2_ireturn d_Rows_rowsOf_26 rfl ?_
      have hk : k = m := Nat.le_antisymm h1 ((nI_leI (by omega) (by omega)).mp c1)
      subst hk
      exact hQ
    · have hk : k < m := Nat.not_le.mp (fun hh => c1 ((nI_leI (by omega) (by omega)).mpr hh))
      refine V2_iload_n (i := 2) d_Rows_rowsOf_9 rfl rfl ?_
      refine V2_iconst (v := 4) d_Rows_rowsOf_10 rfl ?_
      refine V2_icmp_ge (tgt := 25) d_Rows_rowsOf_11 rfl (fun c2 => ?_) (fun c2 => ?_)
      · refine V2_iload_n (i := 1) d_Rows_rowsOf_25 rfl rfl ?_
        refine V2_ireturn d_Rows_rowsOf_26 rfl ?_
        exfalso
        have := (nI_leI (a := 4) (b := k) (by omega) (by omega)).mp c2
        omega
      · refine V2_iload_n (i := 1) d_Rows_rowsOf_14 rfl rfl ?_
        refine V2_bipush (v := 10) d_Rows_rowsOf_15 rfl ?_
        refine V2_imul d_Rows_rowsOf_17 ?_
        refine V2_topi (fun v3 ev3 => ?_)
        refine V2_istore_n (i := 1) (l' := [some (.int (nI m)), some (.int v3), some (.int (nI k))]) d_Rows_rowsOf_18 rfl (xst_i (Nat.le_of_ble_eq_true rfl) rfl rfl) ?_
        obtain ⟨v4, ev4⟩ : ∃ y : Int32, y = nI k + 1 := ⟨_, rfl⟩
        refine V2_iinc (i := 2) (v := v4) (l' := [some (.int (nI m)), some (.int v3), some (.int v4)]) d_Rows_rowsOf_19 rfl (by rw [ev4]; rfl) (xst_i (Nat.le_of_ble_eq_true rfl) rfl rfl) ?_
        refine V2_goto (tgt := 4) d_Rows_rowsOf_22 rfl ?_
        have ea : v3 = nI (10 ^ (k + 1)) := by
          subst ev4 ev3
          rw [Nat.pow_succ]
          exact nI_mul
        rw [ea, ev4, nI_1]
        exact V2.to (ih (k + 1) (by omega) (by omega) hQ) rfl rfl rfl rfl
theorem c_Rows_rowsOf {L : Nat} {xs : Nat → Int32} {d : Nat} {Q : Option Value → xF → Prop} {F : xF} {m : Nat} (hm : m ≤ 4) (hQ : Q (some (.int (nI (10 ^ m)))) F) : V2 L xs d m_Rows_rowsOf 0 (xEntry [.int (nI m)] 3) [] F Q := by
  refine V2.to (l' := [some (.int (nI m)), none, none]) ?_ rfl rfl rfl rfl
  refine V2_iconst (v := 1) d_Rows_rowsOf_0 rfl ?_
  refine V2_istore_n (i := 1) (l' := [some (.int (nI m)), some (.int (1 : Int32)), none]) d_Rows_rowsOf_1 rfl (xst_i (Nat.le_of_ble_eq_true rfl) rfl rfl) ?_
  refine V2_iconst (v := 0) d_Rows_rowsOf_2 rfl ?_
  refine V2_istore_n (i := 2) (l' := [some (.int (nI m)), some (.int (1 : Int32)), some (.int (0 : Int32))]) d_Rows_rowsOf_3 rfl (xst_i (Nat.le_of_ble_eq_true rfl) rfl rfl) ?_
  exact V2.to (c_Rows_rowsOf_loop hm (m + 1) 0 (by omega) (by omega) hQ) rfl rfl rfl rfl
theorem c_visO_0 {L : Nat} {xs : Nat → Int32} {d : Nat} {Q : Option Value → xF → Prop} {F G : xF} {S T : Nat → Int32} {n pre s : Nat} (hn : n ≤ 4) (hl : 0 < n) (hx : ctxV F G S T 2 n (0 + 1) pre 43) (hR : G 36 8 = nI s) (hQ : ∀ (G2 : xF) (b : Int32), frV G G2 → ((b = 1 ∧ ¬ T 5 = 1 ∧ 0 + 1 < n ∧ (fun _ _ _ => True) (0 + 1) pre T ∧ G2 36 8 = nI s) ∨ ((b = 0 ∨ b = 1 ∧ (T 5 = 1 ∨ 0 + 1 = n)) ∧ G2 36 8 = nI (blk (procO n S) (pre * 10 ^ (n - (0 + 1))) (10 ^ (n - (0 + 1))) s))) → Q (some (.int b)) G2) : V2 L xs (d + 4) m_Rows_goesOn 0 (xEntry [.ref 36, .int (0 : Int32), .ref 43] 3) [] G Q := by
  refine V2.to (l' := [some (.ref 36), some (.int (0 : Int32)), some (.ref 43)]) ?_ rfl rfl rfl rfl
  refine V2_aload_n (i := 0) d_Rows_goesOn_0 rfl rfl ?_
  refine V2_get (v := G 36 4) d_Rows_goesOn_1 fl_Rows_33 (by decide) rfl (by decide) rfl rfl ?_
  refine V2_topi (fun v1 ev1 => ?_)
  have c2 : v1 = 2 := (by subst ev1; exact hx.2.1)
  refine V2_lookup (tgt := 39) d_Rows_goesOn_4 (by decide) (by rw [c2]; first | done | rfl | decide +kernel) rfl ?_
  refine V2_aload_n (i := 0) d_Rows_goesOn_39 rfl rfl ?_
  refine V2_iload_n (i := 1) d_Rows_goesOn_40 rfl rfl ?_
  refine V2_aload_n (i := 2) d_Rows_goesOn_41 rfl rfl ?_
  refine V2_callV [.int (0 : Int32), .ref 43] d_Rows_goesOn_42 rfl rfl lk_Rows_120 mo_Rows_countsIfOut (by decide) rfl rfl rfl (Nat.le_of_ble_eq_true rfl) (Nat.le_of_ble_eq_true rfl) ?_
  refine V2.to (l' := [some (.ref 36), some (.int (0 : Int32)), some (.ref 43)]) ?_ rfl rfl rfl rfl
  refine V2_aload_n (i := 2) d_Rows_countsIfOut_0 rfl rfl ?_
  refine V2_get (v := G 43 7) d_Rows_countsIfOut_1 fl_Rows_80 (by decide) rfl (by decide) rfl rfl ?_
  refine V2_topi (fun v3 ev3 => ?_)
  refine V2_if_eq (tgt := 27) d_Rows_countsIfOut_4 rfl (fun c4 => ?_) (fun c4 => ?_)
  · refine V2_iconst (v := 1) d_Rows_countsIfOut_27 rfl ?_
    refine V2_zreturn d_Rows_countsIfOut_28 rfl (by decide) ?_
    refine V2.to (st' := [.int (1 : Int32)]) ?_ rfl rfl rfl rfl
    refine V2_zreturn d_Rows_goesOn_45 rfl (by decide) ?_
    have h5 : ¬ T 5 = 1 := by
      intro h
      have h9 := c4
      subst ev3 ev1
      rw [hx.2.2.2.2.2.1.2.2.2.2.2.2.2, h] at h9
      exact absurd h9 (by decide)
    refine hQ G 1 (frV.refl G) ?_
    by_cases hl9 : 0 + 1 = n
    · refine Or.inr ⟨Or.inr ⟨rfl, Or.inr hl9⟩, ?_⟩
      have hs := hx.2.2.2.2.2.2.2.2 0 (Nat.pow_pos (by decide))
      have e0 : n - (0 + 1) = 0 := by omega
      rw [e0] at hs ⊢
      rw [tr_0 h5, Nat.add_zero] at hs
      show G 36 8 = nI (procO n S (pre * 10 ^ 0) s)
      unfold procO
      rw [hs]
      exact hR
    · exact Or.inl ⟨rfl, h5, by omega, trivial, hR⟩
  · refine V2_aload_n (i := 0) d_Rows_countsIfOut_7 rfl rfl ?_
    refine V2_dup d_Rows_countsIfOut_8 rfl ?_
    refine V2_get (v := G 36 8) d_Rows_countsIfOut_9 fl_Rows_46 (by decide) rfl (by decide) rfl rfl ?_
    refine V2_topi (fun v5 ev5 => ?_)
    refine V2_aload_n (i := 0) d_Rows_countsIfOut_12 rfl rfl ?_
    refine V2_get (v := G 36 5) d_Rows_countsIfOut_13 fl_Rows_37 (by decide) rfl (by decide) rfl rfl ?_
    refine V2_topi (fun v6 ev6 => ?_)
    refine V2_iload_n (i := 1) d_Rows_countsIfOut_16 rfl rfl ?_
    refine V2_isub d_Rows_countsIfOut_17 ?_
    refine V2_topi (fun v7 ev7 => ?_)
    refine V2_iconst (v := 1) d_Rows_countsIfOut_18 rfl ?_
    refine V2_isub d_Rows_countsIfOut_19 ?_
    refine V2_topi (fun v8 ev8 => ?_)
    refine V2_callS [.int v8] d_Rows_countsIfOut_20 rfl rfl lk_Rows_136 mo_Rows_rowsOf (Nat.le_of_ble_eq_true rfl) (Nat.le_of_ble_eq_true rfl) ?_
    have ei : v8 = nI (n - (0 + 1)) := by
      subst ev8 ev7 ev6 ev5 ev3 ev1
      rw [hx.2.2.1]
      show nI n - nI 0 - nI 1 = _
      rw [nI_subn (by omega) (by omega), nI_subn (by omega) (by omega), Nat.sub_sub]
    rw [ei]
    refine c_Rows_rowsOf (by omega) ?_
    refine V2_iadd d_Rows_countsIfOut_23 ?_
    refine V2_topi (fun v9 ev9 => ?_)
    refine V2_put d_Rows_countsIfOut_24 fl_Rows_46 (by decide) rfl (by decide) rfl ?_
    refine V2_iconst (v := 1) d_Rows_countsIfOut_27 rfl ?_
    refine V2_zreturn d_Rows_countsIfOut_28 rfl (by decide) ?_
    refine V2.to (st' := [.int (1 : Int32)]) ?_ rfl rfl rfl rfl
    refine V2_zreturn d_Rows_goesOn_45 rfl (by decide) ?_
    have h5 : T 5 = 1 := by
      have h9 := c4
      subst ev9 ev8 ev7 ev6 ev5 ev3 ev1
      rw [hx.2.2.2.2.2.1.2.2.2.2.2.2.2] at h9
      exact hx.2.2.2.2.2.2.2.1.2.2.2.2.2.1.resolve_left h9
    subst ev9 ev8 ev7 ev6 ev5 ev3 ev1
    refine hQ _ 1 ⟨fun a h1 h2 => xp_row_ne h1, xp_ne (Or.inr (by decide)), xp_ne (Or.inr (by decide))⟩ (Or.inr ⟨Or.inr ⟨rfl, Or.inl h5⟩, ?_⟩)
    rw [blkO_all _ _ _ (fun i h1 h2 => ?_)]
    · show xp _ 36 8 _ 36 8 = _
      rw [xp_same, hR]
      exact nI_add _ _
    · have hs := hx.2.2.2.2.2.2.2.2 (i - pre * 10 ^ (n - (0 + 1))) (by omega)
      rw [show pre * 10 ^ (n - (0 + 1)) + (i - pre * 10 ^ (n - (0 + 1))) = i by omega, tr_1 h5] at hs
      rw [hs]
      rfl
theorem c_visO_1 {L : Nat} {xs : Nat → Int32} {d : Nat} {Q : Option Value → xF → Prop} {F G : xF} {S T : Nat → Int32} {n pre s : Nat} (hn : n ≤ 4) (hl : 1 < n) (hx : ctxV F G S T 2 n (1 + 1) pre 44) (hR : G 36 8 = nI s) (hQ : ∀ (G2 : xF) (b : Int32), frV G G2 → ((b = 1 ∧ ¬ T 5 = 1 ∧ 1 + 1 < n ∧ (fun _ _ _ => True) (1 + 1) pre T ∧ G2 36 8 = nI s) ∨ ((b = 0 ∨ b = 1 ∧ (T 5 = 1 ∨ 1 + 1 = n)) ∧ G2 36 8 = nI (blk (procO n S) (pre * 10 ^ (n - (1 + 1))) (10 ^ (n - (1 + 1))) s))) → Q (some (.int b)) G2) : V2 L xs (d + 4) m_Rows_goesOn 0 (xEntry [.ref 36, .int (1 : Int32), .ref 44] 3) [] G Q := by
  refine V2.to (l' := [some (.ref 36), some (.int (1 : Int32)), some (.ref 44)]) ?_ rfl rfl rfl rfl
  refine V2_aload_n (i := 0) d_Rows_goesOn_0 rfl rfl ?_
  refine V2_get (v := G 36 4) d_Rows_goesOn_1 fl_Rows_33 (by decide) rfl (by decide) rfl rfl ?_
  refine V2_topi (fun v1 ev1 => ?_)
  have c2 : v1 = 2 := (by subst ev1; exact hx.2.1)
  refine V2_lookup (tgt := 39) d_Rows_goesOn_4 (by decide) (by rw [c2]; first | done | rfl | decide +kernel) rfl ?_
  refine V2_aload_n (i := 0) d_Rows_goesOn_39 rfl rfl ?_
  refine V2_iload_n (i := 1) d_Rows_goesOn_40 rfl rfl ?_
  refine V2_aload_n (i := 2) d_Rows_goesOn_41 rfl rfl ?_
  refine V2_callV [.int (1 : Int32), .ref 44] d_Rows_goesOn_42 rfl rfl lk_Rows_120 mo_Rows_countsIfOut (by decide) rfl rfl rfl (Nat.le_of_ble_eq_true rfl) (Nat.le_of_ble_eq_true rfl) ?_
  refine V2.to (l' := [some (.ref 36), some (.int (1 : Int32)), some (.ref 44)]) ?_ rfl rfl rfl rfl
  refine V2_aload_n (i := 2) d_Rows_countsIfOut_0 rfl rfl ?_
  refine V2_get (v := G 44 7) d_Rows_countsIfOut_1 fl_Rows_80 (by decide) rfl (by decide) rfl rfl ?_
  refine V2_topi (fun v3 ev3 => ?_)
  refine V2_if_eq (tgt := 27) d_Rows_countsIfOut_4 rfl (fun c4 => ?_) (fun c4 => ?_)
  · refine V2_iconst (v := 1) d_Rows_countsIfOut_27 rfl ?_
    refine V2_zreturn d_Rows_countsIfOut_28 rfl (by decide) ?_
    refine V2.to (st' := [.int (1 : Int32)]) ?_ rfl rfl rfl rfl
    refine V2_zreturn d_Rows_goesOn_45 rfl (by decide) ?_
    have h5 : ¬ T 5 = 1 := by
      intro h
      have h9 := c4
      subst ev3 ev1
      rw [hx.2.2.2.2.2.1.2.2.2.2.2.2.2, h] at h9
      exact absurd h9 (by decide)
    refine hQ G 1 (frV.refl G) ?_
    by_cases hl9 : 1 + 1 = n
    · refine Or.inr ⟨Or.inr ⟨rfl, Or.inr hl9⟩, ?_⟩
      have hs := hx.2.2.2.2.2.2.2.2 0 (Nat.pow_pos (by decide))
      have e0 : n - (1 + 1) = 0 := by omega
      rw [e0] at hs ⊢
      rw [tr_0 h5, Nat.add_zero] at hs
      show G 36 8 = nI (procO n S (pre * 10 ^ 0) s)
      unfold procO
      rw [hs]
      exact hR
    · exact Or.inl ⟨rfl, h5, by omega, trivial, hR⟩
  · refine V2_aload_n (i := 0) d_Rows_countsIfOut_7 rfl rfl ?_
    refine V2_dup d_Rows_countsIfOut_8 rfl ?_
    refine V2_get (v := G 36 8) d_Rows_countsIfOut_9 fl_Rows_46 (by decide) rfl (by decide) rfl rfl ?_
    refine V2_topi (fun v5 ev5 => ?_)
    refine V2_aload_n (i := 0) d_Rows_countsIfOut_12 rfl rfl ?_
    refine V2_get (v := G 36 5) d_Rows_countsIfOut_13 fl_Rows_37 (by decide) rfl (by decide) rfl rfl ?_
    refine V2_topi (fun v6 ev6 => ?_)
    refine V2_iload_n (i := 1) d_Rows_countsIfOut_16 rfl rfl ?_
    refine V2_isub d_Rows_countsIfOut_17 ?_
    refine V2_topi (fun v7 ev7 => ?_)
    refine V2_iconst (v := 1) d_Rows_countsIfOut_18 rfl ?_
    refine V2_isub d_Rows_countsIfOut_19 ?_
    refine V2_topi (fun v8 ev8 => ?_)
    refine V2_callS [.int v8] d_Rows_countsIfOut_20 rfl rfl lk_Rows_136 mo_Rows_rowsOf (Nat.le_of_ble_eq_true rfl) (Nat.le_of_ble_eq_true rfl) ?_
    have ei : v8 = nI (n - (1 + 1)) := by
      subst ev8 ev7 ev6 ev5 ev3 ev1
      rw [hx.2.2.1]
      show nI n - nI 1 - nI 1 = _
      rw [nI_subn (by omega) (by omega), nI_subn (by omega) (by omega), Nat.sub_sub]
    rw [ei]
    refine c_Rows_rowsOf (by omega) ?_
    refine V2_iadd d_Rows_countsIfOut_23 ?_
    refine V2_topi (fun v9 ev9 => ?_)
    refine V2_put d_Rows_countsIfOut_24 fl_Rows_46 (by decide) rfl (by decide) rfl ?_
    refine V2_iconst (v := 1) d_Rows_countsIfOut_27 rfl ?_
    refine V2_zreturn d_Rows_countsIfOut_28 rfl (by decide) ?_
    refine V2.to (st' := [.int (1 : Int32)]) ?_ rfl rfl rfl rfl
    refine V2_zreturn d_Rows_goesOn_45 rfl (by decide) ?_
    have h5 : T 5 = 1 := by
      have h9 := c4
      subst ev9 ev8 ev7 ev6 ev5 ev3 ev1
      rw [hx.2.2.2.2.2.1.2.2.2.2.2.2.2] at h9
      exact hx.2.2.2.2.2.2.2.1.2.2.2.2.2.1.resolve_left h9
    subst ev9 ev8 ev7 ev6 ev5 ev3 ev1
    refine hQ _ 1 ⟨fun a h1 h2 => xp_row_ne h1, xp_ne (Or.inr (by decide)), xp_ne (Or.inr (by decide))⟩ (Or.inr ⟨Or.inr ⟨rfl, Or.inl h5⟩, ?_⟩)
    rw [blkO_all _ _ _ (fun i h1 h2 => ?_)]
    · show xp _ 36 8 _ 36 8 = _
      rw [xp_same, hR]
      exact nI_add _ _
    · have hs := hx.2.2.2.2.2.2.2.2 (i - pre * 10 ^ (n - (1 + 1))) (by omega)
      rw [show pre * 10 ^ (n - (1 + 1)) + (i - pre * 10 ^ (n - (1 + 1))) = i by omega, tr_1 h5] at hs
      rw [hs]
      rfl
theorem c_visO_2 {L : Nat} {xs : Nat → Int32} {d : Nat} {Q : Option Value → xF → Prop} {F G : xF} {S T : Nat → Int32} {n pre s : Nat} (hn : n ≤ 4) (hl : 2 < n) (hx : ctxV F G S T 2 n (2 + 1) pre 45) (hR : G 36 8 = nI s) (hQ : ∀ (G2 : xF) (b : Int32), frV G G2 → ((b = 1 ∧ ¬ T 5 = 1 ∧ 2 + 1 < n ∧ (fun _ _ _ => True) (2 + 1) pre T ∧ G2 36 8 = nI s) ∨ ((b = 0 ∨ b = 1 ∧ (T 5 = 1 ∨ 2 + 1 = n)) ∧ G2 36 8 = nI (blk (procO n S) (pre * 10 ^ (n - (2 + 1))) (10 ^ (n - (2 + 1))) s))) → Q (some (.int b)) G2) : V2 L xs (d + 4) m_Rows_goesOn 0 (xEntry [.ref 36, .int (2 : Int32), .ref 45] 3) [] G Q := by
  refine V2.to (l' := [some (.ref 36), some (.int (2 : Int32)), some (.ref 45)]) ?_ rfl rfl rfl rfl
  refine V2_aload_n (i := 0) d_Rows_goesOn_0 rfl rfl ?_
  refine V2_get (v := G 36 4) d_Rows_goesOn_1 fl_Rows_33 (by decide) rfl (by decide) rfl rfl ?_
  refine V2_topi (fun v1 ev1 => ?_)
  have c2 : v1 = 2 := (by subst ev1; exact hx.2.1)
  refine V2_lookup (tgt := 39) d_Rows_goesOn_4 (by decide) (by rw [c2]; first | done | rfl | decide +kernel) rfl ?_
  refine V2_aload_n (i := 0) d_Rows_goesOn_39 rfl rfl ?_
  refine V2_iload_n (i := 1) d_Rows_goesOn_40 rfl rfl ?_
  refine V2_aload_n (i := 2) d_Rows_goesOn_41 rfl rfl ?_
  refine V2_callV [.int (2 : Int32), .ref 45] d_Rows_goesOn_42 rfl rfl lk_Rows_120 mo_Rows_countsIfOut (by decide) rfl rfl rfl (Nat.le_of_ble_eq_true rfl) (Nat.le_of_ble_eq_true rfl) ?_
  refine V2.to (l' := [some (.ref 36), some (.int (2 : Int32)), some (.ref 45)]) ?_ rfl rfl rfl rfl
  refine V2_aload_n (i := 2) d_Rows_countsIfOut_0 rfl rfl ?_
  refine V2_get (v := G 45 7) d_Rows_countsIfOut_1 fl_Rows_80 (by decide) rfl (by decide) rfl rfl ?_
  refine V2_topi (fun v3 ev3 => ?_)
  refine V2_if_eq (tgt := 27) d_Rows_countsIfOut_4 rfl (fun c4 => ?_) (fun c4 => ?_)
  · refine V2_iconst (v := 1) d_Rows_countsIfOut_27 rfl ?_
    refine V2_zreturn d_Rows_countsIfOut_28 rfl (by decide) ?_
    refine V2.to (st' := [.int (1 : Int32)]) ?_ rfl rfl rfl rfl
    refine V2_zreturn d_Rows_goesOn_45 rfl (by decide) ?_
    have h5 : ¬ T 5 = 1 := by
      intro h
      have h9 := c4
      subst ev3 ev1
      rw [hx.2.2.2.2.2.1.2.2.2.2.2.2.2, h] at h9
      exact absurd h9 (by decide)
    refine hQ G 1 (frV.refl G) ?_
    by_cases hl9 : 2 + 1 = n
    · refine Or.inr ⟨Or.inr ⟨rfl, Or.inr hl9⟩, ?_⟩
      have hs := hx.2.2.2.2.2.2.2.2 0 (Nat.pow_pos (by decide))
      have e0 : n - (2 + 1) = 0 := by omega
      rw [e0] at hs ⊢
      rw [tr_0 h5, Nat.add_zero] at hs
      show G 36 8 = nI (procO n S (pre * 10 ^ 0) s)
      unfold procO
      rw [hs]
      exact hR
    · exact Or.inl ⟨rfl, h5, by omega, trivial, hR⟩
  · refine V2_aload_n (i := 0) d_Rows_countsIfOut_7 rfl rfl ?_
    refine V2_dup d_Rows_countsIfOut_8 rfl ?_
    refine V2_get (v := G 36 8) d_Rows_countsIfOut_9 fl_Rows_46 (by decide) rfl (by decide) rfl rfl ?_
    refine V2_topi (fun v5 ev5 => ?_)
    refine V2_aload_n (i := 0) d_Rows_countsIfOut_12 rfl rfl ?_
    refine V2_get (v := G 36 5) d_Rows_countsIfOut_13 fl_Rows_37 (by decide) rfl (by decide) rfl rfl ?_
    refine V2_topi (fun v6 ev6 => ?_)
    refine V2_iload_n (i := 1) d_Rows_countsIfOut_16 rfl rfl ?_
    refine V2_isub d_Rows_countsIfOut_17 ?_
    refine V2_topi (fun v7 ev7 => ?_)
    refine V2_iconst (v := 1) d_Rows_countsIfOut_18 rfl ?_
    refine V2_isub d_Rows_countsIfOut_19 ?_
    refine V2_topi (fun v8 ev8 => ?_)
    refine V2_callS [.int v8] d_Rows_countsIfOut_20 rfl rfl lk_Rows_136 mo_Rows_rowsOf (Nat.le_of_ble_eq_true rfl) (Nat.le_of_ble_eq_true rfl) ?_
    have ei : v8 = nI (n - (2 + 1)) := by
      subst ev8 ev7 ev6 ev5 ev3 ev1
      rw [hx.2.2.1]
      show nI n - nI 2 - nI 1 = _
      rw [nI_subn (by omega) (by omega), nI_subn (by omega) (by omega), Nat.sub_sub]
    rw [ei]
    refine c_Rows_rowsOf (by omega) ?_
    refine V2_iadd d_Rows_countsIfOut_23 ?_
    refine V2_topi (fun v9 ev9 => ?_)
    refine V2_put d_Rows_countsIfOut_24 fl_Rows_46 (by decide) rfl (by decide) rfl ?_
    refine V2_iconst (v := 1) d_Rows_countsIfOut_27 rfl ?_
    refine V2_zreturn d_Rows_countsIfOut_28 rfl (by decide) ?_
    refine V2.to (st' := [.int (1 : Int32)]) ?_ rfl rfl rfl rfl
    refine V2_zreturn d_Rows_goesOn_45 rfl (by decide) ?_
    have h5 : T 5 = 1 := by
      have h9 := c4
      subst ev9 ev8 ev7 ev6 ev5 ev3 ev1
      rw [hx.2.2.2.2.2.1.2.2.2.2.2.2.2] at h9
      exact hx.2.2.2.2.2.2.2.1.2.2.2.2.2.1.resolve_left h9
    subst ev9 ev8 ev7 ev6 ev5 ev3 ev1
    refine hQ _ 1 ⟨fun a h1 h2 => xp_row_ne h1, xp_ne (Or.inr (by decide)), xp_ne (Or.inr (by decide))⟩ (Or.inr ⟨Or.inr ⟨rfl, Or.inl h5⟩, ?_⟩)
    rw [blkO_all _ _ _ (fun i h1 h2 => ?_)]
    · show xp _ 36 8 _ 36 8 = _
      rw [xp_same, hR]
      exact nI_add _ _
    · have hs := hx.2.2.2.2.2.2.2.2 (i - pre * 10 ^ (n - (2 + 1))) (by omega)
      rw [show pre * 10 ^ (n - (2 + 1)) + (i - pre * 10 ^ (n - (2 + 1))) = i by omega, tr_1 h5] at hs
      rw [hs]
      rfl
theorem c_visO_3 {L : Nat} {xs : Nat → Int32} {d : Nat} {Q : Option Value → xF → Prop} {F G : xF} {S T : Nat → Int32} {n pre s : Nat} (hn : n ≤ 4) (hl : 3 < n) (hx : ctxV F G S T 2 n (3 + 1) pre 46) (hR : G 36 8 = nI s) (hQ : ∀ (G2 : xF) (b : Int32), frV G G2 → ((b = 1 ∧ ¬ T 5 = 1 ∧ 3 + 1 < n ∧ (fun _ _ _ => True) (3 + 1) pre T ∧ G2 36 8 = nI s) ∨ ((b = 0 ∨ b = 1 ∧ (T 5 = 1 ∨ 3 + 1 = n)) ∧ G2 36 8 = nI (blk (procO n S) (pre * 10 ^ (n - (3 + 1))) (10 ^ (n - (3 + 1))) s))) → Q (some (.int b)) G2) : V2 L xs (d + 4) m_Rows_goesOn 0 (xEntry [.ref 36, .int (3 : Int32), .ref 46] 3) [] G Q := by
  refine V2.to (l' := [some (.ref 36), some (.int (3 : Int32)), some (.ref 46)]) ?_ rfl rfl rfl rfl
  refine V2_aload_n (i := 0) d_Rows_goesOn_0 rfl rfl ?_
  refine V2_get (v := G 36 4) d_Rows_goesOn_1 fl_Rows_33 (by decide) rfl (by decide) rfl rfl ?_
  refine V2_topi (fun v1 ev1 => ?_)
  have c2 : v1 = 2 := (by subst ev1; exact hx.2.1)
  refine V2_lookup (tgt := 39) d_Rows_goesOn_4 (by decide) (by rw [c2]; first | done | rfl | decide +kernel) rfl ?_
  refine V2_aload_n (i := 0) d_Rows_goesOn_39 rfl rfl ?_
  refine V2_iload_n (i := 1) d_Rows_goesOn_40 rfl rfl ?_
  refine V2_aload_n (i := 2) d_Rows_goesOn_41 rfl rfl ?_
  refine V2_callV [.int (3 : Int32), .ref 46] d_Rows_goesOn_42 rfl rfl lk_Rows_120 mo_Rows_countsIfOut (by decide) rfl rfl rfl (Nat.le_of_ble_eq_true rfl) (Nat.le_of_ble_eq_true rfl) ?_
  refine V2.to (l' := [some (.ref 36), some (.int (3 : Int32)), some (.ref 46)]) ?_ rfl rfl rfl rfl
  refine V2_aload_n (i := 2) d_Rows_countsIfOut_0 rfl rfl ?_
  refine V2_get (v := G 46 7) d_Rows_countsIfOut_1 fl_Rows_80 (by decide) rfl (by decide) rfl rfl ?_
  refine V2_topi (fun v3 ev3 => ?_)
  refine V2_if_eq (tgt := 27) d_Rows_countsIfOut_4 rfl (fun c4 => ?_) (fun c4 => ?_)
  · refine V2_iconst (v := 1) d_Rows_countsIfOut_27 rfl ?_
    refine V2_zreturn d_Rows_countsIfOut_28 rfl (by decide) ?_
    refine V2.to (st' := [.int (1 : Int32)]) ?_ rfl rfl rfl rfl
    refine V2_zreturn d_Rows_goesOn_45 rfl (by decide) ?_
    have h5 : ¬ T 5 = 1 := by
      intro h
      have h9 := c4
      subst ev3 ev1
      rw [hx.2.2.2.2.2.1.2.2.2.2.2.2.2, h] at h9
      exact absurd h9 (by decide)
    refine hQ G 1 (frV.refl G) ?_
    by_cases hl9 : 3 + 1 = n
    · refine Or.inr ⟨Or.inr ⟨rfl, Or.inr hl9⟩, ?_⟩
      have hs := hx.2.2.2.2.2.2.2.2 0 (Nat.pow_pos (by decide))
      have e0 : n - (3 + 1) = 0 := by omega
      rw [e0] at hs ⊢
      rw [tr_0 h5, Nat.add_zero] at hs
      show G 36 8 = nI (procO n S (pre * 10 ^ 0) s)
      unfold procO
      rw [hs]
      exact hR
    · exact Or.inl ⟨rfl, h5, by omega, trivial, hR⟩
  · refine V2_aload_n (i := 0) d_Rows_countsIfOut_7 rfl rfl ?_
    refine V2_dup d_Rows_countsIfOut_8 rfl ?_
    refine V2_get (v := G 36 8) d_Rows_countsIfOut_9 fl_Rows_46 (by decide) rfl (by decide) rfl rfl ?_
    refine V2_topi (fun v5 ev5 => ?_)
    refine V2_aload_n (i := 0) d_Rows_countsIfOut_12 rfl rfl ?_
    refine V2_get (v := G 36 5) d_Rows_countsIfOut_13 fl_Rows_37 (by decide) rfl (by decide) rfl rfl ?_
    refine V2_topi (fun v6 ev6 => ?_)
    refine V2_iload_n (i := 1) d_Rows_countsIfOut_16 rfl rfl ?_
    refine V2_isub d_Rows_countsIfOut_17 ?_
    refine V2_topi (fun v7 ev7 => ?_)
    refine V2_iconst (v := 1) d_Rows_countsIfOut_18 rfl ?_
    refine V2_isub d_Rows_countsIfOut_19 ?_
    refine V2_topi (fun v8 ev8 => ?_)
    refine V2_callS [.int v8] d_Rows_countsIfOut_20 rfl rfl lk_Rows_136 mo_Rows_rowsOf (Nat.le_of_ble_eq_true rfl) (Nat.le_of_ble_eq_true rfl) ?_
    have ei : v8 = nI (n - (3 + 1)) := by
      subst ev8 ev7 ev6 ev5 ev3 ev1
      rw [hx.2.2.1]
      show nI n - nI 3 - nI 1 = _
      rw [nI_subn (by omega) (by omega), nI_subn (by omega) (by omega), Nat.sub_sub]
    rw [ei]
    refine c_Rows_rowsOf (by omega) ?_
    refine V2_iadd d_Rows_countsIfOut_23 ?_
    refine V2_topi (fun v9 ev9 => ?_)
    refine V2_put d_Rows_countsIfOut_24 fl_Rows_46 (by decide) rfl (by decide) rfl ?_
    refine V2_iconst (v := 1) d_Rows_countsIfOut_27 rfl ?_
    refine V2_zreturn d_Rows_countsIfOut_28 rfl (by decide) ?_
    refine V2.to (st' := [.int (1 : Int32)]) ?_ rfl rfl rfl rfl
    refine V2_zreturn d_Rows_goesOn_45 rfl (by decide) ?_
    have h5 : T 5 = 1 := by
      have h9 := c4
      subst ev9 ev8 ev7 ev6 ev5 ev3 ev1
      rw [hx.2.2.2.2.2.1.2.2.2.2.2.2.2] at h9
      exact hx.2.2.2.2.2.2.2.1.2.2.2.2.2.1.resolve_left h9
    subst ev9 ev8 ev7 ev6 ev5 ev3 ev1
    refine hQ _ 1 ⟨fun a h1 h2 => xp_row_ne h1, xp_ne (Or.inr (by decide)), xp_ne (Or.inr (by decide))⟩ (Or.inr ⟨Or.inr ⟨rfl, Or.inl h5⟩, ?_⟩)
    rw [blkO_all _ _ _ (fun i h1 h2 => ?_)]
    · show xp _ 36 8 _ 36 8 = _
      rw [xp_same, hR]
      exact nI_add _ _
    · have hs := hx.2.2.2.2.2.2.2.2 (i - pre * 10 ^ (n - (3 + 1))) (by omega)
      rw [show pre * 10 ^ (n - (3 + 1)) + (i - pre * 10 ^ (n - (3 + 1))) = i by omega, tr_1 h5] at hs
      rw [hs]
      rfl
theorem vis_odds {L : Nat} {xs : Nat → Int32} {F : xF} {S : Nat → Int32} {n : Nat} (hn : n ≤ 4) : visV L xs F S 2 n (procO n S) (fun G s => G 36 8 = nI s) (fun _ _ _ => True) (fun _ _ _ => True) (fun _ _ => True) := by
  intro d Q G T pre l s hl hx hj hB hR hQ
  rcases (show l = 0 ∨ l = 1 ∨ l = 2 ∨ l = 3 by omega) with h | h | h | h <;> subst h
  · exact c_visO_0 hn hl hx hR hQ
  · exact c_visO_1 hn hl hx hR hQ
  · exact c_visO_2 hn hl hx hR hQ
  · exact c_visO_3 hn hl hx hR hQ
def eu : Nat → Nat → Nat → Nat
  | 0, g, _ => g
  | f + 1, g, s => if s = 0 then g else eu f s (g % s)
theorem eu_0 {f g : Nat} : eu f g 0 = g := by
  cases f with
  | zero => rfl
  | succ f => exact if_pos rfl
theorem eu_s {f g s : Nat} (h : ¬ s = 0) : eu (f + 1) g s = eu f s (g % s) := if_neg h
theorem eu_1 : ∀ a, a < 11 → eu 50 a 10 = Nat.gcd a 10 := by decide +kernel
theorem eu_2 : ∀ a, a < 101 → eu 50 a 100 = Nat.gcd a 100 := by decide +kernel
theorem eu_3 : ∀ a, a < 1001 → eu 50 a 1000 = Nat.gcd a 1000 := by decide +kernel
theorem eu_n {n a : Nat} (h1 : 1 ≤ n) (h3 : n ≤ 3) (ha : a ≤ 10 ^ n) : eu 50 a (10 ^ n) = Nat.gcd a (10 ^ n) := by
  rcases (show n = 1 ∨ n = 2 ∨ n = 3 by omega) with h | h | h <;> subst h
  · exact eu_1 a (by omega)
  · exact eu_2 a (by omega)
  · exact eu_3 a (by omega)
theorem gcd_n {n a : Nat} (h3 : n ≤ 3) : 0 < Nat.gcd a (10 ^ n) ∧ Nat.gcd a (10 ^ n) ≤ 1000 := by
  have hp : 0 < 10 ^ n := Nat.pow_pos (by decide)
  refine ⟨Nat.gcd_pos_of_pos_right _ hp, Nat.le_trans (Nat.gcd_le_right _ hp) ?_⟩
  rcases (show n = 0 ∨ n = 1 ∨ n = 2 ∨ n = 3 by omega) with h | h | h | h <;> subst h <;> decide
theorem p10 {n : Nat} (h3 : n ≤ 3) : 10 ^ n ≤ 1000 := by
  rcases (show n = 0 ∨ n = 1 ∨ n = 2 ∨ n = 3 by omega) with h | h | h | h <;> subst h <;> decide
theorem c_P_div_loop {L : Nat} {xs : Nat → Int32} {d : Nat} {Q : Option Value → xF → Prop} {F : xF}  : ∀ (n_ : Nat) (k m g t : Nat), k + m = 50 → m < n_ → g ≤ 1000 → t ≤ 1000 → (Q (some (.int (nI (eu m g t)))) F) → V2 L xs d m_P_commonDivisor 7 [none, none, some (.int (nI g)), some (.int (nI t)), some (.int (nI k)), none] [] F Q := by
  intro n_
  induction n_ with
  | zero => exact fun k m g t h1 h2 => absurd h2 (by omega)
  | succ n_ ih =>
    intro k m g t h1 h2 h3 h4 hQ
    refine V2_iload (i := 4) d_P_commonDivisor_7 rfl ?_
    refine V2_bipush (v := 50) d_P_commonDivisor_9 rfl ?_
    refine V2_icmp_ge (tgt := 34) d_P_commonDivisor_11 rfl (fun c1 => ?_) (fun c1 => ?_)
    · refine V2_iload_n (i := 2) d_P_commonDivisor_34 rfl rfl ?_
      refine V2_ireturn d_P_commonDivisor_35 rfl ?_
      have hm : m = 0 := by
        have := (nI_leI (a := 50) (b := k) (by omega) (by omega)).mp c1
        omega
      subst hm
      exact hQ
    · have hk : k < 50 := Nat.not_le.mp (fun hh => c1 ((nI_leI (a := 50) (b := k) (by omega) (by omega)).mpr hh))
      obtain ⟨m, rfl⟩ : ∃ m2, m = m2 + 1 := ⟨m - 1, by omega⟩
      refine V2_iload_n (i := 3) d_P_commonDivisor_14 rfl rfl ?_
      refine V2_if_eq (tgt := 34) d_P_commonDivisor_15 rfl (fun c2 => ?_) (fun c2 => ?_)
      · refine V2_iload_n (i := 2) d_P_commonDivisor_34 rfl rfl ?_
        refine V2_ireturn d_P_commonDivisor_35 rfl ?_
        have ht : t = 0 := (nI_eq (b := 0) (by omega) (by omega)).mp c2
        subst ht
        rw [eu_0] at hQ
        exact hQ
      · have ht : ¬ t = 0 := fun h => c2 (by rw [h]; rfl)
        refine V2_iload_n (i := 2) d_P_commonDivisor_18 rfl rfl ?_
        refine V2_iload_n (i := 3) d_P_commonDivisor_19 rfl rfl ?_
        refine V2_iremM d_P_commonDivisor_20 (by assumption) ?_
        refine V2_topi (fun v3 ev3 => ?_)
        refine V2_istore (i := 5) (l' := [none, none, some (.int (nI g)), some (.int (nI t)), some (.int (nI k)), some (.int v3)]) d_P_commonDivisor_21 (xst_i (Nat.le_of_ble_eq_true rfl) rfl rfl) ?_
        refine V2_iload_n (i := 3) d_P_commonDivisor_23 rfl rfl ?_
        refine V2_istore_n (i := 2) (l' := [none, none, some (.int (nI t)), some (.int (nI t)), some (.int (nI k)), some (.int v3)]) d_P_commonDivisor_24 rfl (xst_0 (Nat.le_of_ble_eq_true rfl) rfl rfl) ?_
        refine V2_iload (i := 5) d_P_commonDivisor_25 rfl ?_
        refine V2_istore_n (i := 3) (l' := [none, none, some (.int (nI t)), some (.int v3), some (.int (nI k)), some (.int v3)]) d_P_commonDivisor_27 rfl (xst_i (Nat.le_of_ble_eq_true rfl) rfl rfl) ?_
        obtain ⟨v4, ev4⟩ : ∃ y : Int32, y = nI k + 1 := ⟨_, rfl⟩
        refine V2_iinc (i := 4) (v := v4) (l' := [none, none, some (.int (nI t)), some (.int v3), some (.int v4), some (.int v3)]) d_P_commonDivisor_28 rfl (by rw [ev4]; rfl) (xst_i (Nat.le_of_ble_eq_true rfl) rfl rfl) ?_
        refine V2_goto (tgt := 7) d_P_commonDivisor_31 rfl ?_
        have ea : v3 = nI (g % t) := by
          subst ev4 ev3
          exact nI_modn (by omega) (by omega)
        rw [eu_s ht] at hQ
        rw [ea, ev4, nI_1]
        refine V2.weak (l' := [none, none, some (.int (nI t)), some (.int (nI (g % t))), some (.int (nI (k + 1))), none]) ?_ ⟨rfl, rfl, rfl, trivial⟩
        exact V2.to (ih (k + 1) m t (g % t) (by omega) (by omega) (by omega) (by have := Nat.mod_le g t; omega) hQ) rfl rfl rfl rfl
theorem c_P_div {L : Nat} {xs : Nat → Int32} {d : Nat} {Q : Option Value → xF → Prop} {F : xF} {g t : Nat} (hg : g ≤ 1000) (ht : t ≤ 1000) (hQ : Q (some (.int (nI (eu 50 g t)))) F) : V2 L xs d m_P_commonDivisor 0 (xEntry [.int (nI g), .int (nI t)] 6) [] F Q := by
  refine V2.to (l' := [some (.int (nI g)), some (.int (nI t)), none, none, none, none]) ?_ rfl rfl rfl rfl
  refine V2_iload_n (i := 0) d_P_commonDivisor_0 rfl rfl ?_
  refine V2_istore_n (i := 2) (l' := [some (.int (nI g)), some (.int (nI t)), some (.int (nI g)), none, none, none]) d_P_commonDivisor_1 rfl (xst_i (Nat.le_of_ble_eq_true rfl) rfl rfl) ?_
  refine V2_iload_n (i := 1) d_P_commonDivisor_2 rfl rfl ?_
  refine V2_istore_n (i := 3) (l' := [some (.int (nI g)), some (.int (nI t)), some (.int (nI g)), some (.int (nI t)), none, none]) d_P_commonDivisor_3 rfl (xst_i (Nat.le_of_ble_eq_true rfl) rfl rfl) ?_
  refine V2_iconst (v := 0) d_P_commonDivisor_4 rfl ?_
  refine V2_istore (i := 4) (l' := [some (.int (nI g)), some (.int (nI t)), some (.int (nI g)), some (.int (nI t)), some (.int (0 : Int32)), none]) d_P_commonDivisor_5 (xst_i (Nat.le_of_ble_eq_true rfl) rfl rfl) ?_
  refine V2.weak (l' := [none, none, some (.int (nI g)), some (.int (nI t)), some (.int (nI 0)), none]) ?_ ⟨rfl, rfl, rfl, trivial⟩
  exact V2.to (c_P_div_loop 51 0 50 g t (by omega) (by omega) hg ht hQ) rfl rfl rfl rfl
theorem c_R_div_loop {L : Nat} {xs : Nat → Int32} {d : Nat} {Q : Option Value → xF → Prop} {F : xF}  : ∀ (n_ : Nat) (g t : Nat), t < n_ → g ≤ 1000 → t ≤ 1000 → (Q (some (.int (nI (Nat.gcd g t)))) F) → V2 L xs d m_R_divisor 4 [none, none, some (.int (nI g)), some (.int (nI t)), none] [] F Q := by
  intro n_
  induction n_ with
  | zero => exact fun g t h1 => absurd h1 (by omega)
  | succ n_ ih =>
    intro g t h1 h3 h4 hQ
    refine V2_iload_n (i := 3) d_R_divisor_4 rfl rfl ?_
    refine V2_if_eq (tgt := 21) d_R_divisor_5 rfl (fun c1 => ?_) (fun c1 => ?_)
    · refine V2_iload_n (i := 2) d_R_divisor_21 rfl rfl ?_
      refine V2_ireturn d_R_divisor_22 rfl ?_
      have ht : t = 0 := (nI_eq (b := 0) (by omega) (by omega)).mp c1
      subst ht
      rw [Nat.gcd_zero_right] at hQ
      exact hQ
    · have ht : ¬ t = 0 := fun h => c1 (by rw [h]; rfl)
      refine V2_iload_n (i := 2) d_R_divisor_8 rfl rfl ?_
      refine V2_iload_n (i := 3) d_R_divisor_9 rfl rfl ?_
      refine V2_iremM d_R_divisor_10 (by assumption) ?_
      refine V2_topi (fun v2 ev2 => ?_)
      refine V2_istore (i := 4) (l' := [none, none, some (.int (nI g)), some (.int (nI t)), some (.int v2)]) d_R_divisor_11 (xst_i (Nat.le_of_ble_eq_true rfl) rfl rfl) ?_
      refine V2_iload_n (i := 3) d_R_divisor_13 rfl rfl ?_
      refine V2_istore_n (i := 2) (l' := [none, none, some (.int (nI t)), some (.int (nI t)), some (.int v2)]) d_R_divisor_14 rfl (xst_0 (Nat.le_of_ble_eq_true rfl) rfl rfl) ?_
      refine V2_iload (i := 4) d_R_divisor_15 rfl ?_
      refine V2_istore_n (i := 3) (l' := [none, none, some (.int (nI t)), some (.int v2), some (.int v2)]) d_R_divisor_17 rfl (xst_i (Nat.le_of_ble_eq_true rfl) rfl rfl) ?_
      refine V2_goto (tgt := 4) d_R_divisor_18 rfl ?_
      have ea : v2 = nI (g % t) := by
        subst ev2
        exact nI_modn (by omega) (by omega)
      rw [Nat.gcd_comm, Nat.gcd_rec, Nat.gcd_comm] at hQ
      rw [ea]
      refine V2.weak (l' := [none, none, some (.int (nI t)), some (.int (nI (g % t))), none]) ?_ ⟨rfl, rfl, trivial⟩
      exact V2.to (ih t (g % t) (by have := Nat.mod_lt g (show 0 < t by omega); omega) (by omega) (by have := Nat.mod_le g t; omega) hQ) rfl rfl rfl rfl
theorem c_R_div {L : Nat} {xs : Nat → Int32} {d : Nat} {Q : Option Value → xF → Prop} {F : xF} {g t : Nat} (hg : g ≤ 1000) (ht : t ≤ 1000) (hQ : Q (some (.int (nI (Nat.gcd g t)))) F) : V2 L xs d m_R_divisor 0 (xEntry [.int (nI g), .int (nI t)] 5) [] F Q := by
  refine V2.to (l' := [some (.int (nI g)), some (.int (nI t)), none, none, none]) ?_ rfl rfl rfl rfl
  refine V2_iload_n (i := 0) d_R_divisor_0 rfl rfl ?_
  refine V2_istore_n (i := 2) (l' := [some (.int (nI g)), some (.int (nI t)), some (.int (nI g)), none, none]) d_R_divisor_1 rfl (xst_i (Nat.le_of_ble_eq_true rfl) rfl rfl) ?_
  refine V2_iload_n (i := 1) d_R_divisor_2 rfl rfl ?_
  refine V2_istore_n (i := 3) (l' := [some (.int (nI g)), some (.int (nI t)), some (.int (nI g)), some (.int (nI t)), none]) d_R_divisor_3 rfl (xst_i (Nat.le_of_ble_eq_true rfl) rfl rfl) ?_
  refine V2.weak (l' := [none, none, some (.int (nI g)), some (.int (nI t)), none]) ?_ ⟨rfl, rfl, trivial⟩
  exact V2.to (c_R_div_loop 1001 g t (by omega) hg ht hQ) rfl rfl rfl rfl
noncomputable def oddsN (S : Nat → Int32) (n : Nat) : Nat := blk (procO n S) 0 (10 ^ n) 0
noncomputable def k_odds (F : xF) (n w : Int32) : Int32 × xF := if (1 ≤ n.toInt ∧ n.toInt ≤ 3) ∧ 0 ≤ w.toInt ∧ w.toInt ≤ 1 then (if (F 66 5).toInt = 1 then (-1000000000 - 3, errF F 3) else ((if w.toInt = 0 then nI (oddsN (F 66) n.toNatClampNeg / Nat.gcd (oddsN (F 66) n.toNatClampNeg) (10 ^ n.toNatClampNeg)) else nI (10 ^ n.toNatClampNeg / Nat.gcd (oddsN (F 66) n.toNatClampNeg) (10 ^ n.toNatClampNeg))), F)) else (-1000000000 - 1, errF F 1)
theorem odds_le (S : Nat → Int32) (n : Nat) : oddsN S n ≤ 10 ^ n := by
  have := blkO_le (n := n) (S := S) (10 ^ n) 0 0
  unfold oddsN
  omega
theorem c_cls_odds {L : Nat} {xs : Nat → Int32} {d : Nat} {Q : Option Value → xF → Prop} {F : xF} {n w : Int32} (hR : Rel F) (hQ : ∀ F1, Mid F F1 (k_odds F n w).2 → Q (some (.int (k_odds F n w).1)) F1) : V2 L xs (d + 30) m_P_odds 0 (xEntry [.ref 0, .int n, .int w] 6) [] F Q := by
  have q0 : (0 : Int32).toInt = 0 := by decide
  have q1 : (1 : Int32).toInt = 1 := by decide
  have q2 : (2 : Int32).toInt = 2 := by decide
  have q3 : (3 : Int32).toInt = 3 := by decide
  have q4 : (4 : Int32).toInt = 4 := by decide
  have q5 : (5 : Int32).toInt = 5 := by decide
  have q6 : (6 : Int32).toInt = 6 := by decide
  have q7 : (7 : Int32).toInt = 7 := by decide
  have q8 : (8 : Int32).toInt = 8 := by decide
  have q9 : (9 : Int32).toInt = 9 := by decide
  have q10 : (10 : Int32).toInt = 10 := by decide
  have q12 : (12 : Int32).toInt = 12 := by decide
  have q16 : (16 : Int32).toInt = 16 := by decide
  have q20 : (20 : Int32).toInt = 20 := by decide
  have q24 : (24 : Int32).toInt = 24 := by decide
  have q30 : (30 : Int32).toInt = 30 := by decide
  have q32 : (32 : Int32).toInt = 32 := by decide
  have q40 : (40 : Int32).toInt = 40 := by decide
  have q60 : (60 : Int32).toInt = 60 := by decide
  have q69 : (69 : Int32).toInt = 69 := by decide
  have q99 : (99 : Int32).toInt = 99 := by decide
  have q9999 : (9999 : Int32).toInt = 9999 := by decide
  have q274 : (274 : Int32).toInt = 274 := by decide
  have q334 : (334 : Int32).toInt = 334 := by decide
  have cz7 : F 2 7 = F 66 5 := hR.1.1.1.2.2.2.2.2.2.2
  have s5 : F 66 5 = 0 ∨ F 66 5 = 1 := hR.2.1.1.2.2.2.2.2.1
  refine V2.to (l' := [some (.ref 0), some (.int n), some (.int w), none, none, none]) ?_ rfl rfl rfl rfl
  refine V2_iload_n (i := 1) d_P_odds_0 rfl rfl ?_
  refine V2_iconst (v := 1) d_P_odds_1 rfl ?_
  refine V2_iconst (v := 3) d_P_odds_2 rfl ?_
  refine V2_callS [.int n, .int (1 : Int32), .int (3 : Int32)] d_P_odds_3 rfl rfl lk_P_133 mo_P_within (Nat.le_of_ble_eq_true rfl) (Nat.le_of_ble_eq_true rfl) ?_
  refine V2.to (l' := [some (.int n), some (.int (1 : Int32)), some (.int (3 : Int32))]) ?_ rfl rfl rfl rfl
  refine V2_iload_n (i := 0) d_P_within_0 rfl rfl ?_
  refine V2_iload_n (i := 1) d_P_within_1 rfl rfl ?_
  refine V2_icmp_lt (tgt := 14) d_P_within_2 rfl (fun c1 => ?_) (fun c1 => ?_)
  · refine V2_iconst (v := 0) d_P_within_14 rfl ?_
    refine V2_zreturn d_P_within_15 rfl (by decide) ?_
    refine V2.to (st' := [.int (0 : Int32)]) ?_ rfl rfl rfl rfl
    refine V2_if_eq (tgt := 18) d_P_odds_6 rfl (fun _ => ?_) (fun c => (by first | exact absurd c (by decide) | exact absurd (by decide) c))
    refine V2_aload_n (i := 0) d_P_odds_18 rfl rfl ?_
    refine V2_iconst (v := 1) d_P_odds_19 rfl ?_
    refine V2_callV [.int (1 : Int32)] d_P_odds_20 rfl rfl lk_P_66 mo_P_fails (by decide) rfl rfl rfl (Nat.le_of_ble_eq_true rfl) (Nat.le_of_ble_eq_true rfl) ?_
    refine c_P_fails1 ?_
    refine V2_topi (fun v2 ev2 => ?_)
    refine V2_ireturn d_P_odds_23 rfl ?_
    have hb0 : ¬ ((1 ≤ n.toInt ∧ n.toInt ≤ 3) ∧ 0 ≤ w.toInt ∧ w.toInt ≤ 1) := (by (try clear hQ); (try subst ev2); ((try simp only [xb_eq, xb_ne, Int32.lt_iff_toInt_lt, Int32.le_iff_toInt_le] at *) <;> (try simp only [← Int32.toInt_inj, true_and, false_and, or_false, false_or, or_true, true_or, and_true, and_false] at *) <;> omega))
    have e : k_odds F n w = (-1000000000 - 1, errF F 1) := if_neg hb0
    rw [e] at hQ
    subst ev2
    exact xQi (hQ _ (mid_err hR (by decide))) rfl rfl
  · refine V2_iload_n (i := 0) d_P_within_5 rfl rfl ?_
    refine V2_iload_n (i := 2) d_P_within_6 rfl rfl ?_
    refine V2_icmp_gt (tgt := 14) d_P_within_7 rfl (fun c3 => ?_) (fun c3 => ?_)
    · refine V2_iconst (v := 0) d_P_within_14 rfl ?_
      refine V2_zreturn d_P_within_15 rfl (by decide) ?_
      refine V2.to (st' := [.int (0 : Int32)]) ?_ rfl rfl rfl rfl
      refine V2_if_eq (tgt := 18) d_P_odds_6 rfl (fun _ => ?_) (fun c => (by first | exact absurd c (by decide) | exact absurd (by decide) c))
      refine V2_aload_n (i := 0) d_P_odds_18 rfl rfl ?_
      refine V2_iconst (v := 1) d_P_odds_19 rfl ?_
      refine V2_callV [.int (1 : Int32)] d_P_odds_20 rfl rfl lk_P_66 mo_P_fails (by decide) rfl rfl rfl (Nat.le_of_ble_eq_true rfl) (Nat.le_of_ble_eq_true rfl) ?_
      refine c_P_fails1 ?_
      refine V2_topi (fun v4 ev4 => ?_)
      refine V2_ireturn d_P_odds_23 rfl ?_
      have hb0 : ¬ ((1 ≤ n.toInt ∧ n.toInt ≤ 3) ∧ 0 ≤ w.toInt ∧ w.toInt ≤ 1) := (by (try clear hQ); (try subst ev4); ((try simp only [xb_eq, xb_ne, Int32.lt_iff_toInt_lt, Int32.le_iff_toInt_le] at *) <;> (try simp only [← Int32.toInt_inj, true_and, false_and, or_false, false_or, or_true, true_or, and_true, and_false] at *) <;> omega))
      have e : k_odds F n w = (-1000000000 - 1, errF F 1) := if_neg hb0
      rw [e] at hQ
      subst ev4
      exact xQi (hQ _ (mid_err hR (by decide))) rfl rfl
    · refine V2_iconst (v := 1) d_P_within_10 rfl ?_
      refine V2_goto (tgt := 15) d_P_within_11 rfl ?_
      refine V2_zreturn d_P_within_15 rfl (by decide) ?_
      refine V2.to (st' := [.int (1 : Int32)]) ?_ rfl rfl rfl rfl
      refine V2_if_eq (tgt := 18) d_P_odds_6 rfl (fun c => (by first | exact absurd c (by decide) | exact absurd (by decide) c)) (fun _ => ?_)
      refine V2_iload_n (i := 2) d_P_odds_9 rfl rfl ?_
      refine V2_iconst (v := 0) d_P_odds_10 rfl ?_
      refine V2_iconst (v := 1) d_P_odds_11 rfl ?_
      refine V2_callS [.int w, .int (0 : Int32), .int (1 : Int32)] d_P_odds_12 rfl rfl lk_P_133 mo_P_within (Nat.le_of_ble_eq_true rfl) (Nat.le_of_ble_eq_true rfl) ?_
      refine V2.to (l' := [some (.int w), some (.int (0 : Int32)), some (.int (1 : Int32))]) ?_ rfl rfl rfl rfl
      refine V2_iload_n (i := 0) d_P_within_0 rfl rfl ?_
      refine V2_iload_n (i := 1) d_P_within_1 rfl rfl ?_
      refine V2_icmp_lt (tgt := 14) d_P_within_2 rfl (fun c5 => ?_) (fun c5 => ?_)
      · refine V2_iconst (v := 0) d_P_within_14 rfl ?_
        refine V2_zreturn d_P_within_15 rfl (by decide) ?_
        refine V2.to (st' := [.int (0 : Int32)]) ?_ rfl rfl rfl rfl
        refine V2_if_ne (tgt := 24) d_P_odds_15 rfl (fun c => (by first | exact absurd c (by decide) | exact absurd (by decide) c)) (fun _ => ?_)
        refine V2_aload_n (i := 0) d_P_odds_18 rfl rfl ?_
        refine V2_iconst (v := 1) d_P_odds_19 rfl ?_
        refine V2_callV [.int (1 : Int32)] d_P_odds_20 rfl rfl lk_P_66 mo_P_fails (by decide) rfl rfl rfl (Nat.le_of_ble_eq_true rfl) (Nat.le_of_ble_eq_true rfl) ?_
        refine c_P_fails1 ?_
        refine V2_topi (fun v6 ev6 => ?_)
        refine V2_ireturn d_P_odds_23 rfl ?_
        have hb0 : ¬ ((1 ≤ n.toInt ∧ n.toInt ≤ 3) ∧ 0 ≤ w.toInt ∧ w.toInt ≤ 1) := (by (try clear hQ); (try subst ev6); ((try simp only [xb_eq, xb_ne, Int32.lt_iff_toInt_lt, Int32.le_iff_toInt_le] at *) <;> (try simp only [← Int32.toInt_inj, true_and, false_and, or_false, false_or, or_true, true_or, and_true, and_false] at *) <;> omega))
        have e : k_odds F n w = (-1000000000 - 1, errF F 1) := if_neg hb0
        rw [e] at hQ
        subst ev6
        exact xQi (hQ _ (mid_err hR (by decide))) rfl rfl
      · refine V2_iload_n (i := 0) d_P_within_5 rfl rfl ?_
        refine V2_iload_n (i := 2) d_P_within_6 rfl rfl ?_
        refine V2_icmp_gt (tgt := 14) d_P_within_7 rfl (fun c7 => ?_) (fun c7 => ?_)
        · refine V2_iconst (v := 0) d_P_within_14 rfl ?_
          refine V2_zreturn d_P_within_15 rfl (by decide) ?_
          refine V2.to (st' := [.int (0 : Int32)]) ?_ rfl rfl rfl rfl
          refine V2_if_ne (tgt := 24) d_P_odds_15 rfl (fun c => (by first | exact absurd c (by decide) | exact absurd (by decide) c)) (fun _ => ?_)
          refine V2_aload_n (i := 0) d_P_odds_18 rfl rfl ?_
          refine V2_iconst (v := 1) d_P_odds_19 rfl ?_
          refine V2_callV [.int (1 : Int32)] d_P_odds_20 rfl rfl lk_P_66 mo_P_fails (by decide) rfl rfl rfl (Nat.le_of_ble_eq_true rfl) (Nat.le_of_ble_eq_true rfl) ?_
          refine c_P_fails1 ?_
          refine V2_topi (fun v8 ev8 => ?_)
          refine V2_ireturn d_P_odds_23 rfl ?_
          have hb0 : ¬ ((1 ≤ n.toInt ∧ n.toInt ≤ 3) ∧ 0 ≤ w.toInt ∧ w.toInt ≤ 1) := (by (try clear hQ); (try subst ev8); ((try simp only [xb_eq, xb_ne, Int32.lt_iff_toInt_lt, Int32.le_iff_toInt_le] at *) <;> (try simp only [← Int32.toInt_inj, true_and, false_and, or_false, false_or, or_true, true_or, and_true, and_false] at *) <;> omega))
          have e : k_odds F n w = (-1000000000 - 1, errF F 1) := if_neg hb0
          rw [e] at hQ
          subst ev8
          exact xQi (hQ _ (mid_err hR (by decide))) rfl rfl
        · refine V2_iconst (v := 1) d_P_within_10 rfl ?_
          refine V2_goto (tgt := 15) d_P_within_11 rfl ?_
          refine V2_zreturn d_P_within_15 rfl (by decide) ?_
          refine V2.to (st' := [.int (1 : Int32)]) ?_ rfl rfl rfl rfl
          refine V2_if_ne (tgt := 24) d_P_odds_15 rfl (fun _ => ?_) (fun c => (by first | exact absurd c (by decide) | exact absurd (by decide) c))
          obtain ⟨p, hp, epp⟩ := in_of (x := n) (P := 4) (by (try clear hQ); (try skip); ((try simp only [xb_eq, xb_ne, Int32.lt_iff_toInt_lt, Int32.le_iff_toInt_le] at *) <;> (try simp only [← Int32.toInt_inj, true_and, false_and, or_false, false_or, or_true, true_or, and_true, and_false] at *) <;> omega)) (by (try clear hQ); (try skip); ((try simp only [xb_eq, xb_ne, Int32.lt_iff_toInt_lt, Int32.le_iff_toInt_le] at *) <;> (try simp only [← Int32.toInt_inj, true_and, false_and, or_false, false_or, or_true, true_or, and_true, and_false] at *) <;> omega)) (by omega)
          subst epp
          have np : (nI p).toInt = (p : Int) := nI_toInt (by omega)
          have kp : (nI p).toNatClampNeg = p := nI_clamp (by omega)
          have hp1 : 1 ≤ p := (by (try clear hQ); (try skip); ((try simp only [xb_eq, xb_ne, Int32.lt_iff_toInt_lt, Int32.le_iff_toInt_le] at *) <;> (try simp only [← Int32.toInt_inj, true_and, false_and, or_false, false_or, or_true, true_or, and_true, and_false] at *) <;> omega))
          have hov := odds_le (F 66) p
          have hp10 := p10 (n := p) (by omega)
          have hgc := gcd_n (n := p) (a := oddsN (F 66) p) (by omega)
          refine V2_aload_n (i := 0) d_P_odds_24 rfl rfl ?_
          refine V2_getr (a := 1) d_P_odds_25 fl_P_10 (by decide) rfl (by decide) rfl ?_
          refine V2_getr (a := 2) d_P_odds_28 fl_P_93 (by decide) rfl (by decide) rfl ?_
          refine V2_get (v := F 2 7) d_P_odds_31 fl_P_237 (by decide) rfl (by decide) rfl rfl ?_
          refine V2_topi (fun v9 ev9 => ?_)
          refine V2_if_eq (tgt := 43) d_P_odds_34 rfl (fun c10 => ?_) (fun c10 => ?_)
          · have s9 : ¬ (F 66 5).toInt = 1 := (by (try clear hQ); (try subst ev9); ((try simp only [xb_eq, xb_ne, Int32.lt_iff_toInt_lt, Int32.le_iff_toInt_le] at *) <;> (try simp only [← Int32.toInt_inj, true_and, false_and, or_false, false_or, or_true, true_or, and_true, and_false] at *) <;> omega))
            refine V2_iload_n (i := 1) d_P_odds_43 rfl rfl ?_
            refine V2_callS [.int (nI p)] d_P_odds_44 rfl rfl lk_P_280 mo_Rows_rowsOf (Nat.le_of_ble_eq_true rfl) (Nat.le_of_ble_eq_true rfl) ?_
            refine c_Rows_rowsOf (m := p) (by omega) ?_
            refine V2_istore_n (i := 3) (l' := [some (.ref 0), some (.int (nI p)), some (.int w), some (.int (nI (10 ^ p))), none, none]) d_P_odds_47 rfl (xst_i (Nat.le_of_ble_eq_true rfl) rfl rfl) ?_
            refine V2_aload_n (i := 0) d_P_odds_48 rfl rfl ?_
            refine V2_getr (a := 36) d_P_odds_49 fl_P_29 (by decide) rfl (by decide) rfl ?_
            refine V2_aload_n (i := 0) d_P_odds_52 rfl rfl ?_
            refine V2_getr (a := 1) d_P_odds_53 fl_P_10 (by decide) rfl (by decide) rfl ?_
            refine V2_iload_n (i := 1) d_P_odds_56 rfl rfl ?_
            refine V2_callV [.ref 1, .int (nI p)] d_P_odds_57 rfl rfl lk_P_283 mo_Rows_countOuts (by decide) rfl rfl rfl (Nat.le_of_ble_eq_true rfl) (Nat.le_of_ble_eq_true rfl) ?_
            refine V2.to (l' := [some (.ref 36), some (.ref 1), some (.int (nI p))]) ?_ rfl rfl rfl rfl
            refine V2_aload_n (i := 0) d_Rows_countOuts_0 rfl rfl ?_
            refine V2_aload_n (i := 1) d_Rows_countOuts_1 rfl rfl ?_
            refine V2_iconst (v := 2) d_Rows_countOuts_2 rfl ?_
            refine V2_iload_n (i := 2) d_Rows_countOuts_3 rfl rfl ?_
            refine V2_callV [.ref 1, .int (2 : Int32), .int (nI p)] d_Rows_countOuts_4 rfl rfl lk_Rows_50 mo_Rows_tryAll (by decide) rfl rfl rfl (Nat.le_of_ble_eq_true rfl) (Nat.le_of_ble_eq_true rfl) ?_
            refine V2.to (l' := [some (.ref 36), some (.ref 1), some (.int (2 : Int32)), some (.int (nI p)), none]) ?_ rfl rfl rfl rfl
            refine V2_aload_n (i := 0) d_Rows_tryAll_0 rfl rfl ?_
            refine V2_iload_n (i := 2) d_Rows_tryAll_1 rfl rfl ?_
            refine V2_put d_Rows_tryAll_2 fl_Rows_33 (by decide) rfl (by decide) rfl ?_
            refine V2_aload_n (i := 0) d_Rows_tryAll_5 rfl rfl ?_
            refine V2_iload_n (i := 3) d_Rows_tryAll_6 rfl rfl ?_
            refine V2_put d_Rows_tryAll_7 fl_Rows_37 (by decide) rfl (by decide) rfl ?_
            refine V2_aload_n (i := 0) d_Rows_tryAll_10 rfl rfl ?_
            refine V2_iconst (v := 0) d_Rows_tryAll_11 rfl ?_
            refine V2_put d_Rows_tryAll_12 fl_Rows_46 (by decide) rfl (by decide) rfl ?_
            refine V2_aload_n (i := 0) d_Rows_tryAll_15 rfl rfl ?_
            refine V2_iconst (v := 0) d_Rows_tryAll_16 rfl ?_
            refine V2_callV [.int (0 : Int32)] d_Rows_tryAll_17 rfl rfl lk_Rows_70 mo_Rows_carAt (by decide) rfl rfl rfl (Nat.le_of_ble_eq_true rfl) (Nat.le_of_ble_eq_true rfl) ?_
            refine V2.to (l' := [some (.ref 36), some (.int (0 : Int32))]) ?_ rfl rfl rfl rfl
            refine V2_iload_n (i := 1) d_Rows_carAt_0 rfl rfl ?_
            refine V2_if_lt (tgt := 22) d_Rows_carAt_1 rfl (fun c => (by first | exact absurd c (by decide) | exact absurd (by decide) c)) (fun _ => ?_)
            refine V2_iload_n (i := 1) d_Rows_carAt_4 rfl rfl ?_
            refine V2_aload_n (i := 0) d_Rows_carAt_5 rfl rfl ?_
            refine V2_getr (a := 37) d_Rows_carAt_6 fl_Rows_13 (by decide) rfl (by decide) rfl ?_
            refine V2_alen (t := 2) (v := 5) d_Rows_carAt_9 (by decide) rfl (by decide) rfl ?_
            refine V2_icmp_ge (tgt := 22) d_Rows_carAt_10 rfl (fun c => (by first | exact absurd c (by decide) | exact absurd (by decide) c)) (fun _ => ?_)
            refine V2_aload_n (i := 0) d_Rows_carAt_13 rfl rfl ?_
            refine V2_getr (a := 37) d_Rows_carAt_14 fl_Rows_13 (by decide) rfl (by decide) rfl ?_
            refine V2_iload_n (i := 1) d_Rows_carAt_17 rfl rfl ?_
            refine V2_aaload (t := 1) (a := 42) d_Rows_carAt_18 (by decide) rfl (by decide) (xixA (n := 0) rfl (by decide) (by decide)) rfl ?_
            refine V2_goto (tgt := 23) d_Rows_carAt_19 rfl ?_
            refine V2_areturn d_Rows_carAt_23 rfl (Or.inl ⟨_, rfl⟩) ?_
            refine V2.to (st' := [.ref 42]) ?_ rfl rfl rfl rfl
            refine V2_astore (i := 4) (l' := [some (.ref 36), some (.ref 1), some (.int (2 : Int32)), some (.int (nI p)), some (.ref 42)]) d_Rows_tryAll_20 (xst_i (Nat.le_of_ble_eq_true rfl) rfl rfl) ?_
            refine V2_aload (i := 4) d_Rows_tryAll_22 rfl ?_
            refine V2_ifnull d_Rows_tryAll_24 ?_
            refine V2_aload_n (i := 1) d_Rows_tryAll_27 rfl rfl ?_
            refine V2_getr (a := 2) d_Rows_tryAll_28 fl_Rows_74 (by decide) rfl (by decide) rfl ?_
            refine V2_get (v := F 2 7) d_Rows_tryAll_31 fl_Rows_80 (by decide) rfl (by decide) rfl rfl ?_
            refine V2_topi (fun v11 ev11 => ?_)
            refine V2_if_ne (tgt := 52) d_Rows_tryAll_34 rfl (fun c12 => (by first | exact absurd c12 (show v11 = 0 from by subst ev11 ev9; show F 2 7 = 0; rw [cz7]; exact s5.resolve_right (fun hh => by rw [hh] at s9; exact s9 (by decide))) | exact absurd (show v11 = 0 from by subst ev11 ev9; show F 2 7 = 0; rw [cz7]; exact s5.resolve_right (fun hh => by rw [hh] at s9; exact s9 (by decide))) c12)) (fun c12 => ?_)
            refine V2_aload (i := 4) d_Rows_tryAll_37 rfl ?_
            refine V2_aload_n (i := 1) d_Rows_tryAll_39 rfl rfl ?_
            refine V2_getr (a := 2) d_Rows_tryAll_40 fl_Rows_74 (by decide) rfl (by decide) rfl ?_
            refine V2_callV [.ref 2] d_Rows_tryAll_43 rfl rfl lk_Rows_84 mo_Car_copyFrom (by decide) rfl rfl rfl (Nat.le_of_ble_eq_true rfl) (Nat.le_of_ble_eq_true rfl) ?_
            refine c_Car_copy_42_2 (show F 2 7 = 0 ∨ F 2 7 = 1 by rw [cz7]; exact s5) (fun H2 p0 g0 => ?_)
            refine V2_aload_n (i := 0) d_Rows_tryAll_46 rfl rfl ?_
            refine V2_aload_n (i := 1) d_Rows_tryAll_47 rfl rfl ?_
            refine V2_iconst (v := 0) d_Rows_tryAll_48 rfl ?_
            refine V2_callV [.ref 1, .int (0 : Int32)] d_Rows_tryAll_49 rfl rfl lk_Rows_88 mo_Rows_tryFrom (by decide) rfl rfl rfl (Nat.le_of_ble_eq_true rfl) (Nat.le_of_ble_eq_true rfl) ?_
            have hscr : scrC F H2 := fun a b c e => (g0 a (by omega)).trans ((xp_row_ne (by omega)).trans ((xp_row_ne (by omega)).trans (xp_row_ne (by omega))))
            have h36 : ∀ j, H2 36 j = _ := fun j => congrFun (g0 36 (by decide)) j
            have hcx : ctxV F H2 (F 66) (F 66) 2 p 0 0 42 := ⟨hscr, (h36 4).trans rfl, (h36 5).trans rfl, fun i hi => absurd hi (Nat.not_lt_zero i), by decide, relCr_row hR.1.1.1 p0, like.refl _, hR.2.1.1, fun q _ => by rw [Nat.zero_mul, Nat.zero_add]; exact Prod.ext (by cases (trN (PN (F 66)) (p - 0) q (F 66)).1 <;> rfl) rfl⟩
            refine c_tryFrom_0 (f := procO p (F 66)) (R := fun G s => G 36 8 = nI s) (J := fun _ _ _ => True) (K := fun _ _ _ => True) hR.1.1 hR.2.1 (by omega) (by omega) (B := fun _ _ => True) (vis_odds (by omega)) (fun _ _ _ => trivial) (fun G G2 s hr _ hj => (hj 8 (by decide)).trans hr) (fun _ _ _ _ _ _ _ _ => trivial) hcx (fun hh => by rw [hh] at s9; exact s9 (by decide)) trivial trivial (s0 := 0) ((h36 8).trans rfl) (fun G2 h2 _ _ _ _ h8 => ?_)
            rw [Nat.zero_mul, Nat.sub_zero] at h8
            refine V2_return d_Rows_tryAll_52 rfl ?_
            refine V2.to (st' := []) ?_ rfl rfl rfl rfl
            refine V2_aload_n (i := 0) d_Rows_countOuts_7 rfl rfl ?_
            refine V2_get (v := G2 36 8) d_Rows_countOuts_8 fl_Rows_46 (by decide) rfl (by decide) rfl rfl ?_
            refine V2_topi (fun v13 ev13 => ?_)
            refine V2_ireturn d_Rows_countOuts_11 rfl ?_
            refine V2.to (st' := [.int v13]) ?_ rfl rfl rfl rfl
            refine V2_istore (i := 4) (l' := [some (.ref 0), some (.int (nI p)), some (.int w), some (.int (nI (10 ^ p))), some (.int v13), none]) d_P_odds_60 (xst_i (Nat.le_of_ble_eq_true rfl) rfl rfl) ?_
            refine V2_iload (i := 4) d_P_odds_62 rfl ?_
            refine V2_iload_n (i := 3) d_P_odds_64 rfl rfl ?_
            refine V2_callS [.int v13, .int (nI (10 ^ p))] d_P_odds_65 rfl rfl lk_P_287 mo_P_commonDivisor (Nat.le_of_ble_eq_true rfl) (Nat.le_of_ble_eq_true rfl) ?_
            have eo : v13 = nI (oddsN (F 66) p) := by
              subst ev13 ev11 ev9
              exact h8
            rw [eo]
            refine c_P_div (g := oddsN (F 66) p) (t := 10 ^ p) (by omega) (by omega) ?_
            refine V2_istore (i := 5) (l' := [some (.ref 0), some (.int (nI p)), some (.int w), some (.int (nI (10 ^ p))), some (.int (nI (oddsN (F 66) p))), some (.int (nI (eu 50 (oddsN (F 66) p) (10 ^ p))))]) d_P_odds_68 (xst_i (Nat.le_of_ble_eq_true rfl) rfl rfl) ?_
            refine V2_iload (i := 5) d_P_odds_70 rfl ?_
            refine V2_if_ne (tgt := 77) d_P_odds_72 rfl (fun c14 => ?_) (fun c14 => ?_)
            · refine V2_iload_n (i := 2) d_P_odds_77 rfl rfl ?_
              refine V2_if_ne (tgt := 86) d_P_odds_78 rfl (fun c15 => ?_) (fun c15 => ?_)
              · refine V2_iload_n (i := 3) d_P_odds_86 rfl rfl ?_
                refine V2_iload (i := 5) d_P_odds_87 rfl ?_
                refine V2_idiv d_P_odds_89 (by rw [eu_n (by omega) (by omega) (odds_le _ _)]; exact nI_ne0 hgc.1 (by omega)) ?_
                refine V2_topi (fun v16 ev16 => ?_)
                refine V2_ireturn d_P_odds_90 rfl ?_
                have hw : ¬ w.toInt = 0 := (by (try clear hQ); (try subst ev16 ev13 ev11 ev9); ((try simp only [xb_eq, xb_ne, Int32.lt_iff_toInt_lt, Int32.le_iff_toInt_le] at *) <;> (try simp only [← Int32.toInt_inj, true_and, false_and, or_false, false_or, or_true, true_or, and_true, and_false] at *) <;> omega))
                have hb0 : (1 ≤ (nI p).toInt ∧ (nI p).toInt ≤ 3) ∧ 0 ≤ w.toInt ∧ w.toInt ≤ 1 := (by (try clear hQ); (try subst ev16 ev13 ev11 ev9); ((try simp only [xb_eq, xb_ne, Int32.lt_iff_toInt_lt, Int32.le_iff_toInt_le] at *) <;> (try simp only [← Int32.toInt_inj, true_and, false_and, or_false, false_or, or_true, true_or, and_true, and_false] at *) <;> omega))
                have hb1 : ¬ ((F 66 5).toInt = 1) := (by (try clear hQ); (try subst ev16 ev13 ev11 ev9); ((try simp only [xb_eq, xb_ne, Int32.lt_iff_toInt_lt, Int32.le_iff_toInt_le] at *) <;> (try simp only [← Int32.toInt_inj, true_and, false_and, or_false, false_or, or_true, true_or, and_true, and_false] at *) <;> omega))
                have e : k_odds F (nI p) w = (nI (10 ^ p / Nat.gcd (oddsN (F 66) p) (10 ^ p)), F) := (if_pos hb0).trans ((if_neg hb1).trans (by rw [kp]; rw [if_neg hw]))
                rw [e] at hQ
                subst ev16 ev13 ev11 ev9
                exact xQi (hQ G2 (mid_scr hR h2)) (by rw [eu_n (by omega) (by omega) (odds_le _ _), nI_divn (by omega) (by omega)]) rfl
              · refine V2_iload (i := 4) d_P_odds_81 rfl ?_
                refine V2_goto (tgt := 87) d_P_odds_83 rfl ?_
                refine V2_iload (i := 5) d_P_odds_87 rfl ?_
                refine V2_idiv d_P_odds_89 (by rw [eu_n (by omega) (by omega) (odds_le _ _)]; exact nI_ne0 hgc.1 (by omega)) ?_
                refine V2_topi (fun v17 ev17 => ?_)
                refine V2_ireturn d_P_odds_90 rfl ?_
                have hw : w.toInt = 0 := (by (try clear hQ); (try subst ev17 ev13 ev11 ev9); ((try simp only [xb_eq, xb_ne, Int32.lt_iff_toInt_lt, Int32.le_iff_toInt_le] at *) <;> (try simp only [← Int32.toInt_inj, true_and, false_and, or_false, false_or, or_true, true_or, and_true, and_false] at *) <;> omega))
                have hb0 : (1 ≤ (nI p).toInt ∧ (nI p).toInt ≤ 3) ∧ 0 ≤ w.toInt ∧ w.toInt ≤ 1 := (by (try clear hQ); (try subst ev17 ev13 ev11 ev9); ((try simp only [xb_eq, xb_ne, Int32.lt_iff_toInt_lt, Int32.le_iff_toInt_le] at *) <;> (try simp only [← Int32.toInt_inj, true_and, false_and, or_false, false_or, or_true, true_or, and_true, and_false] at *) <;> omega))
                have hb1 : ¬ ((F 66 5).toInt = 1) := (by (try clear hQ); (try subst ev17 ev13 ev11 ev9); ((try simp only [xb_eq, xb_ne, Int32.lt_iff_toInt_lt, Int32.le_iff_toInt_le] at *) <;> (try simp only [← Int32.toInt_inj, true_and, false_and, or_false, false_or, or_true, true_or, and_true, and_false] at *) <;> omega))
                have e : k_odds F (nI p) w = (nI (oddsN (F 66) p / Nat.gcd (oddsN (F 66) p) (10 ^ p)), F) := (if_pos hb0).trans ((if_neg hb1).trans (by rw [kp]; rw [if_pos hw]))
                rw [e] at hQ
                subst ev17 ev13 ev11 ev9
                exact xQi (hQ G2 (mid_scr hR h2)) (by rw [eu_n (by omega) (by omega) (odds_le _ _), nI_divn (by omega) (by omega)]) rfl
            · refine V2_iconst (v := 0) d_P_odds_75 rfl ?_
              refine V2_ireturn d_P_odds_76 rfl ?_
              exfalso
              have h9 := c14
              rw [eu_n (by omega) (by omega) (odds_le _ _)] at h9
              exact nI_ne0 hgc.1 (by omega) h9
          · refine V2_aload_n (i := 0) d_P_odds_37 rfl rfl ?_
            refine V2_iconst (v := 3) d_P_odds_38 rfl ?_
            refine V2_callV [.int (3 : Int32)] d_P_odds_39 rfl rfl lk_P_66 mo_P_fails (by decide) rfl rfl rfl (Nat.le_of_ble_eq_true rfl) (Nat.le_of_ble_eq_true rfl) ?_
            refine c_P_fails3 ?_
            refine V2_topi (fun v18 ev18 => ?_)
            refine V2_ireturn d_P_odds_42 rfl ?_
            have hb0 : (1 ≤ (nI p).toInt ∧ (nI p).toInt ≤ 3) ∧ 0 ≤ w.toInt ∧ w.toInt ≤ 1 := (by (try clear hQ); (try subst ev18 ev9); ((try simp only [xb_eq, xb_ne, Int32.lt_iff_toInt_lt, Int32.le_iff_toInt_le] at *) <;> (try simp only [← Int32.toInt_inj, true_and, false_and, or_false, false_or, or_true, true_or, and_true, and_false] at *) <;> omega))
            have hb1 : (F 66 5).toInt = 1 := (by (try clear hQ); (try subst ev18 ev9); ((try simp only [xb_eq, xb_ne, Int32.lt_iff_toInt_lt, Int32.le_iff_toInt_le] at *) <;> (try simp only [← Int32.toInt_inj, true_and, false_and, or_false, false_or, or_true, true_or, and_true, and_false] at *) <;> omega))
            have e : k_odds F (nI p) w = (-1000000000 - 3, errF F 3) := (if_pos hb0).trans (if_pos hb1)
            rw [e] at hQ
            subst ev18 ev9
            exact xQi (hQ _ (mid_err hR (by decide))) rfl rfl
theorem c_R_odds_loop {L : Nat} {xs : Nat → Int32} {d : Nat} {Q : Option Value → xF → Prop} {F : xF} {S : Nat → Int32} {p : Nat} {w : Int32} (hi : invS S) (e66 : F 66 = S) (e65 : F 65 5 = 63) (hp : p ≤ 4) (s9 : ¬ S 5 = 1) (hK : ∀ G : xF, trF F G → V2 L xs (d + 6) m_R_odds 84 [some (.ref 65), some (.int (nI p)), some (.int w), some (.int (nI (10 ^ p))), some (.int (nI (oddsN S p))), some (.int (nI (10 ^ p)))] [] G Q) : ∀ (n_ : Nat) (row m a : Nat) (G : xF), row + m = 10 ^ p → m < n_ → trF F G → blk (procO p S) row m a = oddsN S p → V2 L xs (d + 6) m_R_odds 48 [some (.ref 65), some (.int (nI p)), some (.int w), some (.int (nI (10 ^ p))), some (.int (nI a)), some (.int (nI row))] [] G Q := by
  intro n_
  induction n_ with
  | zero => exact fun row m a G h1 h2 => absurd h2 (by omega)
  | succ n_ ih =>
    intro row m a G h1 h2 g1 h3
    have hp4 := pow4 hp
    have e6 : G 66 = S := (g1.1 66 (by decide) (by decide) (by decide) (by decide)).trans e66
    refine V2_iload (i := 5) d_R_odds_48 rfl ?_
    refine V2_iload_n (i := 3) d_R_odds_50 rfl rfl ?_
    refine V2_icmp_ge (tgt := 84) d_R_odds_51 rfl (fun c1 => ?_) (fun c1 => ?_)
    · have hm : m = 0 := by
        have := (nI_leI (by omega) (by omega)).mp c1
        omega
      subst hm
      have er : row = 10 ^ p := by omega
      subst er
      have h4 : a = oddsN S p := h3
      subst h4
      exact hK G g1
    · have hk : row < 10 ^ p := Nat.not_le.mp (fun hh => c1 ((nI_leI (by omega) (by omega)).mpr hh))
      obtain ⟨m, rfl⟩ : ∃ m2, m = m2 + 1 := ⟨m - 1, by omega⟩
      refine V2_aload_n (i := 0) d_R_odds_54 rfl rfl ?_
      refine V2_iload (i := 5) d_R_odds_55 rfl ?_
      refine V2_iload_n (i := 1) d_R_odds_57 rfl rfl ?_
      refine V2_callV [.int (nI row), .int (nI p)] d_R_odds_58 rfl rfl lk_R_206 mo_R_triesRow (by decide) rfl rfl rfl (Nat.le_of_ble_eq_true rfl) (Nat.le_of_ble_eq_true rfl) ?_
      refine c_R_triesRow (S := S) hi e6 ((g1.2 5 (by decide) (by decide)).trans e65) hp hk (fun G2 g2 => ?_)
      refine V2_iload (i := 4) d_R_odds_61 rfl ?_
      refine V2_aload_n (i := 0) d_R_odds_63 rfl rfl ?_
      refine V2_get (v := G2 65 13) d_R_odds_64 fl_R_200 (by decide) rfl (by decide) rfl rfl ?_
      refine V2_topi (fun v2 ev2 => ?_)
      refine V2_if_le (tgt := 74) d_R_odds_67 rfl (fun c3 => ?_) (fun c3 => ?_)
      · refine V2_iconst (v := 0) d_R_odds_74 rfl ?_
        refine V2_iadd d_R_odds_75 ?_
        refine V2_topi (fun v4 ev4 => ?_)
        refine V2_istore (i := 4) (l' := [some (.ref 65), some (.int (nI p)), some (.int w), some (.int (nI (10 ^ p))), some (.int v4), some (.int (nI row))]) d_R_odds_76 (xst_i (Nat.le_of_ble_eq_true rfl) rfl rfl) ?_
        obtain ⟨v5, ev5⟩ : ∃ y : Int32, y = nI row + 1 := ⟨_, rfl⟩
        refine V2_iinc (i := 5) (v := v5) (l' := [some (.ref 65), some (.int (nI p)), some (.int w), some (.int (nI (10 ^ p))), some (.int v4), some (.int v5)]) d_R_odds_78 rfl (by rw [ev5]; rfl) (xst_i (Nat.le_of_ble_eq_true rfl) rfl rfl) ?_
        refine V2_goto (tgt := 48) d_R_odds_81 rfl ?_
        have ea : v4 = nI (procO p S row a) := by
          have h9 := c3
          subst ev5 ev4 ev2
          rw [g2.2.2.1] at h9
          unfold procO
          cases eo : (trN (PN S) p row S).1 with
          | none =>
            rw [show obR (trN (PN S) p row S) = 0 by unfold obR; rw [eo]; rfl] at h9
            first
              | exact absurd (by decide) h9
              | exact (congrArg nI (by rfl))
              | exact Int32.add_zero _
          | some j =>
            have hj := tr_pos s9 eo
            have hj2 := tr_le _ _ _ j eo
            rw [show obR (trN (PN S) p row S) = j by unfold obR; rw [eo]; rfl] at h9
            first
              | exact absurd h9 (nI_nle hj (by omega))
              | exact nI_1 a
        rw [ea, ev5, nI_1]
        exact V2.to (ih (row + 1) m (procO p S row a) G2 (by omega) (by omega) (g1.tries g2) h3) rfl rfl rfl rfl
      · refine V2_iconst (v := 1) d_R_odds_70 rfl ?_
        refine V2_goto (tgt := 75) d_R_odds_71 rfl ?_
        refine V2_iadd d_R_odds_75 ?_
        refine V2_topi (fun v6 ev6 => ?_)
        refine V2_istore (i := 4) (l' := [some (.ref 65), some (.int (nI p)), some (.int w), some (.int (nI (10 ^ p))), some (.int v6), some (.int (nI row))]) d_R_odds_76 (xst_i (Nat.le_of_ble_eq_true rfl) rfl rfl) ?_
        obtain ⟨v7, ev7⟩ : ∃ y : Int32, y = nI row + 1 := ⟨_, rfl⟩
        refine V2_iinc (i := 5) (v := v7) (l' := [some (.ref 65), some (.int (nI p)), some (.int w), some (.int (nI (10 ^ p))), some (.int v6), some (.int v7)]) d_R_odds_78 rfl (by rw [ev7]; rfl) (xst_i (Nat.le_of_ble_eq_true rfl) rfl rfl) ?_
        refine V2_goto (tgt := 48) d_R_odds_81 rfl ?_
        have ea : v6 = nI (procO p S row a) := by
          have h9 := c3
          subst ev7 ev6 ev2
          rw [g2.2.2.1] at h9
          unfold procO
          cases eo : (trN (PN S) p row S).1 with
          | none =>
            rw [show obR (trN (PN S) p row S) = 0 by unfold obR; rw [eo]; rfl] at h9
            first
              | exact absurd (by decide) h9
              | exact (congrArg nI (by rfl))
              | exact Int32.add_zero _
          | some j =>
            have hj := tr_pos s9 eo
            have hj2 := tr_le _ _ _ j eo
            rw [show obR (trN (PN S) p row S) = j by unfold obR; rw [eo]; rfl] at h9
            first
              | exact absurd h9 (nI_nle hj (by omega))
              | exact nI_1 a
        rw [ea, ev7, nI_1]
        exact V2.to (ih (row + 1) m (procO p S row a) G2 (by omega) (by omega) (g1.tries g2) h3) rfl rfl rfl rfl
theorem c_R_odds_end {L : Nat} {xs : Nat → Int32} {d : Nat} {Q : Option Value → xF → Prop} {F : xF} {S : Nat → Int32} {p : Nat} {w : Int32} (h1 : 1 ≤ p) (h3 : p ≤ 3) (hQ : Q (some (.int (if w = 0 then nI (oddsN S p / Nat.gcd (oddsN S p) (10 ^ p)) else nI (10 ^ p / Nat.gcd (oddsN S p) (10 ^ p))))) F) : V2 L xs (d + 6) m_R_odds 84 ([some (.ref 65), some (.int (nI p)), some (.int w), some (.int (nI (10 ^ p))), some (.int (nI (oddsN S p))), some (.int (nI (10 ^ p)))]) [] F Q := by
  have hov := odds_le S p
  have hp10 := p10 (n := p) (by omega)
  have hgc := gcd_n (n := p) (a := oddsN S p) (by omega)
  refine V2_iload (i := 4) d_R_odds_84 rfl ?_
  refine V2_iload_n (i := 3) d_R_odds_86 rfl rfl ?_
  refine V2_callS [.int (nI (oddsN S p)), .int (nI (10 ^ p))] d_R_odds_87 rfl rfl lk_R_224 mo_R_divisor (Nat.le_of_ble_eq_true rfl) (Nat.le_of_ble_eq_true rfl) ?_
  refine c_R_div (g := oddsN S p) (t := 10 ^ p) (by omega) (by omega) ?_
  refine V2_istore (i := 5) (l' := [some (.ref 65), some (.int (nI p)), some (.int w), some (.int (nI (10 ^ p))), some (.int (nI (oddsN S p))), some (.int (nI (Nat.gcd (oddsN S p) (10 ^ p))))]) d_R_odds_90 (xst_i (Nat.le_of_ble_eq_true rfl) rfl rfl) ?_
  refine V2_iload_n (i := 2) d_R_odds_92 rfl rfl ?_
  refine V2_if_ne (tgt := 104) d_R_odds_93 rfl (fun c1 => ?_) (fun c1 => ?_)
  · refine V2_iload_n (i := 3) d_R_odds_104 rfl rfl ?_
    refine V2_iload (i := 5) d_R_odds_105 rfl ?_
    refine V2_idiv d_R_odds_107 (nI_ne0 hgc.1 (by omega)) ?_
    refine V2_topi (fun v2 ev2 => ?_)
    refine V2_ireturn d_R_odds_108 rfl ?_
    subst ev2
    exact xQi hQ (by rw [if_neg c1, nI_divn (by omega) (by omega)]) rfl
  · refine V2_iload (i := 4) d_R_odds_96 rfl ?_
    refine V2_iload (i := 5) d_R_odds_98 rfl ?_
    refine V2_idiv d_R_odds_100 (nI_ne0 hgc.1 (by omega)) ?_
    refine V2_topi (fun v3 ev3 => ?_)
    refine V2_goto (tgt := 108) d_R_odds_101 rfl ?_
    refine V2_ireturn d_R_odds_108 rfl ?_
    subst ev3
    exact xQi hQ (by rw [if_pos c1, nI_divn (by omega) (by omega)]) rfl
theorem c_mod_odds {L : Nat} {xs : Nat → Int32} {d : Nat} {Q : Option Value → xF → Prop} {F : xF} {n w : Int32} {F0 : xF} (hR : Rel F0) (hM : Mid F0 F (k_odds F0 n w).2) (hQ : ∀ F2, Rel F2 → Q (some (.int (k_odds F0 n w).1)) F2) : V2 L xs (d + 6) m_R_odds 0 (xEntry [.ref 65, .int n, .int w] 6) [] F Q := by
  have q0 : (0 : Int32).toInt = 0 := by decide
  have q1 : (1 : Int32).toInt = 1 := by decide
  have q2 : (2 : Int32).toInt = 2 := by decide
  have q3 : (3 : Int32).toInt = 3 := by decide
  have q4 : (4 : Int32).toInt = 4 := by decide
  have q5 : (5 : Int32).toInt = 5 := by decide
  have q6 : (6 : Int32).toInt = 6 := by decide
  have q7 : (7 : Int32).toInt = 7 := by decide
  have q8 : (8 : Int32).toInt = 8 := by decide
  have q9 : (9 : Int32).toInt = 9 := by decide
  have q10 : (10 : Int32).toInt = 10 := by decide
  have q12 : (12 : Int32).toInt = 12 := by decide
  have q16 : (16 : Int32).toInt = 16 := by decide
  have q20 : (20 : Int32).toInt = 20 := by decide
  have q24 : (24 : Int32).toInt = 24 := by decide
  have q30 : (30 : Int32).toInt = 30 := by decide
  have q32 : (32 : Int32).toInt = 32 := by decide
  have q40 : (40 : Int32).toInt = 40 := by decide
  have q60 : (60 : Int32).toInt = 60 := by decide
  have q69 : (69 : Int32).toInt = 69 := by decide
  have q99 : (99 : Int32).toInt = 99 := by decide
  have q9999 : (9999 : Int32).toInt = 9999 := by decide
  have q274 : (274 : Int32).toInt = 274 := by decide
  have q334 : (334 : Int32).toInt = 334 := by decide
  have e66 : F 66 = F0 66 := hM.1 66 (by decide)
  have e66_5 : F 66 5 = F0 66 5 := congrFun e66 5
  have e66_7 : F 66 7 = F0 66 7 := congrFun e66 7
  have s5 : F0 66 5 = 0 ∨ F0 66 5 = 1 := hR.2.1.1.2.2.2.2.2.1
  have e63 : F 65 5 = 63 := (congrFun (hM.1 65 (by decide)) 5).trans hR.2.2.2.1
  refine V2.to (l' := [some (.ref 65), some (.int n), some (.int w), none, none, none]) ?_ rfl rfl rfl rfl
  refine V2_iload_n (i := 1) d_R_odds_0 rfl rfl ?_
  refine V2_iconst (v := 1) d_R_odds_1 rfl ?_
  refine V2_iconst (v := 3) d_R_odds_2 rfl ?_
  refine V2_callS [.int n, .int (1 : Int32), .int (3 : Int32)] d_R_odds_3 rfl rfl lk_R_51 mo_R_in (Nat.le_of_ble_eq_true rfl) (Nat.le_of_ble_eq_true rfl) ?_
  refine c_R_in ?_
  refine V2_topi (fun v1 ev1 => ?_)
  refine V2_if_eq (tgt := 18) d_R_odds_6 rfl (fun c2 => ?_) (fun c2 => ?_)
  · refine V2_aload_n (i := 0) d_R_odds_18 rfl rfl ?_
    refine V2_iconst (v := 1) d_R_odds_19 rfl ?_
    refine V2_callV [.int (1 : Int32)] d_R_odds_20 rfl rfl lk_R_55 mo_R_error (by decide) rfl rfl rfl (Nat.le_of_ble_eq_true rfl) (Nat.le_of_ble_eq_true rfl) ?_
    refine c_R_error1 ?_
    refine V2_topi (fun v3 ev3 => ?_)
    refine V2_ireturn d_R_odds_23 rfl ?_
    have hb0 : ¬ ((1 ≤ n.toInt ∧ n.toInt ≤ 3) ∧ 0 ≤ w.toInt ∧ w.toInt ≤ 1) := (by (try clear hQ); (try subst ev3 ev1); ((try simp only [xb_eq, xb_ne, Int32.lt_iff_toInt_lt, Int32.le_iff_toInt_le] at *) <;> (try simp only [← Int32.toInt_inj, true_and, false_and, or_false, false_or, or_true, true_or, and_true, and_false] at *) <;> omega))
    have e : k_odds F0 n w = (-1000000000 - 1, errF F0 1) := if_neg hb0
    rw [e] at hQ hM
    subst ev3 ev1
    exact xQi (hQ _ (rel_err hR hM)) rfl rfl
  · refine V2_iload_n (i := 2) d_R_odds_9 rfl rfl ?_
    refine V2_iconst (v := 0) d_R_odds_10 rfl ?_
    refine V2_iconst (v := 1) d_R_odds_11 rfl ?_
    refine V2_callS [.int w, .int (0 : Int32), .int (1 : Int32)] d_R_odds_12 rfl rfl lk_R_51 mo_R_in (Nat.le_of_ble_eq_true rfl) (Nat.le_of_ble_eq_true rfl) ?_
    refine c_R_in ?_
    refine V2_topi (fun v4 ev4 => ?_)
    refine V2_if_ne (tgt := 24) d_R_odds_15 rfl (fun c5 => ?_) (fun c5 => ?_)
    · obtain ⟨p, hp, epp⟩ := in_of (x := n) (P := 4) (by (try clear hQ); (try subst ev4 ev1); ((try simp only [xb_eq, xb_ne, Int32.lt_iff_toInt_lt, Int32.le_iff_toInt_le] at *) <;> (try simp only [← Int32.toInt_inj, true_and, false_and, or_false, false_or, or_true, true_or, and_true, and_false] at *) <;> omega)) (by (try clear hQ); (try subst ev4 ev1); ((try simp only [xb_eq, xb_ne, Int32.lt_iff_toInt_lt, Int32.le_iff_toInt_le] at *) <;> (try simp only [← Int32.toInt_inj, true_and, false_and, or_false, false_or, or_true, true_or, and_true, and_false] at *) <;> omega)) (by omega)
      subst epp
      have np : (nI p).toInt = (p : Int) := nI_toInt (by omega)
      have kp : (nI p).toNatClampNeg = p := nI_clamp (by omega)
      have hp1 : 1 ≤ p := (by (try clear hQ); (try subst ev4 ev1); ((try simp only [xb_eq, xb_ne, Int32.lt_iff_toInt_lt, Int32.le_iff_toInt_le] at *) <;> (try simp only [← Int32.toInt_inj, true_and, false_and, or_false, false_or, or_true, true_or, and_true, and_false] at *) <;> omega))
      have hov := odds_le (F0 66) p
      have hp10 := p10 (n := p) (by omega)
      have hgc := gcd_n (n := p) (a := oddsN (F0 66) p) (by omega)
      refine V2_aload_n (i := 0) d_R_odds_24 rfl rfl ?_
      refine V2_callV [] d_R_odds_25 rfl rfl lk_R_152 mo_R_isOut (by decide) rfl rfl rfl (Nat.le_of_ble_eq_true rfl) (Nat.le_of_ble_eq_true rfl) ?_
      refine c_R_isOut ?_
      refine V2_topi (fun v6 ev6 => ?_)
      refine V2_if_eq (tgt := 37) d_R_odds_28 rfl (fun c7 => ?_) (fun c7 => ?_)
      · have s9 : ¬ (F0 66 5).toInt = 1 := (by (try clear hQ); (try subst ev6 ev4 ev1); ((try simp only [xb_eq, xb_ne, Int32.lt_iff_toInt_lt, Int32.le_iff_toInt_le] at *) <;> (try simp only [← Int32.toInt_inj, true_and, false_and, or_false, false_or, or_true, true_or, and_true, and_false] at *) <;> omega))
        refine V2_iload_n (i := 1) d_R_odds_37 rfl rfl ?_
        refine V2_callS [.int (nI p)] d_R_odds_38 rfl rfl lk_R_194 mo_R_tens (Nat.le_of_ble_eq_true rfl) (Nat.le_of_ble_eq_true rfl) ?_
        refine c_R_tens (m := p) (by omega) ?_
        refine V2_istore_n (i := 3) (l' := [some (.ref 65), some (.int (nI p)), some (.int w), some (.int (nI (10 ^ p))), none, none]) d_R_odds_41 rfl (xst_i (Nat.le_of_ble_eq_true rfl) rfl rfl) ?_
        refine V2_iconst (v := 0) d_R_odds_42 rfl ?_
        refine V2_istore (i := 4) (l' := [some (.ref 65), some (.int (nI p)), some (.int w), some (.int (nI (10 ^ p))), some (.int (0 : Int32)), none]) d_R_odds_43 (xst_i (Nat.le_of_ble_eq_true rfl) rfl rfl) ?_
        refine V2_iconst (v := 0) d_R_odds_45 rfl ?_
        refine V2_istore (i := 5) (l' := [some (.ref 65), some (.int (nI p)), some (.int w), some (.int (nI (10 ^ p))), some (.int (0 : Int32)), some (.int (0 : Int32))]) d_R_odds_46 (xst_i (Nat.le_of_ble_eq_true rfl) rfl rfl) ?_
        refine V2.to (c_R_odds_loop (F := F) (S := F0 66) (p := p) (w := w) hR.2.1 e66 e63 (by omega) (fun hh => s9 (by rw [hh]; decide)) (fun G g1 => c_R_odds_end (by omega) (by omega) ?_) (10 ^ p + 1) 0 (10 ^ p) 0 F (by omega) (by omega) (trF.refl F) rfl) rfl rfl rfl rfl
        by_cases hw0 : w = 0
        · have hw : w.toInt = 0 := by rw [hw0]; decide
          have hb0 : (1 ≤ (nI p).toInt ∧ (nI p).toInt ≤ 3) ∧ 0 ≤ w.toInt ∧ w.toInt ≤ 1 := (by (try clear hQ); (try subst ev6 ev4 ev1); ((try simp only [xb_eq, xb_ne, Int32.lt_iff_toInt_lt, Int32.le_iff_toInt_le] at *) <;> (try simp only [← Int32.toInt_inj, true_and, false_and, or_false, false_or, or_true, true_or, and_true, and_false] at *) <;> omega))
          have hb1 : ¬ ((F0 66 5).toInt = 1) := (by (try clear hQ); (try subst ev6 ev4 ev1); ((try simp only [xb_eq, xb_ne, Int32.lt_iff_toInt_lt, Int32.le_iff_toInt_le] at *) <;> (try simp only [← Int32.toInt_inj, true_and, false_and, or_false, false_or, or_true, true_or, and_true, and_false] at *) <;> omega))
          have e : k_odds F0 (nI p) w = (nI (oddsN (F0 66) p / Nat.gcd (oddsN (F0 66) p) (10 ^ p)), F0) := (if_pos hb0).trans ((if_neg hb1).trans (by rw [kp]; rw [if_pos hw]))
          rw [e] at hQ hM
          exact xQi (hQ G (rel_tr hR hM g1)) (if_pos hw0) rfl
        · have hw : ¬ w.toInt = 0 := fun hh => hw0 (Int32.toInt_inj.mp (hh.trans (by decide)))
          have hb0 : (1 ≤ (nI p).toInt ∧ (nI p).toInt ≤ 3) ∧ 0 ≤ w.toInt ∧ w.toInt ≤ 1 := (by (try clear hQ); (try subst ev6 ev4 ev1); ((try simp only [xb_eq, xb_ne, Int32.lt_iff_toInt_lt, Int32.le_iff_toInt_le] at *) <;> (try simp only [← Int32.toInt_inj, true_and, false_and, or_false, false_or, or_true, true_or, and_true, and_false] at *) <;> omega))
          have hb1 : ¬ ((F0 66 5).toInt = 1) := (by (try clear hQ); (try subst ev6 ev4 ev1); ((try simp only [xb_eq, xb_ne, Int32.lt_iff_toInt_lt, Int32.le_iff_toInt_le] at *) <;> (try simp only [← Int32.toInt_inj, true_and, false_and, or_false, false_or, or_true, true_or, and_true, and_false] at *) <;> omega))
          have e : k_odds F0 (nI p) w = (nI (10 ^ p / Nat.gcd (oddsN (F0 66) p) (10 ^ p)), F0) := (if_pos hb0).trans ((if_neg hb1).trans (by rw [kp]; rw [if_neg hw]))
          rw [e] at hQ hM
          exact xQi (hQ G (rel_tr hR hM g1)) (if_neg hw0) rfl
      · refine V2_aload_n (i := 0) d_R_odds_31 rfl rfl ?_
        refine V2_iconst (v := 3) d_R_odds_32 rfl ?_
        refine V2_callV [.int (3 : Int32)] d_R_odds_33 rfl rfl lk_R_55 mo_R_error (by decide) rfl rfl rfl (Nat.le_of_ble_eq_true rfl) (Nat.le_of_ble_eq_true rfl) ?_
        refine c_R_error3 ?_
        refine V2_topi (fun v8 ev8 => ?_)
        refine V2_ireturn d_R_odds_36 rfl ?_
        have hb0 : (1 ≤ (nI p).toInt ∧ (nI p).toInt ≤ 3) ∧ 0 ≤ w.toInt ∧ w.toInt ≤ 1 := (by (try clear hQ); (try subst ev8 ev6 ev4 ev1); ((try simp only [xb_eq, xb_ne, Int32.lt_iff_toInt_lt, Int32.le_iff_toInt_le] at *) <;> (try simp only [← Int32.toInt_inj, true_and, false_and, or_false, false_or, or_true, true_or, and_true, and_false] at *) <;> omega))
        have hb1 : (F0 66 5).toInt = 1 := (by (try clear hQ); (try subst ev8 ev6 ev4 ev1); ((try simp only [xb_eq, xb_ne, Int32.lt_iff_toInt_lt, Int32.le_iff_toInt_le] at *) <;> (try simp only [← Int32.toInt_inj, true_and, false_and, or_false, false_or, or_true, true_or, and_true, and_false] at *) <;> omega))
        have e : k_odds F0 (nI p) w = (-1000000000 - 3, errF F0 3) := (if_pos hb0).trans (if_pos hb1)
        rw [e] at hQ hM
        subst ev8 ev6 ev4 ev1
        exact xQi (hQ _ (rel_err hR hM)) rfl rfl
    · refine V2_aload_n (i := 0) d_R_odds_18 rfl rfl ?_
      refine V2_iconst (v := 1) d_R_odds_19 rfl ?_
      refine V2_callV [.int (1 : Int32)] d_R_odds_20 rfl rfl lk_R_55 mo_R_error (by decide) rfl rfl rfl (Nat.le_of_ble_eq_true rfl) (Nat.le_of_ble_eq_true rfl) ?_
      refine c_R_error1 ?_
      refine V2_topi (fun v9 ev9 => ?_)
      refine V2_ireturn d_R_odds_23 rfl ?_
      have hb0 : ¬ ((1 ≤ n.toInt ∧ n.toInt ≤ 3) ∧ 0 ≤ w.toInt ∧ w.toInt ≤ 1) := (by (try clear hQ); (try subst ev9 ev4 ev1); ((try simp only [xb_eq, xb_ne, Int32.lt_iff_toInt_lt, Int32.le_iff_toInt_le] at *) <;> (try simp only [← Int32.toInt_inj, true_and, false_and, or_false, false_or, or_true, true_or, and_true, and_false] at *) <;> omega))
      have e : k_odds F0 n w = (-1000000000 - 1, errF F0 1) := if_neg hb0
      rw [e] at hQ hM
      subst ev9 ev4 ev1
      exact xQi (hQ _ (rel_err hR hM)) rfl rfl
