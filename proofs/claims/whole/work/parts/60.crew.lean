/-! crew -/
def bits (s : Nat) : Nat := s % 2 + s / 2 % 2 + s / 4 % 2 + s / 8 % 2 + s / 16 % 2 + s / 32 % 2
theorem bits_and : ∀ l, l < 64 → 0 < l → nI l &&& (nI l - 1) = nI (l &&& (l - 1)) ∧ bits (l &&& (l - 1)) + 1 = bits l ∧ (l &&& (l - 1)) < l := by decide +kernel
theorem bits_le : ∀ P, P < 7 → ∀ s, s < 2 ^ P → bits s ≤ P := by decide +kernel
theorem bits_6 : ∀ s, s < 64 → bits s ≤ 6 := by decide +kernel
theorem shl_P : ∀ P, P < 7 → (1 : Int32) <<< (nI P &&& 31) = nI (2 ^ P) := by decide +kernel
theorem pow_P : ∀ P, P < 7 → 2 ^ P ≤ 64 := by decide +kernel
noncomputable def bestM (ok : Nat → Prop) : Nat → Option Nat
  | 0 => none
  | k + 1 => @ite _ (ok k ∧ ∀ b, bestM ok k = some b → bits k < bits b) (Classical.propDecidable _) (some k) (bestM ok k)
theorem best_t {ok : Nat → Prop} {k : Nat} (h : ok k) (h2 : ∀ b, bestM ok k = some b → bits k < bits b) : bestM ok (k + 1) = some k := if_pos ⟨h, h2⟩
theorem best_f {ok : Nat → Prop} {k : Nat} (h : ¬ (ok k ∧ ∀ b, bestM ok k = some b → bits k < bits b)) : bestM ok (k + 1) = bestM ok k := if_neg h
def isBest (ok : Nat → Prop) (K : Nat) (o : Option Nat) : Prop := (o = none → ∀ s, s < K → ¬ ok s) ∧ ∀ b, o = some b → b < K ∧ ok b ∧ ∀ s, s < K → ok s → bits b < bits s ∨ (bits b = bits s ∧ b ≤ s)
theorem best_is (ok : Nat → Prop) : ∀ K, isBest ok K (bestM ok K) := by
  intro K
  induction K with
  | zero => exact ⟨fun _ s hs => absurd hs (Nat.not_lt_zero s), fun b h => by cases h⟩
  | succ K ih =>
    by_cases h : ok K ∧ ∀ b, bestM ok K = some b → bits K < bits b
    · rw [best_t h.1 h.2]
      refine ⟨fun e => (by cases e), fun b e => ?_⟩
      cases e
      refine ⟨by omega, h.1, fun s hs hok => ?_⟩
      by_cases hsK : s = K
      · subst hsK
        exact Or.inr ⟨rfl, Nat.le_refl _⟩
      · cases eb : bestM ok K with
        | none => exact absurd hok (ih.1 eb s (by omega))
        | some b =>
          have h1 := h.2 b eb
          have h2 := (ih.2 b eb).2.2 s (by omega) hok
          exact Or.inl (by omega)
    · rw [best_f h]
      refine ⟨fun e s hs => ?_, fun b e => ?_⟩
      · by_cases hsK : s = K
        · subst hsK
          exact fun hk => h ⟨hk, fun b eb => by rw [e] at eb; cases eb⟩
        · exact ih.1 e s (by omega)
      · obtain ⟨h1, h2, h3⟩ := ih.2 b e
        refine ⟨by omega, h2, fun s hs hok => ?_⟩
        by_cases hsK : s = K
        · subst hsK
          have : ¬ bits s < bits b := fun hlt => h ⟨hok, fun b2 eb => by rw [e] at eb; cases eb; exact hlt⟩
          omega
        · exact h3 s (by omega) hok
theorem best_uniq {ok : Nat → Prop} {K : Nat} {o o2 : Option Nat} (h : isBest ok K o) (h2 : isBest ok K o2) : o = o2 := by
  cases o with
  | none =>
    cases o2 with
    | none => rfl
    | some b => exact absurd (h2.2 b rfl).2.1 (h.1 rfl b (h2.2 b rfl).1)
  | some a =>
    cases o2 with
    | none => exact absurd (h.2 a rfl).2.1 (h2.1 rfl a (h.2 a rfl).1)
    | some b =>
      have ha := h.2 a rfl
      have hb := h2.2 b rfl
      have h5 := ha.2.2 b hb.1 hb.2.1
      have h6 := hb.2.2 a ha.1 ha.2.1
      have : a = b := by omega
      rw [this]
def okCrew (S : Nat → Int32) (gas : Int32) (N s : Nat) : Prop := ¬ outN gas (nI s) (PN S) N S = none
def crewK (F : xF) (w : Int32) : Option Nat → Int32 × xF
  | none => (-1000000000 - 2, errF F 2)
  | some b => ((if w.toInt = 0 then nI (bits b) else nI b), F)
noncomputable def k_crew (F : xF) (gas n w : Int32) : Int32 × xF := if (0 ≤ gas.toInt ∧ gas.toInt ≤ 9) ∧ (1 ≤ n.toInt ∧ n.toInt ≤ 60) ∧ 0 ≤ w.toInt ∧ w.toInt ≤ 1 then crewK F w (bestM (okCrew (F 66) gas n.toNatClampNeg) (2 ^ PN (F 66))) else (-1000000000 - 1, errF F 1)
theorem c_J_bitCount {L : Nat} {xs : Nat → Int32} {d : Nat} {Q : Option Value → xF → Prop} {F : xF} {s : Nat} (hs : s < 64) (hQ : Q (some (.int (nI (bits s)))) F) : V2 L xs d m_J_bitCount 0 (xEntry [.int (nI s)] 1) [] F Q := by
  refine V2.to (l' := [some (.int (nI s))]) ?_ rfl rfl rfl rfl
  refine V2_iload_n (i := 0) d_J_bitCount_0 rfl rfl ?_
  refine V2_iload_n (i := 0) d_J_bitCount_1 rfl rfl ?_
  refine V2_iconst (v := 1) d_J_bitCount_2 rfl ?_
  refine V2_iushr d_J_bitCount_3 ?_
  refine V2_topi (fun v1 ev1 => ?_)
  refine V2_ldcw (v := 1431655765) d_J_bitCount_4 kc_J_265 ?_
  refine V2_iand d_J_bitCount_7 ?_
  refine V2_topi (fun v2 ev2 => ?_)
  refine V2_isub d_J_bitCount_8 ?_
  refine V2_topi (fun v3 ev3 => ?_)
  refine V2_istore_n (i := 0) (l' := [some (.int v3)]) d_J_bitCount_9 rfl (xst_z (Nat.le_of_ble_eq_true rfl) rfl) ?_
  refine V2_iload_n (i := 0) d_J_bitCount_10 rfl rfl ?_
  refine V2_ldcw (v := 858993459) d_J_bitCount_11 kc_J_266 ?_
  refine V2_iand d_J_bitCount_14 ?_
  refine V2_topi (fun v4 ev4 => ?_)
  refine V2_iload_n (i := 0) d_J_bitCount_15 rfl rfl ?_
  refine V2_iconst (v := 2) d_J_bitCount_16 rfl ?_
  refine V2_iushr d_J_bitCount_17 ?_
  refine V2_topi (fun v5 ev5 => ?_)
  refine V2_ldcw (v := 858993459) d_J_bitCount_18 kc_J_266 ?_
  refine V2_iand d_J_bitCount_21 ?_
  refine V2_topi (fun v6 ev6 => ?_)
  refine V2_iadd d_J_bitCount_22 ?_
  refine V2_topi (fun v7 ev7 => ?_)
  refine V2_istore_n (i := 0) (l' := [some (.int v7)]) d_J_bitCount_23 rfl (xst_z (Nat.le_of_ble_eq_true rfl) rfl) ?_
  refine V2_iload_n (i := 0) d_J_bitCount_24 rfl rfl ?_
  refine V2_iload_n (i := 0) d_J_bitCount_25 rfl rfl ?_
  refine V2_iconst (v := 4) d_J_bitCount_26 rfl ?_
  refine V2_iushr d_J_bitCount_27 ?_
  refine V2_topi (fun v8 ev8 => ?_)
  refine V2_iadd d_J_bitCount_28 ?_
  refine V2_topi (fun v9 ev9 => ?_)
  refine V2_ldcw (v := 252645135) d_J_bitCount_29 kc_J_267 ?_
  refine V2_iand d_J_bitCount_32 ?_
  refine V2_topi (fun v10 ev10 => ?_)
  refine V2_istore_n (i := 0) (l' := [some (.int v10)]) d_J_bitCount_33 rfl (xst_z (Nat.le_of_ble_eq_true rfl) rfl) ?_
  refine V2_iload_n (i := 0) d_J_bitCount_34 rfl rfl ?_
  refine V2_iload_n (i := 0) d_J_bitCount_35 rfl rfl ?_
  refine V2_bipush (v := 8) d_J_bitCount_36 rfl ?_
  refine V2_iushr d_J_bitCount_38 ?_
  refine V2_topi (fun v11 ev11 => ?_)
  refine V2_iadd d_J_bitCount_39 ?_
  refine V2_topi (fun v12 ev12 => ?_)
  refine V2_istore_n (i := 0) (l' := [some (.int v12)]) d_J_bitCount_40 rfl (xst_z (Nat.le_of_ble_eq_true rfl) rfl) ?_
  refine V2_iload_n (i := 0) d_J_bitCount_41 rfl rfl ?_
  refine V2_iload_n (i := 0) d_J_bitCount_42 rfl rfl ?_
  refine V2_bipush (v := 16) d_J_bitCount_43 rfl ?_
  refine V2_iushr d_J_bitCount_45 ?_
  refine V2_topi (fun v13 ev13 => ?_)
  refine V2_iadd d_J_bitCount_46 ?_
  refine V2_topi (fun v14 ev14 => ?_)
  refine V2_istore_n (i := 0) (l' := [some (.int v14)]) d_J_bitCount_47 rfl (xst_z (Nat.le_of_ble_eq_true rfl) rfl) ?_
  refine V2_iload_n (i := 0) d_J_bitCount_48 rfl rfl ?_
  refine V2_bipush (v := 63) d_J_bitCount_49 rfl ?_
  refine V2_iand d_J_bitCount_51 ?_
  refine V2_topi (fun v15 ev15 => ?_)
  refine V2_ireturn d_J_bitCount_52 rfl ?_
  exact xQi hQ (by clear hQ; subst ev15 ev14 ev13 ev12 ev11 ev10 ev9 ev8 ev7 ev6 ev5 ev4 ev3 ev2 ev1; revert s; decide +kernel) rfl
theorem c_P_leastSet_in {L : Nat} {xs : Nat → Int32} {d : Nat} {Q : Option Value → xF → Prop} {F : xF} {S : Nat → Int32} {gas : Int32} {N P z9 K : Nat} (h : relW F 1 S) (hi : invS S) (hN : N ≤ 60) (hg : 0 ≤ gas.toInt ∧ gas.toInt ≤ 9) (hP : P < 7) (eK : K = 2 ^ P) (hy : z9 ≤ 6) : ∀ (n_ : Nat) (k m : Nat) (G : xF), k + m = K → m < n_ → scrC F G → (∀ r, r < k → bits r = z9 → ¬ okCrew S gas N r) → (∀ G2 : xF, scrC F G2 → (∀ r, r < K → bits r = z9 → ¬ okCrew S gas N r) → V2 L xs (d + 9) m_P_leastSet 85 [some (.ref 0), some (.int gas), some (.int (nI N)), some (.int (nI P)), some (.int (nI z9)), none] [] G2 Q) → (∀ b, b < K → bits b = z9 → okCrew S gas N b → (∀ r, r < b → bits r = z9 → ¬ okCrew S gas N r) → ∀ G2 : xF, scrC F G2 → Q (some (.int (nI b))) G2) → V2 L xs (d + 9) m_P_leastSet 23 [some (.ref 0), some (.int gas), some (.int (nI N)), some (.int (nI P)), some (.int (nI z9)), some (.int (nI k))] [] G Q := by
  intro n_
  induction n_ with
  | zero => exact fun k m G h1 h2 => absurd h2 (by omega)
  | succ n_ ih =>
    intro k m G h1 h2 g1 hno hEnd hY
    have hK64 : K ≤ 64 := by rw [eK]; exact pow_P P hP
    refine V2_iload (i := 5) d_P_leastSet_23 rfl ?_
    refine V2_iconst (v := 1) d_P_leastSet_25 rfl ?_
    refine V2_iload_n (i := 3) d_P_leastSet_26 rfl rfl ?_
    refine V2_ishl d_P_leastSet_27 ?_
    refine V2_topi (fun v1 ev1 => ?_)
    refine V2_icmp_ge (tgt := 85) d_P_leastSet_28 rfl (fun c2 => ?_) (fun c2 => ?_)
    · have hm : m = 0 := by
        have h9 := c2
        subst ev1
        rw [shl_P P hP, ← eK] at h9
        have := (nI_leI (by omega) (by omega)).mp h9
        omega
      have hkK : k = K := by omega
      subst hkK
      refine V2.weak (l' := [some (.ref 0), some (.int gas), some (.int (nI N)), some (.int (nI P)), some (.int (nI z9)), none]) ?_ ⟨rfl, rfl, rfl, rfl, rfl, trivial⟩
      exact hEnd G g1 hno
    · have hkK : k < K := by
        have h9 := c2
        subst ev1
        rw [shl_P P hP, ← eK] at h9
        exact Nat.not_le.mp (fun hh => h9 ((nI_leI (by omega) (by omega)).mpr hh))
      obtain ⟨m, rfl⟩ : ∃ m2, m = m2 + 1 := ⟨m - 1, by omega⟩
      refine V2_iload (i := 5) d_P_leastSet_31 rfl ?_
      refine V2_callS [.int (nI k)] d_P_leastSet_33 rfl rfl lk_P_260 mo_J_bitCount (Nat.le_of_ble_eq_true rfl) (Nat.le_of_ble_eq_true rfl) ?_
      refine c_J_bitCount (s := k) (by omega) ?_
      refine V2_iload (i := 4) d_P_leastSet_36 rfl ?_
      refine V2_icmp_eq (tgt := 44) d_P_leastSet_38 rfl (fun c3 => ?_) (fun c3 => ?_)
      · have hby : bits k = z9 := (nI_eq (by have := bits_6 k (by omega); omega) (by omega)).mp c3
        refine V2_aload_n (i := 0) d_P_leastSet_44 rfl rfl ?_
        refine V2_getr (a := 35) d_P_leastSet_45 fl_P_22 (by decide) rfl (by decide) rfl ?_
        refine V2_aload_n (i := 0) d_P_leastSet_48 rfl rfl ?_
        refine V2_getr (a := 1) d_P_leastSet_49 fl_P_10 (by decide) rfl (by decide) rfl ?_
        refine V2_getr (a := 2) d_P_leastSet_52 fl_P_93 (by decide) rfl (by decide) rfl ?_
        refine V2_callV [.ref 2] d_P_leastSet_55 rfl rfl lk_P_227 mo_Car_copyFrom (by decide) rfl rfl rfl (Nat.le_of_ble_eq_true rfl) (Nat.le_of_ble_eq_true rfl) ?_
        refine c_Car_copy_35_2 (by rw [show G 2 7 = S 5 from (congrFun (g1 2 (by decide) (by decide) (by decide)) 7).trans h.1.2.2.2.2.2.2.2]; exact hi.1.2.2.2.2.2.1) (fun H1 p0 g0 => ?_)
        refine V2_aload_n (i := 0) d_P_leastSet_58 rfl rfl ?_
        refine V2_getr (a := 1) d_P_leastSet_59 fl_P_10 (by decide) rfl (by decide) rfl ?_
        refine V2_aload_n (i := 0) d_P_leastSet_62 rfl rfl ?_
        refine V2_getr (a := 35) d_P_leastSet_63 fl_P_22 (by decide) rfl (by decide) rfl ?_
        refine V2_iload_n (i := 1) d_P_leastSet_66 rfl rfl ?_
        refine V2_iload_n (i := 2) d_P_leastSet_67 rfl rfl ?_
        refine V2_iload (i := 5) d_P_leastSet_68 rfl ?_
        refine V2_callV [.ref 35, .int gas, .int (nI N), .int (nI k)] d_P_leastSet_70 rfl rfl lk_P_265 mo_World_swingsTillOut (by decide) rfl rfl rfl (Nat.le_of_ble_eq_true rfl) (Nat.le_of_ble_eq_true rfl) ?_
        refine c_World_tillOut h hi hN hg (g1.car g0) (relCr_row (relCr_c h.1 (g1 2 (by decide) (by decide) (by decide)) (fun _ _ => rfl)) p0) (like.refl _) hi.1 (fun G2 h2 => ?_)
        refine V2_topi (fun v4 ev4 => ?_)
        refine V2_if_lt (tgt := 79) d_P_leastSet_73 rfl (fun c5 => ?_) (fun c5 => ?_)
        · obtain ⟨v6, ev6⟩ : ∃ y : Int32, y = nI k + 1 := ⟨_, rfl⟩
          refine V2_iinc (i := 5) (v := v6) (l' := [some (.ref 0), some (.int gas), some (.int (nI N)), some (.int (nI P)), some (.int (nI z9)), some (.int v6)]) d_P_leastSet_79 rfl (by rw [ev6]; rfl) (xst_i (Nat.le_of_ble_eq_true rfl) rfl rfl) ?_
          refine V2_goto (tgt := 23) d_P_leastSet_82 rfl ?_
          have hok : ¬ okCrew S gas N k := by
            intro h0
            have h9 := c5
            subst ev6 ev4 ev1
            rcases resK_range (g := gas) (s := nI k) (P := PN S) (m := N) (T := S) (by omega) with ⟨e, _⟩ | ⟨j, _, _, e⟩
            · exact h0 e
            · rw [toI_lt, e] at h9
              have q0 : (0 : Int32).toInt = 0 := by decide
              omega
          rw [ev6, nI_1]
          exact V2.to (ih (k + 1) m G2 (by omega) (by omega) h2 (fun r hr hb => (by
            by_cases e : r = k
            · subst e
              exact hok
            · exact hno r (by omega) hb)) hEnd hY) rfl rfl rfl rfl
        · refine V2_iload (i := 5) d_P_leastSet_76 rfl ?_
          refine V2_ireturn d_P_leastSet_78 rfl ?_
          have hok : okCrew S gas N k := by
            intro h0
            have h9 := c5
            subst ev4 ev1
            rw [h0] at h9
            exact h9 (by decide)
          exact hY k hkK hby hok hno G2 h2
      · refine V2_goto (tgt := 79) d_P_leastSet_41 rfl ?_
        obtain ⟨v7, ev7⟩ : ∃ y : Int32, y = nI k + 1 := ⟨_, rfl⟩
        refine V2_iinc (i := 5) (v := v7) (l' := [some (.ref 0), some (.int gas), some (.int (nI N)), some (.int (nI P)), some (.int (nI z9)), some (.int v7)]) d_P_leastSet_79 rfl (by rw [ev7]; rfl) (xst_i (Nat.le_of_ble_eq_true rfl) rfl rfl) ?_
        refine V2_goto (tgt := 23) d_P_leastSet_82 rfl ?_
        rw [ev7, nI_1]
        exact V2.to (ih (k + 1) m G (by omega) (by omega) g1 (fun r hr hb => (by
          by_cases e : r = k
          · subst e
            exact absurd (congrArg nI hb) c3
          · exact hno r (by omega) hb)) hEnd hY) rfl rfl rfl rfl
theorem c_P_leastSet_out {L : Nat} {xs : Nat → Int32} {d : Nat} {Q : Option Value → xF → Prop} {F : xF} {S : Nat → Int32} {gas : Int32} {N P K : Nat} (h : relW F 1 S) (hi : invS S) (hN : N ≤ 60) (hg : 0 ≤ gas.toInt ∧ gas.toInt ≤ 9) (hP : P < 7) (eK : K = 2 ^ P) : ∀ (n_ : Nat) (z9 m : Nat) (G : xF), z9 + m = P + 1 → m < n_ → scrC F G → (∀ r, r < K → bits r < z9 → ¬ okCrew S gas N r) → ((∀ r, r < K → ¬ okCrew S gas N r) → ∀ G2 : xF, scrC F G2 → Q (some (.int (-1))) G2) → (∀ b, b < K → okCrew S gas N b → (∀ r, r < K → okCrew S gas N r → bits b < bits r ∨ (bits b = bits r ∧ b ≤ r)) → ∀ G2 : xF, scrC F G2 → Q (some (.int (nI b))) G2) → V2 L xs (d + 9) m_P_leastSet 14 [some (.ref 0), some (.int gas), some (.int (nI N)), some (.int (nI P)), some (.int (nI z9)), none] [] G Q := by
  intro n_
  induction n_ with
  | zero => exact fun z9 m G h1 h2 => absurd h2 (by omega)
  | succ n_ ih =>
    intro z9 m G h1 h2 g1 hlow hE hY
    refine V2_iload (i := 4) d_P_leastSet_14 rfl ?_
    refine V2_iload_n (i := 3) d_P_leastSet_16 rfl rfl ?_
    refine V2_icmp_gt (tgt := 91) d_P_leastSet_17 rfl (fun c1 => ?_) (fun c1 => ?_)
    · refine V2_iconst (v := -1) d_P_leastSet_91 rfl ?_
      refine V2_ireturn d_P_leastSet_92 rfl ?_
      have hm : m = 0 := by
        have := (nI_ltI (a := P) (b := z9) (by omega) (by omega)).mp c1
        omega
      exact hE (fun r hr => hlow r hr (by have := bits_le P hP r (by rw [← eK]; exact hr); omega)) G g1
    · have hyP : z9 ≤ P := Nat.not_lt.mp (fun hh => c1 ((nI_ltI (a := P) (b := z9) (by omega) (by omega)).mpr hh))
      obtain ⟨m, rfl⟩ : ∃ m2, m = m2 + 1 := ⟨m - 1, by omega⟩
      refine V2_iconst (v := 0) d_P_leastSet_20 rfl ?_
      refine V2_istore (i := 5) (l' := [some (.ref 0), some (.int gas), some (.int (nI N)), some (.int (nI P)), some (.int (nI z9)), some (.int (0 : Int32))]) d_P_leastSet_21 (xst_i (Nat.le_of_ble_eq_true rfl) rfl rfl) ?_
      exact V2.to (c_P_leastSet_in h hi hN hg hP eK (by omega) (K + 1) 0 K G (by omega) (by omega) g1 (fun r hr => absurd hr (Nat.not_lt_zero r)) (fun G2 h2 hall => by
        obtain ⟨v1, ev1⟩ : ∃ y : Int32, y = nI z9 + 1 := ⟨_, rfl⟩
        refine V2_iinc (i := 4) (v := v1) (l' := [some (.ref 0), some (.int gas), some (.int (nI N)), some (.int (nI P)), some (.int v1), none]) d_P_leastSet_85 rfl (by rw [ev1]; rfl) (xst_i (Nat.le_of_ble_eq_true rfl) rfl rfl) ?_
        refine V2_goto (tgt := 14) d_P_leastSet_88 rfl ?_
        rw [ev1, nI_1]
        exact V2.to (ih (z9 + 1) m G2 (by omega) (by omega) h2 (fun r hr hb => by
          by_cases e : bits r = z9
          · exact hall r hr e
          · exact hlow r hr (by omega)) hE hY) rfl rfl rfl rfl) (fun b hb hby hok hno G2 h2 => hY b hb hok (fun r hr hokr => by
          by_cases e : bits r < z9
          · exact absurd hokr (hlow r hr e)
          · by_cases e2 : bits r = z9
            · by_cases e3 : r < b
              · exact absurd hokr (hno r e3 e2)
              · exact Or.inr ⟨by omega, by omega⟩
            · exact Or.inl (by omega)) G2 h2)) rfl rfl rfl rfl
theorem c_P_leastSet {L : Nat} {xs : Nat → Int32} {d : Nat} {Q : Option Value → xF → Prop} {F : xF} {gas : Int32} {N : Nat} (hR : Rel F) (hN : N ≤ 60) (hg : 0 ≤ gas.toInt ∧ gas.toInt ≤ 9) (hQ : ∀ G2 : xF, scrC F G2 → Q (some (.int (resK 0 (bestM (okCrew (F 66) gas N) (2 ^ PN (F 66)))))) G2) : V2 L xs (d + 9) m_P_leastSet 0 (xEntry [.ref 0, .int gas, .int (nI N)] 6) [] F Q := by
  obtain ⟨eP, hP6⟩ := inv_PN hR.2.1.2.2.1
  refine V2.to (l' := [some (.ref 0), some (.int gas), some (.int (nI N)), none, none, none]) ?_ rfl rfl rfl rfl
  refine V2_aload_n (i := 0) d_P_leastSet_0 rfl rfl ?_
  refine V2_getr (a := 1) d_P_leastSet_1 fl_P_10 (by decide) rfl (by decide) rfl ?_
  refine V2_getr (a := 3) d_P_leastSet_4 fl_P_70 (by decide) rfl (by decide) rfl ?_
  refine V2_callV [] d_P_leastSet_7 rfl rfl lk_P_116 mo_Push_size (by decide) rfl rfl rfl (Nat.le_of_ble_eq_true rfl) (Nat.le_of_ble_eq_true rfl) ?_
  refine c_Push_size (P := PN (F 66)) (hR.1.1.2.1.1.trans eP) ?_
  refine V2_istore_n (i := 3) (l' := [some (.ref 0), some (.int gas), some (.int (nI N)), some (.int (nI (PN (F 66)))), none, none]) d_P_leastSet_10 rfl (xst_i (Nat.le_of_ble_eq_true rfl) rfl rfl) ?_
  refine V2_iconst (v := 0) d_P_leastSet_11 rfl ?_
  refine V2_istore (i := 4) (l' := [some (.ref 0), some (.int gas), some (.int (nI N)), some (.int (nI (PN (F 66)))), some (.int (0 : Int32)), none]) d_P_leastSet_12 (xst_i (Nat.le_of_ble_eq_true rfl) rfl rfl) ?_
  refine V2.to (c_P_leastSet_out (F := F) (gas := gas) (N := N) hR.1.1 hR.2.1 hN hg (by omega) rfl (PN (F 66) + 2) 0 (PN (F 66) + 1) F (by omega) (by omega) (scrC.refl F) (fun r _ hr => absurd hr (Nat.not_lt_zero _)) (fun hall G2 h2 => ?_) (fun b hb hok hbest G2 h2 => ?_)) rfl rfl rfl rfl
  · rw [best_uniq (best_is _ _) (o2 := none) ⟨fun _ => hall, fun b e => (by cases e)⟩] at hQ
    exact hQ G2 h2
  · rw [best_uniq (best_is _ _) (o2 := some b) ⟨fun e => (by cases e), fun b2 e => (by cases e; exact ⟨hb, hok, hbest⟩)⟩] at hQ
    exact xQi (hQ G2 h2) (congrArg nI (Nat.zero_add b).symm) rfl
theorem c_cls_crew {L : Nat} {xs : Nat → Int32} {d : Nat} {Q : Option Value → xF → Prop} {F : xF} {gas n w : Int32} (hR : Rel F) (hQ : ∀ F1, Mid F F1 (k_crew F gas n w).2 → Q (some (.int (k_crew F gas n w).1)) F1) : V2 L xs (d + 10) m_P_crew 0 (xEntry [.ref 0, .int gas, .int n, .int w] 5) [] F Q := by
  have q0 : (0 : Int32).toInt = 0 := by decide
  have q1 : (1 : Int32).toInt = 1 := by decide
  have q2 : (2 : Int32).toInt = 2 := by decide
  have q3 : (3 : Int32).toInt = 3 := by decide
  have q4 : (4 : Int32).toInt = 4 := by decide
  have q5 : (5 : Int32).toInt = 5 := by decide
  have q6 : (6 : Int32).toInt = 6 := by decide
  have q7 : (7 : Int32).toInt = 7 := by decide
  have q8 : (8 : Int32).toInt = 8 := by decide
  have q9 : (9 : Int32).toInt = 9 := by decide
  have q10 : (10 : Int32).toInt = 10 := by decide
  have q12 : (12 : Int32).toInt = 12 := by decide
  have q16 : (16 : Int32).toInt = 16 := by decide
  have q20 : (20 : Int32).toInt = 20 := by decide
  have q24 : (24 : Int32).toInt = 24 := by decide
  have q30 : (30 : Int32).toInt = 30 := by decide
  have q32 : (32 : Int32).toInt = 32 := by decide
  have q40 : (40 : Int32).toInt = 40 := by decide
  have q60 : (60 : Int32).toInt = 60 := by decide
  have q69 : (69 : Int32).toInt = 69 := by decide
  have q99 : (99 : Int32).toInt = 99 := by decide
  have q9999 : (9999 : Int32).toInt = 9999 := by decide
  have q274 : (274 : Int32).toInt = 274 := by decide
  have q334 : (334 : Int32).toInt = 334 := by decide
  obtain ⟨eP, hP6⟩ := inv_PN hR.2.1.2.2.1
  refine V2.to (l' := [some (.ref 0), some (.int gas), some (.int n), some (.int w), none]) ?_ rfl rfl rfl rfl
  refine V2_iload_n (i := 1) d_P_crew_0 rfl rfl ?_
  refine V2_callS [.int gas] d_P_crew_1 rfl rfl lk_P_189 mo_P_isGas (Nat.le_of_ble_eq_true rfl) (Nat.le_of_ble_eq_true rfl) ?_
  refine V2.to (l' := [some (.int gas)]) ?_ rfl rfl rfl rfl
  refine V2_iload_n (i := 0) d_P_isGas_0 rfl rfl ?_
  refine V2_iconst (v := 0) d_P_isGas_1 rfl ?_
  refine V2_bipush (v := 9) d_P_isGas_2 rfl ?_
  refine V2_callS [.int gas, .int (0 : Int32), .int (9 : Int32)] d_P_isGas_4 rfl rfl lk_P_133 mo_P_within (Nat.le_of_ble_eq_true rfl) (Nat.le_of_ble_eq_true rfl) ?_
  refine V2.to (l' := [some (.int gas), some (.int (0 : Int32)), some (.int (9 : Int32))]) ?_ rfl rfl rfl rfl
  refine V2_iload_n (i := 0) d_P_within_0 rfl rfl ?_
  refine V2_iload_n (i := 1) d_P_within_1 rfl rfl ?_
  refine V2_icmp_lt (tgt := 14) d_P_within_2 rfl (fun c1 => ?_) (fun c1 => ?_)
  · refine V2_iconst (v := 0) d_P_within_14 rfl ?_
    refine V2_zreturn d_P_within_15 rfl (by decide) ?_
    refine V2.to (st' := [.int (0 : Int32)]) ?_ rfl rfl rfl rfl
    refine V2_zreturn d_P_isGas_7 rfl (by decide) ?_
    refine V2.to (st' := [.int (0 : Int32)]) ?_ rfl rfl rfl rfl
    refine V2_if_eq (tgt := 26) d_P_crew_4 rfl (fun _ => ?_) (fun c => (by first | exact absurd c (by decide) | exact absurd (by decide) c))
    refine V2_aload_n (i := 0) d_P_crew_26 rfl rfl ?_
    refine V2_iconst (v := 1) d_P_crew_27 rfl ?_
    refine V2_callV [.int (1 : Int32)] d_P_crew_28 rfl rfl lk_P_66 mo_P_fails (by decide) rfl rfl rfl (Nat.le_of_ble_eq_true rfl) (Nat.le_of_ble_eq_true rfl) ?_
    refine c_P_fails1 ?_
    refine V2_topi (fun v2 ev2 => ?_)
    refine V2_ireturn d_P_crew_31 rfl ?_
    have hb0 : ¬ ((0 ≤ gas.toInt ∧ gas.toInt ≤ 9) ∧ (1 ≤ n.toInt ∧ n.toInt ≤ 60) ∧ 0 ≤ w.toInt ∧ w.toInt ≤ 1) := (by (try clear hQ); (try subst ev2); ((try simp only [xb_eq, xb_ne, Int32.lt_iff_toInt_lt, Int32.le_iff_toInt_le] at *) <;> (try simp only [← Int32.toInt_inj, true_and, false_and, or_false, false_or, or_true, true_or, and_true, and_false] at *) <;> omega))
    have e : k_crew F gas n w = (-1000000000 - 1, errF F 1) := if_neg hb0
    rw [e] at hQ
    subst ev2
    exact xQi (hQ _ (mid_err hR (by decide))) rfl rfl
  · refine V2_iload_n (i := 0) d_P_within_5 rfl rfl ?_
    refine V2_iload_n (i := 2) d_P_within_6 rfl rfl ?_
    refine V2_icmp_gt (tgt := 14) d_P_within_7 rfl (fun c3 => ?_) (fun c3 => ?_)
    · refine V2_iconst (v := 0) d_P_within_14 rfl ?_
      refine V2_zreturn d_P_within_15 rfl (by decide) ?_
      refine V2.to (st' := [.int (0 : Int32)]) ?_ rfl rfl rfl rfl
      refine V2_zreturn d_P_isGas_7 rfl (by decide) ?_
      refine V2.to (st' := [.int (0 : Int32)]) ?_ rfl rfl rfl rfl
      refine V2_if_eq (tgt := 26) d_P_crew_4 rfl (fun _ => ?_) (fun c => (by first | exact absurd c (by decide) | exact absurd (by decide) c))
      refine V2_aload_n (i := 0) d_P_crew_26 rfl rfl ?_
      refine V2_iconst (v := 1) d_P_crew_27 rfl ?_
      refine V2_callV [.int (1 : Int32)] d_P_crew_28 rfl rfl lk_P_66 mo_P_fails (by decide) rfl rfl rfl (Nat.le_of_ble_eq_true rfl) (Nat.le_of_ble_eq_true rfl) ?_
      refine c_P_fails1 ?_
      refine V2_topi (fun v4 ev4 => ?_)
      refine V2_ireturn d_P_crew_31 rfl ?_
      have hb0 : ¬ ((0 ≤ gas.toInt ∧ gas.toInt ≤ 9) ∧ (1 ≤ n.toInt ∧ n.toInt ≤ 60) ∧ 0 ≤ w.toInt ∧ w.toInt ≤ 1) := (by (try clear hQ); (try subst ev4); ((try simp only [xb_eq, xb_ne, Int32.lt_iff_toInt_lt, Int32.le_iff_toInt_le] at *) <;> (try simp only [← Int32.toInt_inj, true_and, false_and, or_false, false_or, or_true, true_or, and_true, and_false] at *) <;> omega))
      have e : k_crew F gas n w = (-1000000000 - 1, errF F 1) := if_neg hb0
      rw [e] at hQ
      subst ev4
      exact xQi (hQ _ (mid_err hR (by decide))) rfl rfl
    · refine V2_iconst (v := 1) d_P_within_10 rfl ?_
      refine V2_goto (tgt := 15) d_P_within_11 rfl ?_
      refine V2_zreturn d_P_within_15 rfl (by decide) ?_
      refine V2.to (st' := [.int (1 : Int32)]) ?_ rfl rfl rfl rfl
      refine V2_zreturn d_P_isGas_7 rfl (by decide) ?_
      refine V2.to (st' := [.int (1 : Int32)]) ?_ rfl rfl rfl rfl
      refine V2_if_eq (tgt := 26) d_P_crew_4 rfl (fun c => (by first | exact absurd c (by decide) | exact absurd (by decide) c)) (fun _ => ?_)
      refine V2_iload_n (i := 2) d_P_crew_7 rfl rfl ?_
      refine V2_iconst (v := 1) d_P_crew_8 rfl ?_
      refine V2_bipush (v := 60) d_P_crew_9 rfl ?_
      refine V2_callS [.int n, .int (1 : Int32), .int (60 : Int32)] d_P_crew_11 rfl rfl lk_P_133 mo_P_within (Nat.le_of_ble_eq_true rfl) (Nat.le_of_ble_eq_true rfl) ?_
      refine V2.to (l' := [some (.int n), some (.int (1 : Int32)), some (.int (60 : Int32))]) ?_ rfl rfl rfl rfl
      refine V2_iload_n (i := 0) d_P_within_0 rfl rfl ?_
      refine V2_iload_n (i := 1) d_P_within_1 rfl rfl ?_
      refine V2_icmp_lt (tgt := 14) d_P_within_2 rfl (fun c5 => ?_) (fun c5 => ?_)
      · refine V2_iconst (v := 0) d_P_within_14 rfl ?_
        refine V2_zreturn d_P_within_15 rfl (by decide) ?_
        refine V2.to (st' := [.int (0 : Int32)]) ?_ rfl rfl rfl rfl
        refine V2_if_eq (tgt := 26) d_P_crew_14 rfl (fun _ => ?_) (fun c => (by first | exact absurd c (by decide) | exact absurd (by decide) c))
        refine V2_aload_n (i := 0) d_P_crew_26 rfl rfl ?_
        refine V2_iconst (v := 1) d_P_crew_27 rfl ?_
        refine V2_callV [.int (1 : Int32)] d_P_crew_28 rfl rfl lk_P_66 mo_P_fails (by decide) rfl rfl rfl (Nat.le_of_ble_eq_true rfl) (Nat.le_of_ble_eq_true rfl) ?_
        refine c_P_fails1 ?_
        refine V2_topi (fun v6 ev6 => ?_)
        refine V2_ireturn d_P_crew_31 rfl ?_
        have hb0 : ¬ ((0 ≤ gas.toInt ∧ gas.toInt ≤ 9) ∧ (1 ≤ n.toInt ∧ n.toInt ≤ 60) ∧ 0 ≤ w.toInt ∧ w.toInt ≤ 1) := (by (try clear hQ); (try subst ev6); ((try simp only [xb_eq, xb_ne, Int32.lt_iff_toInt_lt, Int32.le_iff_toInt_le] at *) <;> (try simp only [← Int32.toInt_inj, true_and, false_and, or_false, false_or, or_true, true_or, and_true, and_false] at *) <;> omega))
        have e : k_crew F gas n w = (-1000000000 - 1, errF F 1) := if_neg hb0
        rw [e] at hQ
        subst ev6
        exact xQi (hQ _ (mid_err hR (by decide))) rfl rfl
      · refine V2_iload_n (i := 0) d_P_within_5 rfl rfl ?_
        refine V2_iload_n (i := 2) d_P_within_6 rfl rfl ?_
        refine V2_icmp_gt (tgt := 14) d_P_within_7 rfl (fun c7 => ?_) (fun c7 => ?_)
        · refine V2_iconst (v := 0) d_P_within_14 rfl ?_
          refine V2_zreturn d_P_within_15 rfl (by decide) ?_
          refine V2.to (st' := [.int (0 : Int32)]) ?_ rfl rfl rfl rfl
          refine V2_if_eq (tgt := 26) d_P_crew_14 rfl (fun _ => ?_) (fun c => (by first | exact absurd c (by decide) | exact absurd (by decide) c))
          refine V2_aload_n (i := 0) d_P_crew_26 rfl rfl ?_
          refine V2_iconst (v := 1) d_P_crew_27 rfl ?_
          refine V2_callV [.int (1 : Int32)] d_P_crew_28 rfl rfl lk_P_66 mo_P_fails (by decide) rfl rfl rfl (Nat.le_of_ble_eq_true rfl) (Nat.le_of_ble_eq_true rfl) ?_
          refine c_P_fails1 ?_
          refine V2_topi (fun v8 ev8 => ?_)
          refine V2_ireturn d_P_crew_31 rfl ?_
          have hb0 : ¬ ((0 ≤ gas.toInt ∧ gas.toInt ≤ 9) ∧ (1 ≤ n.toInt ∧ n.toInt ≤ 60) ∧ 0 ≤ w.toInt ∧ w.toInt ≤ 1) := (by (try clear hQ); (try subst ev8); ((try simp only [xb_eq, xb_ne, Int32.lt_iff_toInt_lt, Int32.le_iff_toInt_le] at *) <;> (try simp only [← Int32.toInt_inj, true_and, false_and, or_false, false_or, or_true, true_or, and_true, and_false] at *) <;> omega))
          have e : k_crew F gas n w = (-1000000000 - 1, errF F 1) := if_neg hb0
          rw [e] at hQ
          subst ev8
          exact xQi (hQ _ (mid_err hR (by decide))) rfl rfl
        · refine V2_iconst (v := 1) d_P_within_10 rfl ?_
          refine V2_goto (tgt := 15) d_P_within_11 rfl ?_
          refine V2_zreturn d_P_within_15 rfl (by decide) ?_
          refine V2.to (st' := [.int (1 : Int32)]) ?_ rfl rfl rfl rfl
          refine V2_if_eq (tgt := 26) d_P_crew_14 rfl (fun c => (by first | exact absurd c (by decide) | exact absurd (by decide) c)) (fun _ => ?_)
          refine V2_iload_n (i := 3) d_P_crew_17 rfl rfl ?_
          refine V2_iconst (v := 0) d_P_crew_18 rfl ?_
          refine V2_iconst (v := 1) d_P_crew_19 rfl ?_
          refine V2_callS [.int w, .int (0 : Int32), .int (1 : Int32)] d_P_crew_20 rfl rfl lk_P_133 mo_P_within (Nat.le_of_ble_eq_true rfl) (Nat.le_of_ble_eq_true rfl) ?_
          refine V2.to (l' := [some (.int w), some (.int (0 : Int32)), some (.int (1 : Int32))]) ?_ rfl rfl rfl rfl
          refine V2_iload_n (i := 0) d_P_within_0 rfl rfl ?_
          refine V2_iload_n (i := 1) d_P_within_1 rfl rfl ?_
          refine V2_icmp_lt (tgt := 14) d_P_within_2 rfl (fun c9 => ?_) (fun c9 => ?_)
          · refine V2_iconst (v := 0) d_P_within_14 rfl ?_
            refine V2_zreturn d_P_within_15 rfl (by decide) ?_
            refine V2.to (st' := [.int (0 : Int32)]) ?_ rfl rfl rfl rfl
            refine V2_if_ne (tgt := 32) d_P_crew_23 rfl (fun c => (by first | exact absurd c (by decide) | exact absurd (by decide) c)) (fun _ => ?_)
            refine V2_aload_n (i := 0) d_P_crew_26 rfl rfl ?_
            refine V2_iconst (v := 1) d_P_crew_27 rfl ?_
            refine V2_callV [.int (1 : Int32)] d_P_crew_28 rfl rfl lk_P_66 mo_P_fails (by decide) rfl rfl rfl (Nat.le_of_ble_eq_true rfl) (Nat.le_of_ble_eq_true rfl) ?_
            refine c_P_fails1 ?_
            refine V2_topi (fun v10 ev10 => ?_)
            refine V2_ireturn d_P_crew_31 rfl ?_
            have hb0 : ¬ ((0 ≤ gas.toInt ∧ gas.toInt ≤ 9) ∧ (1 ≤ n.toInt ∧ n.toInt ≤ 60) ∧ 0 ≤ w.toInt ∧ w.toInt ≤ 1) := (by (try clear hQ); (try subst ev10); ((try simp only [xb_eq, xb_ne, Int32.lt_iff_toInt_lt, Int32.le_iff_toInt_le] at *) <;> (try simp only [← Int32.toInt_inj, true_and, false_and, or_false, false_or, or_true, true_or, and_true, and_false] at *) <;> omega))
            have e : k_crew F gas n w = (-1000000000 - 1, errF F 1) := if_neg hb0
            rw [e] at hQ
            subst ev10
            exact xQi (hQ _ (mid_err hR (by decide))) rfl rfl
          · refine V2_iload_n (i := 0) d_P_within_5 rfl rfl ?_
            refine V2_iload_n (i := 2) d_P_within_6 rfl rfl ?_
            refine V2_icmp_gt (tgt := 14) d_P_within_7 rfl (fun c11 => ?_) (fun c11 => ?_)
            · refine V2_iconst (v := 0) d_P_within_14 rfl ?_
              refine V2_zreturn d_P_within_15 rfl (by decide) ?_
              refine V2.to (st' := [.int (0 : Int32)]) ?_ rfl rfl rfl rfl
              refine V2_if_ne (tgt := 32) d_P_crew_23 rfl (fun c => (by first | exact absurd c (by decide) | exact absurd (by decide) c)) (fun _ => ?_)
              refine V2_aload_n (i := 0) d_P_crew_26 rfl rfl ?_
              refine V2_iconst (v := 1) d_P_crew_27 rfl ?_
              refine V2_callV [.int (1 : Int32)] d_P_crew_28 rfl rfl lk_P_66 mo_P_fails (by decide) rfl rfl rfl (Nat.le_of_ble_eq_true rfl) (Nat.le_of_ble_eq_true rfl) ?_
              refine c_P_fails1 ?_
              refine V2_topi (fun v12 ev12 => ?_)
              refine V2_ireturn d_P_crew_31 rfl ?_
              have hb0 : ¬ ((0 ≤ gas.toInt ∧ gas.toInt ≤ 9) ∧ (1 ≤ n.toInt ∧ n.toInt ≤ 60) ∧ 0 ≤ w.toInt ∧ w.toInt ≤ 1) := (by (try clear hQ); (try subst ev12); ((try simp only [xb_eq, xb_ne, Int32.lt_iff_toInt_lt, Int32.le_iff_toInt_le] at *) <;> (try simp only [← Int32.toInt_inj, true_and, false_and, or_false, false_or, or_true, true_or, and_true, and_false] at *) <;> omega))
              have e : k_crew F gas n w = (-1000000000 - 1, errF F 1) := if_neg hb0
              rw [e] at hQ
              subst ev12
              exact xQi (hQ _ (mid_err hR (by decide))) rfl rfl
            · refine V2_iconst (v := 1) d_P_within_10 rfl ?_
              refine V2_goto (tgt := 15) d_P_within_11 rfl ?_
              refine V2_zreturn d_P_within_15 rfl (by decide) ?_
              refine V2.to (st' := [.int (1 : Int32)]) ?_ rfl rfl rfl rfl
              refine V2_if_ne (tgt := 32) d_P_crew_23 rfl (fun _ => ?_) (fun c => (by first | exact absurd c (by decide) | exact absurd (by decide) c))
              obtain ⟨p, hp, epp⟩ := in_of (x := n) (P := 61) (by (try clear hQ); (try skip); ((try simp only [xb_eq, xb_ne, Int32.lt_iff_toInt_lt, Int32.le_iff_toInt_le] at *) <;> (try simp only [← Int32.toInt_inj, true_and, false_and, or_false, false_or, or_true, true_or, and_true, and_false] at *) <;> omega)) (by (try clear hQ); (try skip); ((try simp only [xb_eq, xb_ne, Int32.lt_iff_toInt_lt, Int32.le_iff_toInt_le] at *) <;> (try simp only [← Int32.toInt_inj, true_and, false_and, or_false, false_or, or_true, true_or, and_true, and_false] at *) <;> omega)) (by omega)
              subst epp
              have np : (nI p).toInt = (p : Int) := nI_toInt (by omega)
              have kp : (nI p).toNatClampNeg = p := nI_clamp (by omega)
              refine V2_aload_n (i := 0) d_P_crew_32 rfl rfl ?_
              refine V2_iload_n (i := 1) d_P_crew_33 rfl rfl ?_
              refine V2_iload_n (i := 2) d_P_crew_34 rfl rfl ?_
              refine V2_callV [.int gas, .int (nI p)] d_P_crew_35 rfl rfl lk_P_257 mo_P_leastSet (by decide) rfl rfl rfl (Nat.le_of_ble_eq_true rfl) (Nat.le_of_ble_eq_true rfl) ?_
              refine c_P_leastSet hR (by omega) (by (try clear hQ); (try skip); ((try simp only [xb_eq, xb_ne, Int32.lt_iff_toInt_lt, Int32.le_iff_toInt_le] at *) <;> (try simp only [← Int32.toInt_inj, true_and, false_and, or_false, false_or, or_true, true_or, and_true, and_false] at *) <;> omega)) (fun G2 h2 => ?_)
              refine V2_topi (fun v13 ev13 => ?_)
              refine V2_istore (i := 4) (l' := [some (.ref 0), some (.int gas), some (.int (nI p)), some (.int w), some (.int v13)]) d_P_crew_38 (xst_i (Nat.le_of_ble_eq_true rfl) rfl rfl) ?_
              refine V2_iload (i := 4) d_P_crew_40 rfl ?_
              refine V2_if_ge (tgt := 51) d_P_crew_42 rfl (fun c14 => ?_) (fun c14 => ?_)
              · have hb0 : (0 ≤ gas.toInt ∧ gas.toInt ≤ 9) ∧ (1 ≤ (nI p).toInt ∧ (nI p).toInt ≤ 60) ∧ 0 ≤ w.toInt ∧ w.toInt ≤ 1 := (by (try clear hQ); (try subst ev13); ((try simp only [xb_eq, xb_ne, Int32.lt_iff_toInt_lt, Int32.le_iff_toInt_le] at *) <;> (try simp only [← Int32.toInt_inj, true_and, false_and, or_false, false_or, or_true, true_or, and_true, and_false] at *) <;> omega))
                have e : k_crew F gas (nI p) w = crewK F w (bestM (okCrew (F 66) gas p) (2 ^ PN (F 66))) := (if_pos hb0).trans (by rw [kp])
                rw [e] at hQ
                rcases res_range (o := bestM (okCrew (F 66) gas p) (2 ^ PN (F 66))) (m := 64) (by omega) (fun j h => by have := ((best_is _ _).2 j h).1; have := pow_P (PN (F 66)) (by omega); omega) with ⟨eo, er⟩ | ⟨j, hj, eo, e2, er⟩
                · exfalso
                  exact (by (try clear hQ); (try subst ev13); ((try simp only [xb_eq, xb_ne, Int32.lt_iff_toInt_lt, Int32.le_iff_toInt_le] at *) <;> (try simp only [← Int32.toInt_inj, true_and, false_and, or_false, false_or, or_true, true_or, and_true, and_false] at *) <;> omega))
                have hj64 : j < 64 := by
                  have := ((best_is _ _).2 j eo).1
                  have := pow_P (PN (F 66)) (by omega)
                  omega
                have ev9 : v13 = nI j := by subst ev13; exact e2
                rw [ev9]
                rw [eo] at hQ
                refine V2_iload_n (i := 3) d_P_crew_51 rfl rfl ?_
                refine V2_if_ne (tgt := 63) d_P_crew_52 rfl (fun c15 => ?_) (fun c15 => ?_)
                · refine V2_iload (i := 4) d_P_crew_63 rfl ?_
                  refine V2_ireturn d_P_crew_65 rfl ?_
                  have hw : ¬ w.toInt = 0 := (by (try clear hQ); (try subst ev13); ((try simp only [xb_eq, xb_ne, Int32.lt_iff_toInt_lt, Int32.le_iff_toInt_le] at *) <;> (try simp only [← Int32.toInt_inj, true_and, false_and, or_false, false_or, or_true, true_or, and_true, and_false] at *) <;> omega))
                  exact xQi (hQ G2 (mid_scr hR h2)) (if_neg hw).symm rfl
                · refine V2_iload (i := 4) d_P_crew_55 rfl ?_
                  refine V2_callS [.int (nI j)] d_P_crew_57 rfl rfl lk_P_260 mo_J_bitCount (Nat.le_of_ble_eq_true rfl) (Nat.le_of_ble_eq_true rfl) ?_
                  refine c_J_bitCount (s := j) hj64 ?_
                  refine V2_goto (tgt := 65) d_P_crew_60 rfl ?_
                  refine V2_ireturn d_P_crew_65 rfl ?_
                  have hw : w.toInt = 0 := (by (try clear hQ); (try subst ev13); ((try simp only [xb_eq, xb_ne, Int32.lt_iff_toInt_lt, Int32.le_iff_toInt_le] at *) <;> (try simp only [← Int32.toInt_inj, true_and, false_and, or_false, false_or, or_true, true_or, and_true, and_false] at *) <;> omega))
                  exact xQi (hQ G2 (mid_scr hR h2)) (if_pos hw).symm rfl
              · refine V2_aload_n (i := 0) d_P_crew_45 rfl rfl ?_
                refine V2_iconst (v := 2) d_P_crew_46 rfl ?_
                refine V2_callV [.int (2 : Int32)] d_P_crew_47 rfl rfl lk_P_66 mo_P_fails (by decide) rfl rfl rfl (Nat.le_of_ble_eq_true rfl) (Nat.le_of_ble_eq_true rfl) ?_
                refine c_P_fails2 ?_
                refine V2_topi (fun v16 ev16 => ?_)
                refine V2_ireturn d_P_crew_50 rfl ?_
                have hb0 : (0 ≤ gas.toInt ∧ gas.toInt ≤ 9) ∧ (1 ≤ (nI p).toInt ∧ (nI p).toInt ≤ 60) ∧ 0 ≤ w.toInt ∧ w.toInt ≤ 1 := (by (try clear hQ); (try subst ev16 ev13); ((try simp only [xb_eq, xb_ne, Int32.lt_iff_toInt_lt, Int32.le_iff_toInt_le] at *) <;> (try simp only [← Int32.toInt_inj, true_and, false_and, or_false, false_or, or_true, true_or, and_true, and_false] at *) <;> omega))
                have e : k_crew F gas (nI p) w = crewK F w (bestM (okCrew (F 66) gas p) (2 ^ PN (F 66))) := (if_pos hb0).trans (by rw [kp])
                rw [e] at hQ
                rcases res_range (o := bestM (okCrew (F 66) gas p) (2 ^ PN (F 66))) (m := 64) (by omega) (fun j h => by have := ((best_is _ _).2 j h).1; have := pow_P (PN (F 66)) (by omega); omega) with ⟨eo, er⟩ | ⟨j, hj, eo, e2, er⟩
                · rw [eo] at hQ
                  subst ev16 ev13
                  exact hQ _ (mid_scr_err hR h2 (by decide))
                · exfalso
                  exact (by (try clear hQ); (try subst ev16 ev13); ((try simp only [xb_eq, xb_ne, Int32.lt_iff_toInt_lt, Int32.le_iff_toInt_le] at *) <;> (try simp only [← Int32.toInt_inj, true_and, false_and, or_false, false_or, or_true, true_or, and_true, and_false] at *) <;> omega))
theorem c_R_bitsOf_loop {L : Nat} {xs : Nat → Int32} {d : Nat} {Q : Option Value → xF → Prop} {F : xF} {s : Nat} (hs : s < 64) : ∀ (n_ : Nat) (l a : Nat), l < n_ → l < 64 → a + bits l = bits s → Q (some (.int (nI (bits s)))) F → V2 L xs d m_R_bitsOf 4 [some (.int (nI s)), some (.int (nI a)), some (.int (nI l))] [] F Q := by
  intro n_
  induction n_ with
  | zero => exact fun l a h1 => absurd h1 (by omega)
  | succ n_ ih =>
    intro l a h1 h2 h3 hQ
    refine V2_iload_n (i := 2) d_R_bitsOf_4 rfl rfl ?_
    refine V2_if_eq (tgt := 20) d_R_bitsOf_5 rfl (fun c1 => ?_) (fun c1 => ?_)
    · refine V2_iload_n (i := 1) d_R_bitsOf_20 rfl rfl ?_
      refine V2_ireturn d_R_bitsOf_21 rfl ?_
      have hl : l = 0 := (nI_eq (b := 0) (by omega) (by omega)).mp c1
      subst hl
      exact xQi hQ (congrArg nI h3) rfl
    · have hl : 0 < l := Nat.pos_of_ne_zero (fun e => c1 (by rw [e]; rfl))
      have hb := bits_and l h2 hl
      obtain ⟨v2, ev2⟩ : ∃ y : Int32, y = nI a + 1 := ⟨_, rfl⟩
      refine V2_iinc (i := 1) (v := v2) (l' := [some (.int (nI s)), some (.int v2), some (.int (nI l))]) d_R_bitsOf_8 rfl (by rw [ev2]; rfl) (xst_i (Nat.le_of_ble_eq_true rfl) rfl rfl) ?_
      refine V2_iload_n (i := 2) d_R_bitsOf_11 rfl rfl ?_
      refine V2_iload_n (i := 2) d_R_bitsOf_12 rfl rfl ?_
      refine V2_iconst (v := 1) d_R_bitsOf_13 rfl ?_
      refine V2_isub d_R_bitsOf_14 ?_
      refine V2_topi (fun v3 ev3 => ?_)
      refine V2_iand d_R_bitsOf_15 ?_
      refine V2_topi (fun v4 ev4 => ?_)
      refine V2_istore_n (i := 2) (l' := [some (.int (nI s)), some (.int v2), some (.int v4)]) d_R_bitsOf_16 rfl (xst_i (Nat.le_of_ble_eq_true rfl) rfl rfl) ?_
      refine V2_goto (tgt := 4) d_R_bitsOf_17 rfl ?_
      have ea : v2 = nI (a + 1) := by rw [ev2, nI_1]
      have el : v4 = nI (l &&& (l - 1)) := by
        subst ev4 ev3 ev2
        exact hb.1
      rw [ea, el]
      exact V2.to (ih (l &&& (l - 1)) (a + 1) (by omega) (by omega) (by omega) hQ) rfl rfl rfl rfl
theorem c_R_bitsOf {L : Nat} {xs : Nat → Int32} {d : Nat} {Q : Option Value → xF → Prop} {F : xF} {s : Nat} (hs : s < 64) (hQ : Q (some (.int (nI (bits s)))) F) : V2 L xs d m_R_bitsOf 0 (xEntry [.int (nI s)] 3) [] F Q := by
  refine V2.to (l' := [some (.int (nI s)), none, none]) ?_ rfl rfl rfl rfl
  refine V2_iconst (v := 0) d_R_bitsOf_0 rfl ?_
  refine V2_istore_n (i := 1) (l' := [some (.int (nI s)), some (.int (0 : Int32)), none]) d_R_bitsOf_1 rfl (xst_i (Nat.le_of_ble_eq_true rfl) rfl rfl) ?_
  refine V2_iload_n (i := 0) d_R_bitsOf_2 rfl rfl ?_
  refine V2_istore_n (i := 2) (l' := [some (.int (nI s)), some (.int (0 : Int32)), some (.int (nI s))]) d_R_bitsOf_3 rfl (xst_i (Nat.le_of_ble_eq_true rfl) rfl rfl) ?_
  exact V2.to (c_R_bitsOf_loop hs 65 s 0 (by omega) hs (Nat.zero_add _) hQ) rfl rfl rfl rfl
theorem c_R_crew_loop {L : Nat} {xs : Nat → Int32} {d : Nat} {Q : Option Value → xF → Prop} {F : xF} {S : Nat → Int32} {gas w : Int32} {N P K : Nat} (hi : invS S) (e66 : F 66 = S) (hN : N ≤ 60) (hP : P < 7) (eP : S 11 = nI P) (eK : K = 2 ^ P) (hK : (∀ (bst : Int32) (G : xF), (∀ a, ¬ a = 65 → ¬ a = 68 → ¬ a = 71 → ¬ a = 72 → G a = F a) → (∀ j, ¬ j = 5 → G 65 j = F 65 j) → bst = resK 0 (bestM (okCrew S gas N) K) → V2 L xs (d + 6) m_R_crew 99 [some (.ref 65), some (.int gas), some (.int (nI N)), some (.int w), some (.int bst), some (.int (nI K))] [] G Q)) : ∀ (n_ : Nat) (k m : Nat) (bst : Int32) (G : xF), k + m = K → m < n_ → (∀ a, ¬ a = 65 → ¬ a = 68 → ¬ a = 71 → ¬ a = 72 → G a = F a) → (∀ j, ¬ j = 5 → G 65 j = F 65 j) → bst = resK 0 (bestM (okCrew S gas N) k) → V2 L xs (d + 6) m_R_crew 35 [some (.ref 65), some (.int gas), some (.int (nI N)), some (.int w), some (.int bst), some (.int (nI k))] [] G Q := by
  intro n_
  induction n_ with
  | zero => exact fun k m bst G h1 h2 => absurd h2 (by omega)
  | succ n_ ih =>
    intro k m bst G h1 h2 g1 g2 eb
    have hK64 : K ≤ 64 := by rw [eK]; exact pow_P P hP
    have e6 : G 66 = S := (g1 66 (by decide) (by decide) (by decide) (by decide)).trans e66
    have e11 : G 66 11 = nI P := by rw [e6]; exact eP
    refine V2_iload (i := 5) d_R_crew_35 rfl ?_
    refine V2_iconst (v := 1) d_R_crew_37 rfl ?_
    refine V2_aload_n (i := 0) d_R_crew_38 rfl rfl ?_
    refine V2_getr (a := 66) d_R_crew_39 fl_R_7 (by decide) rfl (by decide) rfl ?_
    refine V2_bipush (v := 11) d_R_crew_42 rfl ?_
    refine V2_iaload (v := G 66 11) d_R_crew_44 (by decide) rfl (xixA (n := 11) rfl (by decide) (by decide)) rfl ?_
    refine V2_topi (fun v1 ev1 => ?_)
    refine V2_ishl d_R_crew_45 ?_
    refine V2_topi (fun v2 ev2 => ?_)
    refine V2_icmp_ge (tgt := 99) d_R_crew_46 rfl (fun c3 => ?_) (fun c3 => ?_)
    · have hm : m = 0 := by
        have h9 := c3
        subst ev2 ev1
        rw [e11, shl_P P hP, ← eK] at h9
        have := (nI_leI (by omega) (by omega)).mp h9
        omega
      have hkK : k = K := by omega
      subst hkK
      exact hK bst G g1 g2 eb
    · have hkK : k < K := by
        have h9 := c3
        subst ev2 ev1
        rw [e11, shl_P P hP, ← eK] at h9
        exact Nat.not_le.mp (fun hh => h9 ((nI_leI (by omega) (by omega)).mpr hh))
      obtain ⟨m, rfl⟩ : ∃ m2, m = m2 + 1 := ⟨m - 1, by omega⟩
      refine V2_iload (i := 4) d_R_crew_49 rfl ?_
      refine V2_iconst (v := -1) d_R_crew_51 rfl ?_
      refine V2_icmp_eq (tgt := 68) d_R_crew_52 rfl (fun c4 => ?_) (fun c4 => ?_)
      · refine V2_aload_n (i := 0) d_R_crew_68 rfl rfl ?_
        refine V2_iload (i := 5) d_R_crew_69 rfl ?_
        refine V2_put d_R_crew_71 fl_R_22 (by decide) rfl (by decide) rfl ?_
        refine V2_aload_n (i := 0) d_R_crew_74 rfl rfl ?_
        refine V2_iload_n (i := 1) d_R_crew_75 rfl rfl ?_
        refine V2_iload_n (i := 2) d_R_crew_76 rfl rfl ?_
        refine V2_callV [.int gas, .int (nI N)] d_R_crew_77 rfl rfl lk_R_209 mo_R_outBy (by decide) rfl rfl rfl (Nat.le_of_ble_eq_true rfl) (Nat.le_of_ble_eq_true rfl) ?_
        refine c_R_outBy (S := S) (M := N) (set := nI k) hi (by rw [xp_row_ne (show ¬ 66 = 65 by decide), e6]; exact like.refl _) hN (xp_same _ _ _ _) (fun G2 h2 => ?_)
        rw [xp_row_ne (show ¬ 66 = 65 by decide), e6]
        refine V2_topi (fun v5 ev5 => ?_)
        refine V2_iconst (v := -1) d_R_crew_80 rfl ?_
        refine V2_icmp_ne (tgt := 89) d_R_crew_81 rfl (fun c6 => ?_) (fun c6 => ?_)
        · refine V2_iload (i := 5) d_R_crew_89 rfl ?_
          refine V2_istore (i := 4) (l' := [some (.ref 65), some (.int gas), some (.int (nI N)), some (.int w), some (.int (nI k)), some (.int (nI k))]) d_R_crew_91 (xst_i (Nat.le_of_ble_eq_true rfl) rfl rfl) ?_
          obtain ⟨v7, ev7⟩ : ∃ y : Int32, y = nI k + 1 := ⟨_, rfl⟩
          refine V2_iinc (i := 5) (v := v7) (l' := [some (.ref 65), some (.int gas), some (.int (nI N)), some (.int w), some (.int (nI k)), some (.int v7)]) d_R_crew_93 rfl (by rw [ev7]; rfl) (xst_i (Nat.le_of_ble_eq_true rfl) rfl rfl) ?_
          refine V2_goto (tgt := 35) d_R_crew_96 rfl ?_
          have hok : okCrew S gas N k := by
            intro h0
            have h9 := c6
            subst ev7 ev5 ev2 ev1
            rw [h0] at h9
            exact h9 rfl
          have hless : ∀ b, bestM (okCrew S gas N) k = some b → bits k < bits b := (fun b hb => by
            exfalso
            have h7 := ((best_is (okCrew S gas N) k).2 b hb).1
            rw [c4, hb] at eb
            exact nI_nm1 (k := 0 + b) (by omega) eb.symm)
          rw [ev7, nI_1]
          exact V2.to (ih (k + 1) m (nI k) G2 (by omega) (by omega) (fun a b c e f => (h2 a c e f).trans ((xp_row_ne b).trans (g1 a b c e f))) (fun j hj => (congrFun (h2 65 (by decide) (by decide) (by decide)) j).trans ((xp_ne (Or.inr hj)).trans (g2 j hj))) (by rw [best_t hok hless]; exact (congrArg nI (Nat.zero_add k)).symm)) rfl rfl rfl rfl
        · refine V2_iload (i := 4) d_R_crew_84 rfl ?_
          refine V2_goto (tgt := 91) d_R_crew_86 rfl ?_
          refine V2_istore (i := 4) (l' := [some (.ref 65), some (.int gas), some (.int (nI N)), some (.int w), some (.int bst), some (.int (nI k))]) d_R_crew_91 (xst_i (Nat.le_of_ble_eq_true rfl) rfl rfl) ?_
          obtain ⟨v8, ev8⟩ : ∃ y : Int32, y = nI k + 1 := ⟨_, rfl⟩
          refine V2_iinc (i := 5) (v := v8) (l' := [some (.ref 65), some (.int gas), some (.int (nI N)), some (.int w), some (.int bst), some (.int v8)]) d_R_crew_93 rfl (by rw [ev8]; rfl) (xst_i (Nat.le_of_ble_eq_true rfl) rfl rfl) ?_
          refine V2_goto (tgt := 35) d_R_crew_96 rfl ?_
          have hok : ¬ okCrew S gas N k := by
            intro h0
            have h9 := c6
            subst ev8 ev5 ev2 ev1
            rcases resK_range (g := gas) (s := nI k) (P := PN S) (m := N) (T := S) (by omega) with ⟨e, _⟩ | ⟨j, _, _, e⟩
            · exact h0 e
            · rw [h9] at e
              have qm : (-1 : Int32).toInt = -1 := by decide
              omega
          rw [ev8, nI_1]
          exact V2.to (ih (k + 1) m bst G2 (by omega) (by omega) (fun a b c e f => (h2 a c e f).trans ((xp_row_ne b).trans (g1 a b c e f))) (fun j hj => (congrFun (h2 65 (by decide) (by decide) (by decide)) j).trans ((xp_ne (Or.inr hj)).trans (g2 j hj))) (by rw [best_f (fun hh => hok hh.1)]; exact eb)) rfl rfl rfl rfl
      · obtain ⟨b0, hb0, e0, e1⟩ : ∃ b0, b0 < 64 ∧ bestM (okCrew S gas N) k = some b0 ∧ bst = nI b0 := by
          cases hb : bestM (okCrew S gas N) k with
          | none =>
            exfalso
            apply c4
            rw [eb, hb]
            rfl
          | some b0 =>
            refine ⟨b0, ?_, rfl, ?_⟩
            · have := ((best_is (okCrew S gas N) k).2 b0 hb).1
              omega
            · rw [eb, hb]
              exact congrArg nI (Nat.zero_add b0)
        subst e1
        refine V2_iload (i := 5) d_R_crew_55 rfl ?_
        refine V2_callS [.int (nI k)] d_R_crew_57 rfl rfl lk_R_215 mo_R_bitsOf (Nat.le_of_ble_eq_true rfl) (Nat.le_of_ble_eq_true rfl) ?_
        refine c_R_bitsOf (by omega) ?_
        refine V2_iload (i := 4) d_R_crew_60 rfl ?_
        refine V2_callS [.int (nI b0)] d_R_crew_62 rfl rfl lk_R_215 mo_R_bitsOf (Nat.le_of_ble_eq_true rfl) (Nat.le_of_ble_eq_true rfl) ?_
        refine c_R_bitsOf hb0 ?_
        refine V2_icmp_ge (tgt := 93) d_R_crew_65 rfl (fun c9 => ?_) (fun c9 => ?_)
        · obtain ⟨v10, ev10⟩ : ∃ y : Int32, y = nI k + 1 := ⟨_, rfl⟩
          refine V2_iinc (i := 5) (v := v10) (l' := [some (.ref 65), some (.int gas), some (.int (nI N)), some (.int w), some (.int (nI b0)), some (.int v10)]) d_R_crew_93 rfl (by rw [ev10]; rfl) (xst_i (Nat.le_of_ble_eq_true rfl) rfl rfl) ?_
          refine V2_goto (tgt := 35) d_R_crew_96 rfl ?_
          have hn : ¬ (okCrew S gas N k ∧ ∀ b, bestM (okCrew S gas N) k = some b → bits k < bits b) := fun hh => (by
            have h8 := hh.2 b0 e0
            exact absurd (nI_lt h8 (by have := bits_6 b0 hb0; omega)) (Int32.not_lt.mpr c9))
          rw [ev10, nI_1]
          exact V2.to (ih (k + 1) m (nI b0) G (by omega) (by omega) g1 g2 (by rw [best_f hn]; exact eb)) rfl rfl rfl rfl
        · refine V2_aload_n (i := 0) d_R_crew_68 rfl rfl ?_
          refine V2_iload (i := 5) d_R_crew_69 rfl ?_
          refine V2_put d_R_crew_71 fl_R_22 (by decide) rfl (by decide) rfl ?_
          refine V2_aload_n (i := 0) d_R_crew_74 rfl rfl ?_
          refine V2_iload_n (i := 1) d_R_crew_75 rfl rfl ?_
          refine V2_iload_n (i := 2) d_R_crew_76 rfl rfl ?_
          refine V2_callV [.int gas, .int (nI N)] d_R_crew_77 rfl rfl lk_R_209 mo_R_outBy (by decide) rfl rfl rfl (Nat.le_of_ble_eq_true rfl) (Nat.le_of_ble_eq_true rfl) ?_
          refine c_R_outBy (S := S) (M := N) (set := nI k) hi (by rw [xp_row_ne (show ¬ 66 = 65 by decide), e6]; exact like.refl _) hN (xp_same _ _ _ _) (fun G2 h2 => ?_)
          rw [xp_row_ne (show ¬ 66 = 65 by decide), e6]
          refine V2_topi (fun v11 ev11 => ?_)
          refine V2_iconst (v := -1) d_R_crew_80 rfl ?_
          refine V2_icmp_ne (tgt := 89) d_R_crew_81 rfl (fun c12 => ?_) (fun c12 => ?_)
          · refine V2_iload (i := 5) d_R_crew_89 rfl ?_
            refine V2_istore (i := 4) (l' := [some (.ref 65), some (.int gas), some (.int (nI N)), some (.int w), some (.int (nI k)), some (.int (nI k))]) d_R_crew_91 (xst_i (Nat.le_of_ble_eq_true rfl) rfl rfl) ?_
            obtain ⟨v13, ev13⟩ : ∃ y : Int32, y = nI k + 1 := ⟨_, rfl⟩
            refine V2_iinc (i := 5) (v := v13) (l' := [some (.ref 65), some (.int gas), some (.int (nI N)), some (.int w), some (.int (nI k)), some (.int v13)]) d_R_crew_93 rfl (by rw [ev13]; rfl) (xst_i (Nat.le_of_ble_eq_true rfl) rfl rfl) ?_
            refine V2_goto (tgt := 35) d_R_crew_96 rfl ?_
            have hok : okCrew S gas N k := by
              intro h0
              have h9 := c12
              subst ev13 ev11 ev2 ev1
              rw [h0] at h9
              exact h9 rfl
            have hless : ∀ b, bestM (okCrew S gas N) k = some b → bits k < bits b := (fun b hb => by
              rw [e0] at hb
              cases hb
              exact (nI_ltI (by have := bits_6 k (by omega); omega) (by have := bits_6 b0 hb0; omega)).mp (Int32.not_le.mp c9))
            rw [ev13, nI_1]
            exact V2.to (ih (k + 1) m (nI k) G2 (by omega) (by omega) (fun a b c e f => (h2 a c e f).trans ((xp_row_ne b).trans (g1 a b c e f))) (fun j hj => (congrFun (h2 65 (by decide) (by decide) (by decide)) j).trans ((xp_ne (Or.inr hj)).trans (g2 j hj))) (by rw [best_t hok hless]; exact (congrArg nI (Nat.zero_add k)).symm)) rfl rfl rfl rfl
          · refine V2_iload (i := 4) d_R_crew_84 rfl ?_
            refine V2_goto (tgt := 91) d_R_crew_86 rfl ?_
            refine V2_istore (i := 4) (l' := [some (.ref 65), some (.int gas), some (.int (nI N)), some (.int w), some (.int (nI b0)), some (.int (nI k))]) d_R_crew_91 (xst_i (Nat.le_of_ble_eq_true rfl) rfl rfl) ?_
            obtain ⟨v14, ev14⟩ : ∃ y : Int32, y = nI k + 1 := ⟨_, rfl⟩
            refine V2_iinc (i := 5) (v := v14) (l' := [some (.ref 65), some (.int gas), some (.int (nI N)), some (.int w), some (.int (nI b0)), some (.int v14)]) d_R_crew_93 rfl (by rw [ev14]; rfl) (xst_i (Nat.le_of_ble_eq_true rfl) rfl rfl) ?_
            refine V2_goto (tgt := 35) d_R_crew_96 rfl ?_
            have hok : ¬ okCrew S gas N k := by
              intro h0
              have h9 := c12
              subst ev14 ev11 ev2 ev1
              rcases resK_range (g := gas) (s := nI k) (P := PN S) (m := N) (T := S) (by omega) with ⟨e, _⟩ | ⟨j, _, _, e⟩
              · exact h0 e
              · rw [h9] at e
                have qm : (-1 : Int32).toInt = -1 := by decide
                omega
            rw [ev14, nI_1]
            exact V2.to (ih (k + 1) m (nI b0) G2 (by omega) (by omega) (fun a b c e f => (h2 a c e f).trans ((xp_row_ne b).trans (g1 a b c e f))) (fun j hj => (congrFun (h2 65 (by decide) (by decide) (by decide)) j).trans ((xp_ne (Or.inr hj)).trans (g2 j hj))) (by rw [best_f (fun hh => hok hh.1)]; exact eb)) rfl rfl rfl rfl
theorem c_R_crew_end {L : Nat} {xs : Nat → Int32} {d : Nat} {Q : Option Value → xF → Prop} {F : xF} {G : xF} {S : Nat → Int32} {gas w bst : Int32} {N K : Nat} (hK64 : K ≤ 64) (e63 : F 65 5 = 63) (g1 : ∀ a, ¬ a = 65 → ¬ a = 68 → ¬ a = 71 → ¬ a = 72 → G a = F a) (g2 : ∀ j, ¬ j = 5 → G 65 j = F 65 j) (eb : bst = resK 0 (bestM (okCrew S gas N) K)) (hE : bestM (okCrew S gas N) K = none → ∀ G2 : xF, scrM F G2 → Q (some (.int (-1000000000 - 2))) (xp G2 69 2 (G2 69 2 + 1))) (hY : ∀ b0, bestM (okCrew S gas N) K = some b0 → ∀ G2 : xF, scrM F G2 → Q (some (.int (if w.toInt = 0 then nI (bits b0) else nI b0))) G2) : V2 L xs (d + 6) m_R_crew 99 ([some (.ref 65), some (.int gas), some (.int (nI N)), some (.int w), some (.int bst), some (.int (nI K))]) [] G Q := by
  refine V2_aload_n (i := 0) d_R_crew_99 rfl rfl ?_
  refine V2_bipush (v := 63) d_R_crew_100 rfl ?_
  refine V2_put d_R_crew_102 fl_R_22 (by decide) rfl (by decide) rfl ?_
  refine V2_iload (i := 4) d_R_crew_105 rfl ?_
  refine V2_iconst (v := -1) d_R_crew_107 rfl ?_
  refine V2_icmp_ne (tgt := 117) d_R_crew_108 rfl (fun c1 => ?_) (fun c1 => ?_)
  · obtain ⟨b0, hb0, e0, e1⟩ : ∃ b0, b0 < 64 ∧ bestM (okCrew S gas N) K = some b0 ∧ bst = nI b0 := by
      cases hb : bestM (okCrew S gas N) K with
      | none =>
        exfalso
        apply c1
        rw [eb, hb]
        rfl
      | some b0 =>
        refine ⟨b0, ?_, rfl, ?_⟩
        · have := ((best_is (okCrew S gas N) K).2 b0 hb).1
          omega
        · rw [eb, hb]
          exact congrArg nI (Nat.zero_add b0)
    subst e1
    refine V2_iload_n (i := 3) d_R_crew_117 rfl rfl ?_
    refine V2_if_ne (tgt := 129) d_R_crew_118 rfl (fun c2 => ?_) (fun c2 => ?_)
    · refine V2_iload (i := 4) d_R_crew_129 rfl ?_
      refine V2_ireturn d_R_crew_131 rfl ?_
      have hsc : scrM F (xp G 65 5 63) := fun a h1 h2 h3 => (by
        by_cases h6 : a = 65
        · subst h6
          rw [xp_at]
          funext j
          by_cases hj : j = 5
          · subst hj
            rw [upd_same, e63]
          · rw [upd_ne hj]
            exact g2 j hj
        · rw [xp_row_ne h6]
          exact g1 a h6 h1 h2 h3)
      have hw : ¬ w.toInt = 0 := fun hh => c2 (Int32.toInt_inj.mp (hh.trans (by decide)))
      exact xQi (hY b0 e0 _ hsc) (if_neg hw).symm rfl
    · refine V2_iload (i := 4) d_R_crew_121 rfl ?_
      refine V2_callS [.int (nI b0)] d_R_crew_123 rfl rfl lk_R_215 mo_R_bitsOf (Nat.le_of_ble_eq_true rfl) (Nat.le_of_ble_eq_true rfl) ?_
      refine c_R_bitsOf hb0 ?_
      refine V2_goto (tgt := 131) d_R_crew_126 rfl ?_
      refine V2_ireturn d_R_crew_131 rfl ?_
      have hsc : scrM F (xp G 65 5 63) := fun a h1 h2 h3 => (by
        by_cases h6 : a = 65
        · subst h6
          rw [xp_at]
          funext j
          by_cases hj : j = 5
          · subst hj
            rw [upd_same, e63]
          · rw [upd_ne hj]
            exact g2 j hj
        · rw [xp_row_ne h6]
          exact g1 a h6 h1 h2 h3)
      have hw : w.toInt = 0 := by rw [c2]; decide
      exact xQi (hY b0 e0 _ hsc) (if_pos hw).symm rfl
  · refine V2_aload_n (i := 0) d_R_crew_111 rfl rfl ?_
    refine V2_iconst (v := 2) d_R_crew_112 rfl ?_
    refine V2_callV [.int (2 : Int32)] d_R_crew_113 rfl rfl lk_R_55 mo_R_error (by decide) rfl rfl rfl (Nat.le_of_ble_eq_true rfl) (Nat.le_of_ble_eq_true rfl) ?_
    refine c_R_error2 ?_
    refine V2_topi (fun v3 ev3 => ?_)
    refine V2_ireturn d_R_crew_116 rfl ?_
    have hsc : scrM F (xp G 65 5 63) := fun a h1 h2 h3 => (by
      by_cases h6 : a = 65
      · subst h6
        rw [xp_at]
        funext j
        by_cases hj : j = 5
        · subst hj
          rw [upd_same, e63]
        · rw [upd_ne hj]
          exact g2 j hj
      · rw [xp_row_ne h6]
        exact g1 a h6 h1 h2 h3)
    have hn : bestM (okCrew S gas N) K = none := by
      cases hb : bestM (okCrew S gas N) K with
      | none => rfl
      | some b0 =>
        exfalso
        have := ((best_is (okCrew S gas N) K).2 b0 hb).1
        rw [eb, hb] at c1
        exact nI_nm1 (k := 0 + b0) (by omega) c1
    subst ev3
    exact hE hn _ hsc
theorem c_mod_crew {L : Nat} {xs : Nat → Int32} {d : Nat} {Q : Option Value → xF → Prop} {F : xF} {gas n w : Int32} {F0 : xF} (hR : Rel F0) (hM : Mid F0 F (k_crew F0 gas n w).2) (hQ : ∀ F2, Rel F2 → Q (some (.int (k_crew F0 gas n w).1)) F2) : V2 L xs (d + 6) m_R_crew 0 (xEntry [.ref 65, .int gas, .int n, .int w] 6) [] F Q := by
  have q0 : (0 : Int32).toInt = 0 := by decide
  have q1 : (1 : Int32).toInt = 1 := by decide
  have q2 : (2 : Int32).toInt = 2 := by decide
  have q3 : (3 : Int32).toInt = 3 := by decide
  have q4 : (4 : Int32).toInt = 4 := by decide
  have q5 : (5 : Int32).toInt = 5 := by decide
  have q6 : (6 : Int32).toInt = 6 := by decide
  have q7 : (7 : Int32).toInt = 7 := by decide
  have q8 : (8 : Int32).toInt = 8 := by decide
  have q9 : (9 : Int32).toInt = 9 := by decide
  have q10 : (10 : Int32).toInt = 10 := by decide
  have q12 : (12 : Int32).toInt = 12 := by decide
  have q16 : (16 : Int32).toInt = 16 := by decide
  have q20 : (20 : Int32).toInt = 20 := by decide
  have q24 : (24 : Int32).toInt = 24 := by decide
  have q30 : (30 : Int32).toInt = 30 := by decide
  have q32 : (32 : Int32).toInt = 32 := by decide
  have q40 : (40 : Int32).toInt = 40 := by decide
  have q60 : (60 : Int32).toInt = 60 := by decide
  have q69 : (69 : Int32).toInt = 69 := by decide
  have q99 : (99 : Int32).toInt = 99 := by decide
  have q9999 : (9999 : Int32).toInt = 9999 := by decide
  have q274 : (274 : Int32).toInt = 274 := by decide
  have q334 : (334 : Int32).toInt = 334 := by decide
  have e66 : F 66 = F0 66 := hM.1 66 (by decide)
  obtain ⟨eP, hP6⟩ := inv_PN hR.2.1.2.2.1
  have e63 : F 65 5 = 63 := (congrFun (hM.1 65 (by decide)) 5).trans hR.2.2.2.1
  refine V2.to (l' := [some (.ref 65), some (.int gas), some (.int n), some (.int w), none, none]) ?_ rfl rfl rfl rfl
  refine V2_iload_n (i := 1) d_R_crew_0 rfl rfl ?_
  refine V2_callS [.int gas] d_R_crew_1 rfl rfl lk_R_181 mo_R_isGas (Nat.le_of_ble_eq_true rfl) (Nat.le_of_ble_eq_true rfl) ?_
  refine c_R_isGas ?_
  refine V2_topi (fun v1 ev1 => ?_)
  refine V2_if_eq (tgt := 23) d_R_crew_4 rfl (fun c2 => ?_) (fun c2 => ?_)
  · refine V2_aload_n (i := 0) d_R_crew_23 rfl rfl ?_
    refine V2_iconst (v := 1) d_R_crew_24 rfl ?_
    refine V2_callV [.int (1 : Int32)] d_R_crew_25 rfl rfl lk_R_55 mo_R_error (by decide) rfl rfl rfl (Nat.le_of_ble_eq_true rfl) (Nat.le_of_ble_eq_true rfl) ?_
    refine c_R_error1 ?_
    refine V2_topi (fun v3 ev3 => ?_)
    refine V2_ireturn d_R_crew_28 rfl ?_
    have hb0 : ¬ ((0 ≤ gas.toInt ∧ gas.toInt ≤ 9) ∧ (1 ≤ n.toInt ∧ n.toInt ≤ 60) ∧ 0 ≤ w.toInt ∧ w.toInt ≤ 1) := (by (try clear hQ); (try subst ev3 ev1); ((try simp only [xb_eq, xb_ne, Int32.lt_iff_toInt_lt, Int32.le_iff_toInt_le] at *) <;> (try simp only [← Int32.toInt_inj, true_and, false_and, or_false, false_or, or_true, true_or, and_true, and_false] at *) <;> omega))
    have e : k_crew F0 gas n w = (-1000000000 - 1, errF F0 1) := if_neg hb0
    rw [e] at hQ hM
    subst ev3 ev1
    exact xQi (hQ _ (rel_err hR hM)) rfl rfl
  · refine V2_iload_n (i := 2) d_R_crew_7 rfl rfl ?_
    refine V2_callS [.int n] d_R_crew_8 rfl rfl lk_R_212 mo_R_isTime (Nat.le_of_ble_eq_true rfl) (Nat.le_of_ble_eq_true rfl) ?_
    refine c_R_isTime ?_
    refine V2_topi (fun v4 ev4 => ?_)
    refine V2_if_eq (tgt := 23) d_R_crew_11 rfl (fun c5 => ?_) (fun c5 => ?_)
    · refine V2_aload_n (i := 0) d_R_crew_23 rfl rfl ?_
      refine V2_iconst (v := 1) d_R_crew_24 rfl ?_
      refine V2_callV [.int (1 : Int32)] d_R_crew_25 rfl rfl lk_R_55 mo_R_error (by decide) rfl rfl rfl (Nat.le_of_ble_eq_true rfl) (Nat.le_of_ble_eq_true rfl) ?_
      refine c_R_error1 ?_
      refine V2_topi (fun v6 ev6 => ?_)
      refine V2_ireturn d_R_crew_28 rfl ?_
      have hb0 : ¬ ((0 ≤ gas.toInt ∧ gas.toInt ≤ 9) ∧ (1 ≤ n.toInt ∧ n.toInt ≤ 60) ∧ 0 ≤ w.toInt ∧ w.toInt ≤ 1) := (by (try clear hQ); (try subst ev6 ev4 ev1); ((try simp only [xb_eq, xb_ne, Int32.lt_iff_toInt_lt, Int32.le_iff_toInt_le] at *) <;> (try simp only [← Int32.toInt_inj, true_and, false_and, or_false, false_or, or_true, true_or, and_true, and_false] at *) <;> omega))
      have e : k_crew F0 gas n w = (-1000000000 - 1, errF F0 1) := if_neg hb0
      rw [e] at hQ hM
      subst ev6 ev4 ev1
      exact xQi (hQ _ (rel_err hR hM)) rfl rfl
    · refine V2_iload_n (i := 3) d_R_crew_14 rfl rfl ?_
      refine V2_iconst (v := 0) d_R_crew_15 rfl ?_
      refine V2_iconst (v := 1) d_R_crew_16 rfl ?_
      refine V2_callS [.int w, .int (0 : Int32), .int (1 : Int32)] d_R_crew_17 rfl rfl lk_R_51 mo_R_in (Nat.le_of_ble_eq_true rfl) (Nat.le_of_ble_eq_true rfl) ?_
      refine c_R_in ?_
      refine V2_topi (fun v7 ev7 => ?_)
      refine V2_if_ne (tgt := 29) d_R_crew_20 rfl (fun c8 => ?_) (fun c8 => ?_)
      · obtain ⟨p, hp, epp⟩ := in_of (x := n) (P := 61) (by (try clear hQ); (try subst ev7 ev4 ev1); ((try simp only [xb_eq, xb_ne, Int32.lt_iff_toInt_lt, Int32.le_iff_toInt_le] at *) <;> (try simp only [← Int32.toInt_inj, true_and, false_and, or_false, false_or, or_true, true_or, and_true, and_false] at *) <;> omega)) (by (try clear hQ); (try subst ev7 ev4 ev1); ((try simp only [xb_eq, xb_ne, Int32.lt_iff_toInt_lt, Int32.le_iff_toInt_le] at *) <;> (try simp only [← Int32.toInt_inj, true_and, false_and, or_false, false_or, or_true, true_or, and_true, and_false] at *) <;> omega)) (by omega)
        subst epp
        have np : (nI p).toInt = (p : Int) := nI_toInt (by omega)
        have kp : (nI p).toNatClampNeg = p := nI_clamp (by omega)
        refine V2_iconst (v := -1) d_R_crew_29 rfl ?_
        refine V2_istore (i := 4) (l' := [some (.ref 65), some (.int gas), some (.int (nI p)), some (.int w), some (.int (-1 : Int32)), none]) d_R_crew_30 (xst_i (Nat.le_of_ble_eq_true rfl) rfl rfl) ?_
        refine V2_iconst (v := 0) d_R_crew_32 rfl ?_
        refine V2_istore (i := 5) (l' := [some (.ref 65), some (.int gas), some (.int (nI p)), some (.int w), some (.int (-1 : Int32)), some (.int (0 : Int32))]) d_R_crew_33 (xst_i (Nat.le_of_ble_eq_true rfl) rfl rfl) ?_
        have hb0 : (0 ≤ gas.toInt ∧ gas.toInt ≤ 9) ∧ (1 ≤ (nI p).toInt ∧ (nI p).toInt ≤ 60) ∧ 0 ≤ w.toInt ∧ w.toInt ≤ 1 := (by (try clear hQ); (try subst ev7 ev4 ev1); ((try simp only [xb_eq, xb_ne, Int32.lt_iff_toInt_lt, Int32.le_iff_toInt_le] at *) <;> (try simp only [← Int32.toInt_inj, true_and, false_and, or_false, false_or, or_true, true_or, and_true, and_false] at *) <;> omega))
        have e : k_crew F0 gas (nI p) w = crewK F0 w (bestM (okCrew (F0 66) gas p) (2 ^ PN (F0 66))) := (if_pos hb0).trans (by rw [kp])
        rw [e] at hQ hM
        refine V2.to (c_R_crew_loop (F := F) (S := F0 66) (gas := gas) (w := w) (N := p) hR.2.1 e66 (by omega) (by omega) eP rfl (fun bst G g1 g2 eb => c_R_crew_end (F := F) (pow_P _ (by omega)) e63 g1 g2 eb (fun e G2 h2 => ?_) (fun b0 e G2 h2 => ?_)) (2 ^ PN (F0 66) + 1) 0 (2 ^ PN (F0 66)) (-1) F (by omega) (by omega) (fun a _ _ _ _ => rfl) (fun j _ => rfl) rfl) rfl rfl rfl rfl
        · rw [e] at hQ hM
          exact hQ _ (rel_scr_err hR hM h2)
        · rw [e] at hQ hM
          exact hQ _ (rel_scr hR hM h2)
      · refine V2_aload_n (i := 0) d_R_crew_23 rfl rfl ?_
        refine V2_iconst (v := 1) d_R_crew_24 rfl ?_
        refine V2_callV [.int (1 : Int32)] d_R_crew_25 rfl rfl lk_R_55 mo_R_error (by decide) rfl rfl rfl (Nat.le_of_ble_eq_true rfl) (Nat.le_of_ble_eq_true rfl) ?_
        refine c_R_error1 ?_
        refine V2_topi (fun v9 ev9 => ?_)
        refine V2_ireturn d_R_crew_28 rfl ?_
        have hb0 : ¬ ((0 ≤ gas.toInt ∧ gas.toInt ≤ 9) ∧ (1 ≤ n.toInt ∧ n.toInt ≤ 60) ∧ 0 ≤ w.toInt ∧ w.toInt ≤ 1) := (by (try clear hQ); (try subst ev9 ev7 ev4 ev1); ((try simp only [xb_eq, xb_ne, Int32.lt_iff_toInt_lt, Int32.le_iff_toInt_le] at *) <;> (try simp only [← Int32.toInt_inj, true_and, false_and, or_false, false_or, or_true, true_or, and_true, and_false] at *) <;> omega))
        have e : k_crew F0 gas n w = (-1000000000 - 1, errF F0 1) := if_neg hb0
        rw [e] at hQ hM
        subst ev9 ev7 ev4 ev1
        exact xQi (hQ _ (rel_err hR hM)) rfl rfl
