/-! least, strokes, judge -/
/-- the first from k on, m at most, that is so -/
noncomputable def firstN (ok : Nat → Prop) : Nat → Nat → Option Nat
  | 0, _ => none
  | m + 1, k => @ite _ (ok k) (Classical.propDecidable _) (some k) (firstN ok m (k + 1))
theorem first_t {ok : Nat → Prop} {m k : Nat} (h : ok k) : firstN ok (m + 1) k = some k := if_pos h
theorem first_f {ok : Nat → Prop} {m k : Nat} (h : ¬ ok k) : firstN ok (m + 1) k = firstN ok m (k + 1) := if_neg h
theorem first_le {ok : Nat → Prop} : ∀ (m k j : Nat), firstN ok m k = some j → j < m + k := by
  intro m
  induction m with
  | zero => intro k j h; cases h
  | succ m ih =>
    intro k j h
    by_cases hk : ok k
    · rw [first_t hk] at h
      cases h
      omega
    · rw [first_f hk] at h
      have := ih (k + 1) j h
      omega
/-- what an answer says of an option -/
theorem res_range {o : Option Nat} {m : Nat} (hm : m ≤ 1000) (h : ∀ j, o = some j → j ≤ m) : (o = none ∧ (resK 0 o).toInt = -1) ∨ (∃ j, j ≤ m ∧ o = some j ∧ resK 0 o = nI j ∧ (resK 0 o).toInt = (j : Int)) := by
  cases o with
  | none => exact Or.inl ⟨rfl, by decide⟩
  | some j =>
    have hj := h j rfl
    have e : resK 0 (some j) = nI j := congrArg nI (Nat.zero_add j)
    refine Or.inr ⟨j, hj, rfl, e, ?_⟩
    rw [e, nI_toInt (by omega)]
/-- told as an error or as it is -/
noncomputable def orErr (F : xF) (o : Option Nat) : Int32 × xF := if (resK 0 o).toInt < 0 then (-1000000000 - 2, errF F 2) else (resK 0 o, F)
theorem orErr_n {F : xF} : orErr F none = (-1000000000 - 2, errF F 2) := if_pos (by decide)
theorem orErr_s {F : xF} {j : Nat} (h : j ≤ 1000) : orErr F (some j) = (nI j, F) := by
  have e : resK 0 (some j) = nI j := congrArg nI (Nat.zero_add j)
  unfold orErr
  rw [e, if_neg (by rw [nI_toInt (by omega)]; omega)]
def okLeast (S : Nat → Int32) (k : Nat) : Prop := ¬ outN (nI k) 63 (PN S) 60 S = none
noncomputable def k_least (F : xF) : Int32 × xF := orErr F (firstN (okLeast (F 66)) 10 0)
theorem nI_g {k : Nat} (h : k < 10) : 0 ≤ (nI k).toInt ∧ (nI k).toInt ≤ 9 := by
  rw [nI_toInt (by omega)]
  omega
theorem scrC.trans {F G H : xF} (h1 : scrC F G) (h2 : scrC G H) : scrC F H := fun a b c e => (h2 a b c e).trans (h1 a b c e)
theorem scrM.trans {F G H : xF} (h1 : scrM F G) (h2 : scrM G H) : scrM F H := fun a b c e => (h2 a b c e).trans (h1 a b c e)
theorem scrM.refl (F : xF) : scrM F F := fun _ _ _ _ => rfl
theorem c_P_tillOutW {L : Nat} {xs : Nat → Int32} {d : Nat} {Q : Option Value → xF → Prop} {G : xF} {F : xF} {S : Nat → Int32} {gas : Int32} (h : relW F 1 S) (hi : invS S) (hG : scrC F G) (hg : 0 ≤ gas.toInt ∧ gas.toInt ≤ 9) (hQ : ∀ G2 : xF, scrC F G2 → Q (some (.int (resK 0 (outN gas 63 (PN S) 60 S)))) G2) : V2 L xs (d + 8) m_P_swingsTillOut 0 (xEntry [.ref 0, .int gas] 2) [] G Q := by
  refine V2.to (l' := [some (.ref 0), some (.int gas)]) ?_ rfl rfl rfl rfl
  refine V2_aload_n (i := 0) d_P_swingsTillOut_0 rfl rfl ?_
  refine V2_getr (a := 35) d_P_swingsTillOut_1 fl_P_22 (by decide) rfl (by decide) rfl ?_
  refine V2_aload_n (i := 0) d_P_swingsTillOut_4 rfl rfl ?_
  refine V2_getr (a := 1) d_P_swingsTillOut_5 fl_P_10 (by decide) rfl (by decide) rfl ?_
  refine V2_getr (a := 2) d_P_swingsTillOut_8 fl_P_93 (by decide) rfl (by decide) rfl ?_
  refine V2_callV [.ref 2] d_P_swingsTillOut_11 rfl rfl lk_P_227 mo_Car_copyFrom (by decide) rfl rfl rfl (Nat.le_of_ble_eq_true rfl) (Nat.le_of_ble_eq_true rfl) ?_
  refine c_Car_copy_35_2 (by rw [show G 2 7 = S 5 from (congrFun (hG 2 (by decide) (by decide) (by decide)) 7).trans h.1.2.2.2.2.2.2.2]; exact hi.1.2.2.2.2.2.1) (fun H p0 g0 => ?_)
  refine V2_aload_n (i := 0) d_P_swingsTillOut_14 rfl rfl ?_
  refine V2_getr (a := 1) d_P_swingsTillOut_15 fl_P_10 (by decide) rfl (by decide) rfl ?_
  refine V2_aload_n (i := 0) d_P_swingsTillOut_18 rfl rfl ?_
  refine V2_getr (a := 35) d_P_swingsTillOut_19 fl_P_22 (by decide) rfl (by decide) rfl ?_
  refine V2_iload_n (i := 1) d_P_swingsTillOut_22 rfl rfl ?_
  refine V2_bipush (v := 60) d_P_swingsTillOut_23 rfl ?_
  refine V2_bipush (v := 63) d_P_swingsTillOut_25 rfl ?_
  refine V2_callV [.ref 35, .int gas, .int (60 : Int32), .int (63 : Int32)] d_P_swingsTillOut_27 rfl rfl lk_P_265 mo_World_swingsTillOut (by decide) rfl rfl rfl (Nat.le_of_ble_eq_true rfl) (Nat.le_of_ble_eq_true rfl) ?_
  refine c_World_tillOut (M := 60) h hi (by decide) hg (hG.car g0) (relCr_row (relCr_c h.1 (hG 2 (by decide) (by decide) (by decide)) (fun _ _ => rfl)) p0) (like.refl _) hi.1 (fun G2 h2 => ?_)
  refine V2_topi (fun v1 ev1 => ?_)
  refine V2_ireturn d_P_swingsTillOut_30 rfl ?_
  subst ev1
  exact hQ G2 h2
theorem c_tillOutG {L : Nat} {xs : Nat → Int32} {d : Nat} {Q : Option Value → xF → Prop} {F G : xF} {S : Nat → Int32} {gas : Int32} (h : relW F 1 S) (hi : invS S) (hG : scrC F G) (hg : 0 ≤ gas.toInt ∧ gas.toInt ≤ 9) (hQ : ∀ G2 : xF, scrC F G2 → Q (some (.int (resK 0 (outN gas 63 (PN S) 60 S)))) G2) : V2 L xs (d + 8) m_P_swingsTillOut 0 (xEntry [.ref 0, .int gas] 2) [] G Q :=
  c_P_tillOutW h hi hG hg hQ
theorem c_P_least_loop {L : Nat} {xs : Nat → Int32} {d : Nat} {Q : Option Value → xF → Prop} {F : xF} {S : Nat → Int32} (h : relW F 1 S) (hi : invS S) : ∀ (n_ : Nat) (k m : Nat) (G : xF), k + m = 10 → m < n_ → scrC F G → (firstN (okLeast S) m k = none → ∀ G2 : xF, scrC F G2 → Q (some (.int (-1000000000 - 2))) (xp G2 56 2 (G2 56 2 + 1))) → (∀ j, j < 10 → firstN (okLeast S) m k = some j → ∀ G2 : xF, scrC F G2 → Q (some (.int (nI j))) G2) → V2 L xs (d + 9) m_P_least 2 [some (.ref 0), some (.int (nI k))] [] G Q := by
  intro n_
  induction n_ with
  | zero => exact fun k m G h1 h2 => absurd h2 (by omega)
  | succ n_ ih =>
    intro k m G h1 h2 g1 hE hY
    refine V2_iload_n (i := 1) d_P_least_2 rfl rfl ?_
    refine V2_bipush (v := 9) d_P_least_3 rfl ?_
    refine V2_icmp_gt (tgt := 24) d_P_least_5 rfl (fun c1 => ?_) (fun c1 => ?_)
    · refine V2_aload_n (i := 0) d_P_least_24 rfl rfl ?_
      refine V2_iconst (v := 2) d_P_least_25 rfl ?_
      refine V2_callV [.int (2 : Int32)] d_P_least_26 rfl rfl lk_P_66 mo_P_fails (by decide) rfl rfl rfl (Nat.le_of_ble_eq_true rfl) (Nat.le_of_ble_eq_true rfl) ?_
      refine c_P_fails2 ?_
      refine V2_topi (fun v2 ev2 => ?_)
      refine V2_ireturn d_P_least_29 rfl ?_
      have hm : m = 0 := by
        have h9 := c1
        have := (nI_ltI (a := 9) (b := k) (by omega) (by omega)).mp h9
        omega
      subst hm
      subst ev2
      exact hE rfl G g1
    · have hk10 : k < 10 := by
        have h9 := c1
        have : ¬ 9 < k := fun hh => h9 ((nI_ltI (a := 9) (b := k) (by omega) (by omega)).mpr hh)
        omega
      obtain ⟨m, rfl⟩ : ∃ m2, m = m2 + 1 := ⟨m - 1, by omega⟩
      refine V2_aload_n (i := 0) d_P_least_8 rfl rfl ?_
      refine V2_iload_n (i := 1) d_P_least_9 rfl rfl ?_
      refine V2_callV [.int (nI k)] d_P_least_10 rfl rfl lk_P_254 mo_P_swingsTillOut (by decide) rfl rfl rfl (Nat.le_of_ble_eq_true rfl) (Nat.le_of_ble_eq_true rfl) ?_
      refine c_tillOutG h hi g1 (nI_g hk10) (fun G2 h2 => ?_)
      refine V2_topi (fun v3 ev3 => ?_)
      refine V2_if_lt (tgt := 18) d_P_least_13 rfl (fun c4 => ?_) (fun c4 => ?_)
      · obtain ⟨v5, ev5⟩ : ∃ y : Int32, y = nI k + 1 := ⟨_, rfl⟩
        refine V2_iinc (i := 1) (v := v5) (l' := [some (.ref 0), some (.int v5)]) d_P_least_18 rfl (by rw [ev5]; rfl) (xst_r (Nat.le_of_ble_eq_true rfl) rfl rfl) ?_
        refine V2_goto (tgt := 2) d_P_least_21 rfl ?_
        have hok : ¬ okLeast S k := by
          intro h0
          have h9 := c4
          subst ev5 ev3
          rcases resK_range (g := nI k) (s := 63) (P := PN S) (m := 60) (T := S) (by omega) with ⟨e, _⟩ | ⟨j, _, _, e⟩
          · exact h0 e
          · rw [toI_lt, e] at h9
            have q0 : (0 : Int32).toInt = 0 := by decide
            omega
        rw [first_f hok] at hY
        rw [ev5, nI_1]
        exact V2.to (ih (k + 1) m G2 (by omega) (by omega) h2 (fun e => hE (by rw [first_f hok]; exact e)) hY) rfl rfl rfl rfl
      · refine V2_iload_n (i := 1) d_P_least_16 rfl rfl ?_
        refine V2_ireturn d_P_least_17 rfl ?_
        have hok : okLeast S k := by
          intro h0
          have h9 := c4
          subst ev3
          rw [h0] at h9
          exact h9 (by decide)
        exact hY k hk10 (first_t hok) G2 h2
theorem c_cls_least {L : Nat} {xs : Nat → Int32} {d : Nat} {Q : Option Value → xF → Prop} {F : xF}  (hR : Rel F) (hQ : ∀ F1, Mid F F1 (k_least F).2 → Q (some (.int (k_least F).1)) F1) : V2 L xs (d + 9) m_P_least 0 (xEntry [.ref 0] 2) [] F Q := by
  refine V2.to (l' := [some (.ref 0), none]) ?_ rfl rfl rfl rfl
  refine V2_iconst (v := 0) d_P_least_0 rfl ?_
  refine V2_istore_n (i := 1) (l' := [some (.ref 0), some (.int (0 : Int32))]) d_P_least_1 rfl (xst_r (Nat.le_of_ble_eq_true rfl) rfl rfl) ?_
  refine V2.to (c_P_least_loop (F := F) hR.1.1 hR.2.1 11 0 10 F (by omega) (by omega) (scrC.refl F) (fun e G2 h2 => ?_) (fun j hj e G2 h2 => ?_)) rfl rfl rfl rfl
  · have e9 : k_least F = (-1000000000 - 2, errF F 2) := by
      unfold k_least
      rw [e, orErr_n]
    rw [e9] at hQ
    exact hQ _ (mid_scr_err hR h2 (by decide))
  · have e9 : k_least F = (nI j, F) := by
      unfold k_least
      rw [e, orErr_s (by omega)]
    rw [e9] at hQ
    exact hQ _ (mid_scr hR h2)
theorem c_R_least_loop {L : Nat} {xs : Nat → Int32} {d : Nat} {Q : Option Value → xF → Prop} {F : xF} {S : Nat → Int32} (hi : invS S) (e66 : F 66 = S) (e65 : F 65 5 = 63) : ∀ (n_ : Nat) (k m : Nat) (G : xF), k + m = 10 → m < n_ → scrM F G → (firstN (okLeast S) m k = none → ∀ G2 : xF, scrM F G2 → Q (some (.int (-1000000000 - 2))) (xp G2 69 2 (G2 69 2 + 1))) → (∀ j, j < 10 → firstN (okLeast S) m k = some j → ∀ G2 : xF, scrM F G2 → Q (some (.int (nI j))) G2) → V2 L xs (d + 6) m_R_least 2 [some (.ref 65), some (.int (nI k))] [] G Q := by
  intro n_
  induction n_ with
  | zero => exact fun k m G h1 h2 => absurd h2 (by omega)
  | succ n_ ih =>
    intro k m G h1 h2 g1 hE hY
    have e6 : G 66 = S := (g1 66 (by decide) (by decide) (by decide)).trans e66
    refine V2_iload_n (i := 1) d_R_least_2 rfl rfl ?_
    refine V2_bipush (v := 9) d_R_least_3 rfl ?_
    refine V2_icmp_gt (tgt := 27) d_R_least_5 rfl (fun c1 => ?_) (fun c1 => ?_)
    · refine V2_aload_n (i := 0) d_R_least_27 rfl rfl ?_
      refine V2_iconst (v := 2) d_R_least_28 rfl ?_
      refine V2_callV [.int (2 : Int32)] d_R_least_29 rfl rfl lk_R_55 mo_R_error (by decide) rfl rfl rfl (Nat.le_of_ble_eq_true rfl) (Nat.le_of_ble_eq_true rfl) ?_
      refine c_R_error2 ?_
      refine V2_topi (fun v2 ev2 => ?_)
      refine V2_ireturn d_R_least_32 rfl ?_
      have hm : m = 0 := by
        have h9 := c1
        have := (nI_ltI (a := 9) (b := k) (by omega) (by omega)).mp h9
        omega
      subst hm
      subst ev2
      exact hE rfl G g1
    · have hk10 : k < 10 := by
        have h9 := c1
        have : ¬ 9 < k := fun hh => h9 ((nI_ltI (a := 9) (b := k) (by omega) (by omega)).mpr hh)
        omega
      obtain ⟨m, rfl⟩ : ∃ m2, m = m2 + 1 := ⟨m - 1, by omega⟩
      refine V2_aload_n (i := 0) d_R_least_8 rfl rfl ?_
      refine V2_iload_n (i := 1) d_R_least_9 rfl rfl ?_
      refine V2_bipush (v := 60) d_R_least_10 rfl ?_
      refine V2_callV [.int (nI k), .int (60 : Int32)] d_R_least_12 rfl rfl lk_R_209 mo_R_outBy (by decide) rfl rfl rfl (Nat.le_of_ble_eq_true rfl) (Nat.le_of_ble_eq_true rfl) ?_
      refine c_R_outBy (S := S) (M := 60) (set := 63) hi (by rw [e6]; exact like.refl _) (by decide) ((congrFun (g1 65 (by decide) (by decide) (by decide)) 5).trans e65) (fun G2 h2 => ?_)
      rw [e6]
      refine V2_topi (fun v3 ev3 => ?_)
      refine V2_iconst (v := -1) d_R_least_15 rfl ?_
      refine V2_icmp_eq (tgt := 21) d_R_least_16 rfl (fun c4 => ?_) (fun c4 => ?_)
      · obtain ⟨v5, ev5⟩ : ∃ y : Int32, y = nI k + 1 := ⟨_, rfl⟩
        refine V2_iinc (i := 1) (v := v5) (l' := [some (.ref 65), some (.int v5)]) d_R_least_21 rfl (by rw [ev5]; rfl) (xst_r (Nat.le_of_ble_eq_true rfl) rfl rfl) ?_
        refine V2_goto (tgt := 2) d_R_least_24 rfl ?_
        have hok : ¬ okLeast S k := by
          intro h0
          have h9 := c4
          subst ev5 ev3
          rcases resK_range (g := nI k) (s := 63) (P := PN S) (m := 60) (T := S) (by omega) with ⟨e, _⟩ | ⟨j, _, _, e⟩
          · exact h0 e
          · rw [h9] at e
            have qm : (-1 : Int32).toInt = -1 := by decide
            omega
        rw [first_f hok] at hY
        rw [ev5, nI_1]
        exact V2.to (ih (k + 1) m G2 (by omega) (by omega) (g1.trans h2) (fun e => hE (by rw [first_f hok]; exact e)) hY) rfl rfl rfl rfl
      · refine V2_iload_n (i := 1) d_R_least_19 rfl rfl ?_
        refine V2_ireturn d_R_least_20 rfl ?_
        have hok : okLeast S k := by
          intro h0
          have h9 := c4
          subst ev3
          rw [h0] at h9
          exact h9 rfl
        exact hY k hk10 (first_t hok) G2 (g1.trans h2)
theorem c_mod_least {L : Nat} {xs : Nat → Int32} {d : Nat} {Q : Option Value → xF → Prop} {F : xF} {F0 : xF} (hR : Rel F0) (hM : Mid F0 F (k_least F0).2) (hQ : ∀ F2, Rel F2 → Q (some (.int (k_least F0).1)) F2) : V2 L xs (d + 6) m_R_least 0 (xEntry [.ref 65] 2) [] F Q := by
  have e66 : F 66 = F0 66 := hM.1 66 (by decide)
  have e63 : F 65 5 = 63 := (congrFun (hM.1 65 (by decide)) 5).trans hR.2.2.2.1
  refine V2.to (l' := [some (.ref 65), none]) ?_ rfl rfl rfl rfl
  refine V2_iconst (v := 0) d_R_least_0 rfl ?_
  refine V2_istore_n (i := 1) (l' := [some (.ref 65), some (.int (0 : Int32))]) d_R_least_1 rfl (xst_r (Nat.le_of_ble_eq_true rfl) rfl rfl) ?_
  refine V2.to (c_R_least_loop (F := F) (S := F0 66) hR.2.1 e66 e63 11 0 10 F (by omega) (by omega) (scrM.refl F) (fun e G2 h2 => ?_) (fun j hj e G2 h2 => ?_)) rfl rfl rfl rfl
  · have e9 : k_least F0 = (-1000000000 - 2, errF F0 2) := by
      unfold k_least
      rw [e, orErr_n]
    rw [e9] at hQ hM
    exact hQ _ (rel_scr_err hR hM h2)
  · have e9 : k_least F0 = (nI j, F0) := by
      unfold k_least
      rw [e, orErr_s (by omega)]
    rw [e9] at hQ hM
    exact hQ _ (rel_scr hR hM h2)
def okStr (S : Nat → Int32) (gas : Int32) (N k : Nat) : Prop := ¬ outN gas 63 (PN S) N (shS S k) = none
noncomputable def k_strokes (F : xF) (gas n : Int32) : Int32 × xF := if (0 ≤ gas.toInt ∧ gas.toInt ≤ 9) ∧ 1 ≤ n.toInt ∧ n.toInt ≤ 60 then (if (F 66 5).toInt = 1 then (-1000000000 - 3, errF F 3) else orErr F (firstN (okStr (F 66) gas n.toNatClampNeg) 21 0)) else (-1000000000 - 1, errF F 1)
theorem like_sh {T S : Nat → Int32} {k : Nat} (h : like T S) : like (shS T k) S := fun j hj => (shS_hi T k (by omega)).trans (h j hj)
theorem c_P_strokes_loop {L : Nat} {xs : Nat → Int32} {d : Nat} {Q : Option Value → xF → Prop} {F : xF} {S : Nat → Int32} {gas : Int32} {p : Nat} (h : relW F 1 S) (hi : invS S) (hp60 : p ≤ 60) (hg : 0 ≤ gas.toInt ∧ gas.toInt ≤ 9) : ∀ (n_ : Nat) (k m : Nat) (G : xF), k + m = 21 → m < n_ → scrC F G → (firstN (okStr S gas p) m k = none → ∀ G2 : xF, scrC F G2 → Q (some (.int (-1000000000 - 2))) (xp G2 56 2 (G2 56 2 + 1))) → (∀ j, j < 21 → firstN (okStr S gas p) m k = some j → ∀ G2 : xF, scrC F G2 → Q (some (.int (nI j))) G2) → V2 L xs (d + 8) m_P_strokes 44 [some (.ref 0), some (.int gas), some (.int (nI p)), some (.int (nI k))] [] G Q := by
  intro n_
  induction n_ with
  | zero => exact fun k m G h1 h2 => absurd h2 (by omega)
  | succ n_ ih =>
    intro k m G h1 h2 hG hE hY
    have g1 := hG
    refine V2_iload_n (i := 3) d_P_strokes_44 rfl rfl ?_
    refine V2_bipush (v := 20) d_P_strokes_45 rfl ?_
    refine V2_icmp_gt (tgt := 98) d_P_strokes_47 rfl (fun c1 => ?_) (fun c1 => ?_)
    · refine V2_aload_n (i := 0) d_P_strokes_98 rfl rfl ?_
      refine V2_iconst (v := 2) d_P_strokes_99 rfl ?_
      refine V2_callV [.int (2 : Int32)] d_P_strokes_100 rfl rfl lk_P_66 mo_P_fails (by decide) rfl rfl rfl (Nat.le_of_ble_eq_true rfl) (Nat.le_of_ble_eq_true rfl) ?_
      refine c_P_fails2 ?_
      refine V2_topi (fun v2 ev2 => ?_)
      refine V2_ireturn d_P_strokes_103 rfl ?_
      have hm : m = 0 := by
        have h9 := c1
        have := (nI_ltI (a := 20) (b := k) (by omega) (by omega)).mp h9
        omega
      subst hm
      subst ev2
      exact hE rfl G g1
    · have hk10 : k < 21 := by
        have h9 := c1
        have : ¬ 20 < k := fun hh => h9 ((nI_ltI (a := 20) (b := k) (by omega) (by omega)).mpr hh)
        omega
      obtain ⟨m, rfl⟩ : ∃ m2, m = m2 + 1 := ⟨m - 1, by omega⟩
      refine V2_aload_n (i := 0) d_P_strokes_50 rfl rfl ?_
      refine V2_getr (a := 35) d_P_strokes_51 fl_P_22 (by decide) rfl (by decide) rfl ?_
      refine V2_aload_n (i := 0) d_P_strokes_54 rfl rfl ?_
      refine V2_getr (a := 1) d_P_strokes_55 fl_P_10 (by decide) rfl (by decide) rfl ?_
      refine V2_getr (a := 2) d_P_strokes_58 fl_P_93 (by decide) rfl (by decide) rfl ?_
      refine V2_callV [.ref 2] d_P_strokes_61 rfl rfl lk_P_227 mo_Car_copyFrom (by decide) rfl rfl rfl (Nat.le_of_ble_eq_true rfl) (Nat.le_of_ble_eq_true rfl) ?_
      refine c_Car_copy_35_2 (by rw [show G 2 7 = S 5 from (congrFun (hG 2 (by decide) (by decide) (by decide)) 7).trans h.1.2.2.2.2.2.2.2]; exact hi.1.2.2.2.2.2.1) (fun H p0 g0 => ?_)
      refine V2_aload_n (i := 0) d_P_strokes_64 rfl rfl ?_
      refine V2_getr (a := 35) d_P_strokes_65 fl_P_22 (by decide) rfl (by decide) rfl ?_
      refine V2_iload_n (i := 3) d_P_strokes_68 rfl rfl ?_
      refine V2_callV [.int (nI k)] d_P_strokes_69 rfl rfl lk_P_211 mo_Car_dig (by decide) rfl rfl rfl (Nat.le_of_ble_eq_true rfl) (Nat.le_of_ble_eq_true rfl) ?_
      refine c_Car_dig_35 ?_
      refine V2_aload_n (i := 0) d_P_strokes_72 rfl rfl ?_
      refine V2_getr (a := 1) d_P_strokes_73 fl_P_10 (by decide) rfl (by decide) rfl ?_
      refine V2_aload_n (i := 0) d_P_strokes_76 rfl rfl ?_
      refine V2_getr (a := 35) d_P_strokes_77 fl_P_22 (by decide) rfl (by decide) rfl ?_
      refine V2_iload_n (i := 1) d_P_strokes_80 rfl rfl ?_
      refine V2_iload_n (i := 2) d_P_strokes_81 rfl rfl ?_
      refine V2_bipush (v := 63) d_P_strokes_82 rfl ?_
      refine V2_callV [.ref 35, .int gas, .int (nI p), .int (63 : Int32)] d_P_strokes_84 rfl rfl lk_P_265 mo_World_swingsTillOut (by decide) rfl rfl rfl (Nat.le_of_ble_eq_true rfl) (Nat.le_of_ble_eq_true rfl) ?_
      refine c_World_tillOut (T := shS S k) h hi hp60 hg ((hG.car g0).car (fun a ha => xrw_ne ha)) (by rw [xrw_same]; exact dig_rel (relCr_row (relCr_c h.1 (hG 2 (by decide) (by decide) (by decide)) (fun _ _ => rfl)) p0) hi.1 (by omega)) (like_sh (like.refl _)) (invC_sh hi.1 k) (fun G2 h2 => ?_)
      refine V2_topi (fun v3 ev3 => ?_)
      refine V2_if_lt (tgt := 92) d_P_strokes_87 rfl (fun c4 => ?_) (fun c4 => ?_)
      · obtain ⟨v5, ev5⟩ : ∃ y : Int32, y = nI k + 1 := ⟨_, rfl⟩
        refine V2_iinc (i := 3) (v := v5) (l' := [some (.ref 0), some (.int gas), some (.int (nI p)), some (.int v5)]) d_P_strokes_92 rfl (by rw [ev5]; rfl) (xst_i (Nat.le_of_ble_eq_true rfl) rfl rfl) ?_
        refine V2_goto (tgt := 44) d_P_strokes_95 rfl ?_
        have hok : ¬ okStr S gas p k := by
          intro h0
          have h9 := c4
          subst ev5 ev3
          rcases resK_range (g := gas) (s := 63) (P := PN S) (m := p) (T := shS S k) (by omega) with ⟨e, _⟩ | ⟨j, _, _, e⟩
          · exact h0 e
          · rw [toI_lt, e] at h9
            have q0 : (0 : Int32).toInt = 0 := by decide
            omega
        rw [first_f hok] at hY
        rw [ev5, nI_1]
        exact V2.to (ih (k + 1) m G2 (by omega) (by omega) h2 (fun e => hE (by rw [first_f hok]; exact e)) hY) rfl rfl rfl rfl
      · refine V2_iload_n (i := 3) d_P_strokes_90 rfl rfl ?_
        refine V2_ireturn d_P_strokes_91 rfl ?_
        have hok : okStr S gas p k := by
          intro h0
          have h9 := c4
          subst ev3
          rw [h0] at h9
          exact h9 (by decide)
        exact hY k (by omega) (first_t hok) G2 h2
theorem c_cls_strokes {L : Nat} {xs : Nat → Int32} {d : Nat} {Q : Option Value → xF → Prop} {F : xF} {gas n : Int32} (hR : Rel F) (hQ : ∀ F1, Mid F F1 (k_strokes F gas n).2 → Q (some (.int (k_strokes F gas n).1)) F1) : V2 L xs (d + 8) m_P_strokes 0 (xEntry [.ref 0, .int gas, .int n] 4) [] F Q := by
  have q0 : (0 : Int32).toInt = 0 := by decide
  have q1 : (1 : Int32).toInt = 1 := by decide
  have q2 : (2 : Int32).toInt = 2 := by decide
  have q3 : (3 : Int32).toInt = 3 := by decide
  have q4 : (4 : Int32).toInt = 4 := by decide
  have q5 : (5 : Int32).toInt = 5 := by decide
  have q6 : (6 : Int32).toInt = 6 := by decide
  have q7 : (7 : Int32).toInt = 7 := by decide
  have q8 : (8 : Int32).toInt = 8 := by decide
  have q9 : (9 : Int32).toInt = 9 := by decide
  have q10 : (10 : Int32).toInt = 10 := by decide
  have q12 : (12 : Int32).toInt = 12 := by decide
  have q16 : (16 : Int32).toInt = 16 := by decide
  have q20 : (20 : Int32).toInt = 20 := by decide
  have q24 : (24 : Int32).toInt = 24 := by decide
  have q30 : (30 : Int32).toInt = 30 := by decide
  have q32 : (32 : Int32).toInt = 32 := by decide
  have q40 : (40 : Int32).toInt = 40 := by decide
  have q60 : (60 : Int32).toInt = 60 := by decide
  have q69 : (69 : Int32).toInt = 69 := by decide
  have q99 : (99 : Int32).toInt = 99 := by decide
  have q9999 : (9999 : Int32).toInt = 9999 := by decide
  have q274 : (274 : Int32).toInt = 274 := by decide
  have q334 : (334 : Int32).toInt = 334 := by decide
  have c7 : F 2 7 = F 66 5 := hR.1.1.1.2.2.2.2.2.2.2
  have s5 : F 66 5 = 0 ∨ F 66 5 = 1 := hR.2.1.1.2.2.2.2.2.1
  refine V2.to (l' := [some (.ref 0), some (.int gas), some (.int n), none]) ?_ rfl rfl rfl rfl
  refine V2_iload_n (i := 1) d_P_strokes_0 rfl rfl ?_
  refine V2_callS [.int gas] d_P_strokes_1 rfl rfl lk_P_189 mo_P_isGas (Nat.le_of_ble_eq_true rfl) (Nat.le_of_ble_eq_true rfl) ?_
  refine V2.to (l' := [some (.int gas)]) ?_ rfl rfl rfl rfl
  refine V2_iload_n (i := 0) d_P_isGas_0 rfl rfl ?_
  refine V2_iconst (v := 0) d_P_isGas_1 rfl ?_
  refine V2_bipush (v := 9) d_P_isGas_2 rfl ?_
  refine V2_callS [.int gas, .int (0 : Int32), .int (9 : Int32)] d_P_isGas_4 rfl rfl lk_P_133 mo_P_within (Nat.le_of_ble_eq_true rfl) (Nat.le_of_ble_eq_true rfl) ?_
  refine V2.to (l' := [some (.int gas), some (.int (0 : Int32)), some (.int (9 : Int32))]) ?_ rfl rfl rfl rfl
  refine V2_iload_n (i := 0) d_P_within_0 rfl rfl ?_
  refine V2_iload_n (i := 1) d_P_within_1 rfl rfl ?_
  refine V2_icmp_lt (tgt := 14) d_P_within_2 rfl (fun c1 => ?_) (fun c1 => ?_)
  · refine V2_iconst (v := 0) d_P_within_14 rfl ?_
    refine V2_zreturn d_P_within_15 rfl (by decide) ?_
    refine V2.to (st' := [.int (0 : Int32)]) ?_ rfl rfl rfl rfl
    refine V2_zreturn d_P_isGas_7 rfl (by decide) ?_
    refine V2.to (st' := [.int (0 : Int32)]) ?_ rfl rfl rfl rfl
    refine V2_if_eq (tgt := 17) d_P_strokes_4 rfl (fun _ => ?_) (fun c => (by first | exact absurd c (by decide) | exact absurd (by decide) c))
    refine V2_aload_n (i := 0) d_P_strokes_17 rfl rfl ?_
    refine V2_iconst (v := 1) d_P_strokes_18 rfl ?_
    refine V2_callV [.int (1 : Int32)] d_P_strokes_19 rfl rfl lk_P_66 mo_P_fails (by decide) rfl rfl rfl (Nat.le_of_ble_eq_true rfl) (Nat.le_of_ble_eq_true rfl) ?_
    refine c_P_fails1 ?_
    refine V2_topi (fun v2 ev2 => ?_)
    refine V2_ireturn d_P_strokes_22 rfl ?_
    have hb0 : ¬ ((0 ≤ gas.toInt ∧ gas.toInt ≤ 9) ∧ 1 ≤ n.toInt ∧ n.toInt ≤ 60) := (by (try clear hQ); (try subst ev2); ((try simp only [xb_eq, xb_ne, Int32.lt_iff_toInt_lt, Int32.le_iff_toInt_le] at *) <;> (try simp only [← Int32.toInt_inj, true_and, false_and, or_false, false_or, or_true, true_or, and_true, and_false] at *) <;> omega))
    have e : k_strokes F gas n = (-1000000000 - 1, errF F 1) := if_neg hb0
    rw [e] at hQ
    subst ev2
    exact xQi (hQ _ (mid_err hR (by decide))) rfl rfl
  · refine V2_iload_n (i := 0) d_P_within_5 rfl rfl ?_
    refine V2_iload_n (i := 2) d_P_within_6 rfl rfl ?_
    refine V2_icmp_gt (tgt := 14) d_P_within_7 rfl (fun c3 => ?_) (fun c3 => ?_)
    · refine V2_iconst (v := 0) d_P_within_14 rfl ?_
      refine V2_zreturn d_P_within_15 rfl (by decide) ?_
      refine V2.to (st' := [.int (0 : Int32)]) ?_ rfl rfl rfl rfl
      refine V2_zreturn d_P_isGas_7 rfl (by decide) ?_
      refine V2.to (st' := [.int (0 : Int32)]) ?_ rfl rfl rfl rfl
      refine V2_if_eq (tgt := 17) d_P_strokes_4 rfl (fun _ => ?_) (fun c => (by first | exact absurd c (by decide) | exact absurd (by decide) c))
      refine V2_aload_n (i := 0) d_P_strokes_17 rfl rfl ?_
      refine V2_iconst (v := 1) d_P_strokes_18 rfl ?_
      refine V2_callV [.int (1 : Int32)] d_P_strokes_19 rfl rfl lk_P_66 mo_P_fails (by decide) rfl rfl rfl (Nat.le_of_ble_eq_true rfl) (Nat.le_of_ble_eq_true rfl) ?_
      refine c_P_fails1 ?_
      refine V2_topi (fun v4 ev4 => ?_)
      refine V2_ireturn d_P_strokes_22 rfl ?_
      have hb0 : ¬ ((0 ≤ gas.toInt ∧ gas.toInt ≤ 9) ∧ 1 ≤ n.toInt ∧ n.toInt ≤ 60) := (by (try clear hQ); (try subst ev4); ((try simp only [xb_eq, xb_ne, Int32.lt_iff_toInt_lt, Int32.le_iff_toInt_le] at *) <;> (try simp only [← Int32.toInt_inj, true_and, false_and, or_false, false_or, or_true, true_or, and_true, and_false] at *) <;> omega))
      have e : k_strokes F gas n = (-1000000000 - 1, errF F 1) := if_neg hb0
      rw [e] at hQ
      subst ev4
      exact xQi (hQ _ (mid_err hR (by decide))) rfl rfl
    · refine V2_iconst (v := 1) d_P_within_10 rfl ?_
      refine V2_goto (tgt := 15) d_P_within_11 rfl ?_
      refine V2_zreturn d_P_within_15 rfl (by decide) ?_
      refine V2.to (st' := [.int (1 : Int32)]) ?_ rfl rfl rfl rfl
      refine V2_zreturn d_P_isGas_7 rfl (by decide) ?_
      refine V2.to (st' := [.int (1 : Int32)]) ?_ rfl rfl rfl rfl
      refine V2_if_eq (tgt := 17) d_P_strokes_4 rfl (fun c => (by first | exact absurd c (by decide) | exact absurd (by decide) c)) (fun _ => ?_)
      refine V2_iload_n (i := 2) d_P_strokes_7 rfl rfl ?_
      refine V2_iconst (v := 1) d_P_strokes_8 rfl ?_
      refine V2_bipush (v := 60) d_P_strokes_9 rfl ?_
      refine V2_callS [.int n, .int (1 : Int32), .int (60 : Int32)] d_P_strokes_11 rfl rfl lk_P_133 mo_P_within (Nat.le_of_ble_eq_true rfl) (Nat.le_of_ble_eq_true rfl) ?_
      refine V2.to (l' := [some (.int n), some (.int (1 : Int32)), some (.int (60 : Int32))]) ?_ rfl rfl rfl rfl
      refine V2_iload_n (i := 0) d_P_within_0 rfl rfl ?_
      refine V2_iload_n (i := 1) d_P_within_1 rfl rfl ?_
      refine V2_icmp_lt (tgt := 14) d_P_within_2 rfl (fun c5 => ?_) (fun c5 => ?_)
      · refine V2_iconst (v := 0) d_P_within_14 rfl ?_
        refine V2_zreturn d_P_within_15 rfl (by decide) ?_
        refine V2.to (st' := [.int (0 : Int32)]) ?_ rfl rfl rfl rfl
        refine V2_if_ne (tgt := 23) d_P_strokes_14 rfl (fun c => (by first | exact absurd c (by decide) | exact absurd (by decide) c)) (fun _ => ?_)
        refine V2_aload_n (i := 0) d_P_strokes_17 rfl rfl ?_
        refine V2_iconst (v := 1) d_P_strokes_18 rfl ?_
        refine V2_callV [.int (1 : Int32)] d_P_strokes_19 rfl rfl lk_P_66 mo_P_fails (by decide) rfl rfl rfl (Nat.le_of_ble_eq_true rfl) (Nat.le_of_ble_eq_true rfl) ?_
        refine c_P_fails1 ?_
        refine V2_topi (fun v6 ev6 => ?_)
        refine V2_ireturn d_P_strokes_22 rfl ?_
        have hb0 : ¬ ((0 ≤ gas.toInt ∧ gas.toInt ≤ 9) ∧ 1 ≤ n.toInt ∧ n.toInt ≤ 60) := (by (try clear hQ); (try subst ev6); ((try simp only [xb_eq, xb_ne, Int32.lt_iff_toInt_lt, Int32.le_iff_toInt_le] at *) <;> (try simp only [← Int32.toInt_inj, true_and, false_and, or_false, false_or, or_true, true_or, and_true, and_false] at *) <;> omega))
        have e : k_strokes F gas n = (-1000000000 - 1, errF F 1) := if_neg hb0
        rw [e] at hQ
        subst ev6
        exact xQi (hQ _ (mid_err hR (by decide))) rfl rfl
      · refine V2_iload_n (i := 0) d_P_within_5 rfl rfl ?_
        refine V2_iload_n (i := 2) d_P_within_6 rfl rfl ?_
        refine V2_icmp_gt (tgt := 14) d_P_within_7 rfl (fun c7 => ?_) (fun c7 => ?_)
        · refine V2_iconst (v := 0) d_P_within_14 rfl ?_
          refine V2_zreturn d_P_within_15 rfl (by decide) ?_
          refine V2.to (st' := [.int (0 : Int32)]) ?_ rfl rfl rfl rfl
          refine V2_if_ne (tgt := 23) d_P_strokes_14 rfl (fun c => (by first | exact absurd c (by decide) | exact absurd (by decide) c)) (fun _ => ?_)
          refine V2_aload_n (i := 0) d_P_strokes_17 rfl rfl ?_
          refine V2_iconst (v := 1) d_P_strokes_18 rfl ?_
          refine V2_callV [.int (1 : Int32)] d_P_strokes_19 rfl rfl lk_P_66 mo_P_fails (by decide) rfl rfl rfl (Nat.le_of_ble_eq_true rfl) (Nat.le_of_ble_eq_true rfl) ?_
          refine c_P_fails1 ?_
          refine V2_topi (fun v8 ev8 => ?_)
          refine V2_ireturn d_P_strokes_22 rfl ?_
          have hb0 : ¬ ((0 ≤ gas.toInt ∧ gas.toInt ≤ 9) ∧ 1 ≤ n.toInt ∧ n.toInt ≤ 60) := (by (try clear hQ); (try subst ev8); ((try simp only [xb_eq, xb_ne, Int32.lt_iff_toInt_lt, Int32.le_iff_toInt_le] at *) <;> (try simp only [← Int32.toInt_inj, true_and, false_and, or_false, false_or, or_true, true_or, and_true, and_false] at *) <;> omega))
          have e : k_strokes F gas n = (-1000000000 - 1, errF F 1) := if_neg hb0
          rw [e] at hQ
          subst ev8
          exact xQi (hQ _ (mid_err hR (by decide))) rfl rfl
        · refine V2_iconst (v := 1) d_P_within_10 rfl ?_
          refine V2_goto (tgt := 15) d_P_within_11 rfl ?_
          refine V2_zreturn d_P_within_15 rfl (by decide) ?_
          refine V2.to (st' := [.int (1 : Int32)]) ?_ rfl rfl rfl rfl
          refine V2_if_ne (tgt := 23) d_P_strokes_14 rfl (fun _ => ?_) (fun c => (by first | exact absurd c (by decide) | exact absurd (by decide) c))
          obtain ⟨p, hp, epp⟩ := in_of (x := n) (P := 61) (by (try clear hQ); (try skip); ((try simp only [xb_eq, xb_ne, Int32.lt_iff_toInt_lt, Int32.le_iff_toInt_le] at *) <;> (try simp only [← Int32.toInt_inj, true_and, false_and, or_false, false_or, or_true, true_or, and_true, and_false] at *) <;> omega)) (by (try clear hQ); (try skip); ((try simp only [xb_eq, xb_ne, Int32.lt_iff_toInt_lt, Int32.le_iff_toInt_le] at *) <;> (try simp only [← Int32.toInt_inj, true_and, false_and, or_false, false_or, or_true, true_or, and_true, and_false] at *) <;> omega)) (by omega)
          subst epp
          have np : (nI p).toInt = (p : Int) := nI_toInt (by omega)
          have kp : (nI p).toNatClampNeg = p := nI_clamp (by omega)
          refine V2_aload_n (i := 0) d_P_strokes_23 rfl rfl ?_
          refine V2_getr (a := 1) d_P_strokes_24 fl_P_10 (by decide) rfl (by decide) rfl ?_
          refine V2_getr (a := 2) d_P_strokes_27 fl_P_93 (by decide) rfl (by decide) rfl ?_
          refine V2_get (v := F 2 7) d_P_strokes_30 fl_P_237 (by decide) rfl (by decide) rfl rfl ?_
          refine V2_topi (fun v9 ev9 => ?_)
          refine V2_if_eq (tgt := 42) d_P_strokes_33 rfl (fun c10 => ?_) (fun c10 => ?_)
          · refine V2_iconst (v := 0) d_P_strokes_42 rfl ?_
            refine V2_istore_n (i := 3) (l' := [some (.ref 0), some (.int gas), some (.int (nI p)), some (.int (0 : Int32))]) d_P_strokes_43 rfl (xst_i (Nat.le_of_ble_eq_true rfl) rfl rfl) ?_
            have hb0 : (0 ≤ gas.toInt ∧ gas.toInt ≤ 9) ∧ 1 ≤ (nI p).toInt ∧ (nI p).toInt ≤ 60 := (by (try clear hQ); (try subst ev9); ((try simp only [xb_eq, xb_ne, Int32.lt_iff_toInt_lt, Int32.le_iff_toInt_le] at *) <;> (try simp only [← Int32.toInt_inj, true_and, false_and, or_false, false_or, or_true, true_or, and_true, and_false] at *) <;> omega))
            have hb1 : ¬ ((F 66 5).toInt = 1) := (by (try clear hQ); (try subst ev9); ((try simp only [xb_eq, xb_ne, Int32.lt_iff_toInt_lt, Int32.le_iff_toInt_le] at *) <;> (try simp only [← Int32.toInt_inj, true_and, false_and, or_false, false_or, or_true, true_or, and_true, and_false] at *) <;> omega))
            have e : k_strokes F gas (nI p) = orErr F (firstN (okStr (F 66) gas p) 21 0) := (if_pos hb0).trans ((if_neg hb1).trans (by rw [kp]))
            rw [e] at hQ
            refine V2.to (c_P_strokes_loop (F := F) (gas := gas) (p := p) hR.1.1 hR.2.1 (by omega) hb0.1 22 0 21 F (by omega) (by omega) (scrC.refl F) (fun e G2 h2 => ?_) (fun j hj e G2 h2 => ?_)) rfl rfl rfl rfl
            · rw [e, orErr_n] at hQ
              exact hQ _ (mid_scr_err hR h2 (by decide))
            · rw [e, orErr_s (by omega)] at hQ
              exact hQ _ (mid_scr hR h2)
          · refine V2_aload_n (i := 0) d_P_strokes_36 rfl rfl ?_
            refine V2_iconst (v := 3) d_P_strokes_37 rfl ?_
            refine V2_callV [.int (3 : Int32)] d_P_strokes_38 rfl rfl lk_P_66 mo_P_fails (by decide) rfl rfl rfl (Nat.le_of_ble_eq_true rfl) (Nat.le_of_ble_eq_true rfl) ?_
            refine c_P_fails3 ?_
            refine V2_topi (fun v11 ev11 => ?_)
            refine V2_ireturn d_P_strokes_41 rfl ?_
            have hb0 : (0 ≤ gas.toInt ∧ gas.toInt ≤ 9) ∧ 1 ≤ (nI p).toInt ∧ (nI p).toInt ≤ 60 := (by (try clear hQ); (try subst ev11 ev9); ((try simp only [xb_eq, xb_ne, Int32.lt_iff_toInt_lt, Int32.le_iff_toInt_le] at *) <;> (try simp only [← Int32.toInt_inj, true_and, false_and, or_false, false_or, or_true, true_or, and_true, and_false] at *) <;> omega))
            have hb1 : (F 66 5).toInt = 1 := (by (try clear hQ); (try subst ev11 ev9); ((try simp only [xb_eq, xb_ne, Int32.lt_iff_toInt_lt, Int32.le_iff_toInt_le] at *) <;> (try simp only [← Int32.toInt_inj, true_and, false_and, or_false, false_or, or_true, true_or, and_true, and_false] at *) <;> omega))
            have e : k_strokes F gas (nI p) = (-1000000000 - 3, errF F 3) := (if_pos hb0).trans (if_pos hb1)
            rw [e] at hQ
            subst ev11 ev9
            exact xQi (hQ _ (mid_err hR (by decide))) rfl rfl
theorem nI_nm1 {k : Nat} (h : k ≤ 1000) : ¬ nI k = -1 := by
  intro e
  have e1 := nI_toInt (n := k) (by omega)
  rw [e] at e1
  have qm : (-1 : Int32).toInt = -1 := by decide
  omega
theorem c_R_strokes_loop {L : Nat} {xs : Nat → Int32} {d : Nat} {Q : Option Value → xF → Prop} {F : xF} {S : Nat → Int32} {gas a0 a1 : Int32} {p : Nat} (hi : invS S) (e66 : F 66 = S) (e65 : F 65 5 = 63) (hp60 : p ≤ 60) (ea0 : a0 = S 0) (ea1 : a1 = S 1) : ∀ (n_ : Nat) (k m : Nat) (G : xF), k + m = 21 → m < n_ → G 66 = shS S k → (∀ a, ¬ a = 66 → ¬ a = 68 → ¬ a = 71 → ¬ a = 72 → G a = F a) → (firstN (okStr S gas p) m k = none → ∀ G2 : xF, scrM F G2 → Q (some (.int (-1000000000 - 2))) (xp G2 69 2 (G2 69 2 + 1))) → (∀ j, j < 21 → firstN (okStr S gas p) m k = some j → ∀ G2 : xF, scrM F G2 → Q (some (.int (nI j))) G2) → V2 L xs (d + 6) m_R_strokes 54 [some (.ref 65), some (.int gas), some (.int (nI p)), some (.int (S 0)), some (.int (S 1)), some (.int (-1 : Int32)), some (.int (nI k))] [] G Q := by
  intro n_
  induction n_ with
  | zero => exact fun k m G h1 h2 => absurd h2 (by omega)
  | succ n_ ih =>
    intro k m G h1 h2 e6 g1 hE hY
    subst ea0 ea1
    refine V2_iload (i := 6) d_R_strokes_54 rfl ?_
    refine V2_bipush (v := 20) d_R_strokes_56 rfl ?_
    refine V2_icmp_gt (tgt := 96) d_R_strokes_58 rfl (fun c1 => ?_) (fun c1 => ?_)
    · refine V2_aload_n (i := 0) d_R_strokes_96 rfl rfl ?_
      refine V2_getr (a := 66) d_R_strokes_97 fl_R_7 (by decide) rfl (by decide) rfl ?_
      refine V2_iconst (v := 0) d_R_strokes_100 rfl ?_
      refine V2_iload_n (i := 3) d_R_strokes_101 rfl rfl ?_
      refine V2_iastore (j := 0) d_R_strokes_102 (by decide) rfl (xixA (n := 0) rfl (by decide) (by decide)) rfl ?_
      refine V2_aload_n (i := 0) d_R_strokes_103 rfl rfl ?_
      refine V2_getr (a := 66) d_R_strokes_104 fl_R_7 (by decide) rfl (by decide) rfl ?_
      refine V2_iconst (v := 1) d_R_strokes_107 rfl ?_
      refine V2_iload (i := 4) d_R_strokes_108 rfl ?_
      refine V2_iastore (j := 1) d_R_strokes_110 (by decide) rfl (xixA (n := 1) rfl (by decide) (by decide)) rfl ?_
      refine V2_iload (i := 5) d_R_strokes_111 rfl ?_
      refine V2_iconst (v := -1) d_R_strokes_113 rfl ?_
      refine V2_icmp_ne (tgt := 125) d_R_strokes_114 rfl (fun c => (by first | exact absurd c (by decide) | exact absurd (by decide) c)) (fun _ => ?_)
      refine V2_aload_n (i := 0) d_R_strokes_117 rfl rfl ?_
      refine V2_iconst (v := 2) d_R_strokes_118 rfl ?_
      refine V2_callV [.int (2 : Int32)] d_R_strokes_119 rfl rfl lk_R_55 mo_R_error (by decide) rfl rfl rfl (Nat.le_of_ble_eq_true rfl) (Nat.le_of_ble_eq_true rfl) ?_
      refine c_R_error2 ?_
      refine V2_topi (fun v2 ev2 => ?_)
      refine V2_goto (tgt := 127) d_R_strokes_122 rfl ?_
      refine V2_ireturn d_R_strokes_127 rfl ?_
      have hrow : ∀ k2 : Nat, upd (upd (shS S k2) 0 (S 0)) 1 (S 1) = S := by
        intro k2
        funext j
        by_cases h1 : j = 1
        · subst h1
          exact upd_same
        · rw [upd_ne h1]
          by_cases h0 : j = 0
          · subst h0
            exact upd_same
          · rw [upd_ne h0]
            exact shS_hi S k2 (by omega)
      have hm : m = 0 := by
        have h9 := c1
        have := (nI_ltI (a := 20) (b := k) (by omega) (by omega)).mp h9
        omega
      subst hm
      subst ev2
      have hsc : scrM F (xp (xp G 66 0 (S 0)) 66 1 (S 1)) := fun a h1 h2 h3 => (by
        by_cases h6 : a = 66
        · subst h6
          rw [xp_at, xp_at, e6, hrow k, e66]
        · rw [xp_row_ne h6, xp_row_ne h6]
          exact g1 a h6 h1 h2 h3)
      exact hE rfl _ hsc
    · refine V2_iload (i := 5) d_R_strokes_61 rfl ?_
      refine V2_iconst (v := -1) d_R_strokes_63 rfl ?_
      refine V2_icmp_ne (tgt := 96) d_R_strokes_64 rfl (fun c => (by first | exact absurd c (by decide) | exact absurd (by decide) c)) (fun _ => ?_)
      have hk10 : k < 21 := by
        have h9 := c1
        have : ¬ 20 < k := fun hh => h9 ((nI_ltI (a := 20) (b := k) (by omega) (by omega)).mpr hh)
        omega
      obtain ⟨m, rfl⟩ : ∃ m2, m = m2 + 1 := ⟨m - 1, by omega⟩
      refine V2_aload_n (i := 0) d_R_strokes_67 rfl rfl ?_
      refine V2_iload_n (i := 1) d_R_strokes_68 rfl rfl ?_
      refine V2_iload_n (i := 2) d_R_strokes_69 rfl rfl ?_
      refine V2_callV [.int gas, .int (nI p)] d_R_strokes_70 rfl rfl lk_R_209 mo_R_outBy (by decide) rfl rfl rfl (Nat.le_of_ble_eq_true rfl) (Nat.le_of_ble_eq_true rfl) ?_
      refine c_R_outBy (S := S) (M := p) (set := 63) hi (by rw [e6]; exact like_sh (like.refl _)) hp60 ((congrFun (g1 65 (by decide) (by decide) (by decide) (by decide)) 5).trans e65) (fun G2 h2 => ?_)
      rw [e6]
      refine V2_topi (fun v3 ev3 => ?_)
      refine V2_iconst (v := -1) d_R_strokes_73 rfl ?_
      refine V2_icmp_ne (tgt := 81) d_R_strokes_74 rfl (fun c4 => ?_) (fun c4 => ?_)
      · refine V2_iload (i := 6) d_R_strokes_81 rfl ?_
        refine V2_istore (i := 5) (l' := [some (.ref 65), some (.int gas), some (.int (nI p)), some (.int (S 0)), some (.int (S 1)), some (.int (nI k)), some (.int (nI k))]) d_R_strokes_83 (xst_i (Nat.le_of_ble_eq_true rfl) rfl rfl) ?_
        refine V2_aload_n (i := 0) d_R_strokes_85 rfl rfl ?_
        refine V2_iconst (v := 1) d_R_strokes_86 rfl ?_
        refine V2_callV [.int (1 : Int32)] d_R_strokes_87 rfl rfl lk_R_190 mo_R_shovels (by decide) rfl rfl rfl (Nat.le_of_ble_eq_true rfl) (Nat.le_of_ble_eq_true rfl) ?_
        refine c_R_shovels (m := 1) (by omega) ?_
        obtain ⟨v5, ev5⟩ : ∃ y : Int32, y = nI k + 1 := ⟨_, rfl⟩
        refine V2_iinc (i := 6) (v := v5) (l' := [some (.ref 65), some (.int gas), some (.int (nI p)), some (.int (S 0)), some (.int (S 1)), some (.int (nI k)), some (.int v5)]) d_R_strokes_90 rfl (by rw [ev5]; rfl) (xst_i (Nat.le_of_ble_eq_true rfl) rfl rfl) ?_
        refine V2_goto (tgt := 54) d_R_strokes_93 rfl ?_
        refine V2_iload (i := 6) d_R_strokes_54 rfl ?_
        refine V2_bipush (v := 20) d_R_strokes_56 rfl ?_
        refine V2_icmp_gt (tgt := 96) d_R_strokes_58 rfl (fun c6 => ?_) (fun c6 => ?_)
        · refine V2_aload_n (i := 0) d_R_strokes_96 rfl rfl ?_
          refine V2_getr (a := 66) d_R_strokes_97 fl_R_7 (by decide) rfl (by decide) rfl ?_
          refine V2_iconst (v := 0) d_R_strokes_100 rfl ?_
          refine V2_iload_n (i := 3) d_R_strokes_101 rfl rfl ?_
          refine V2_iastore (j := 0) d_R_strokes_102 (by decide) rfl (xixA (n := 0) rfl (by decide) (by decide)) rfl ?_
          refine V2_aload_n (i := 0) d_R_strokes_103 rfl rfl ?_
          refine V2_getr (a := 66) d_R_strokes_104 fl_R_7 (by decide) rfl (by decide) rfl ?_
          refine V2_iconst (v := 1) d_R_strokes_107 rfl ?_
          refine V2_iload (i := 4) d_R_strokes_108 rfl ?_
          refine V2_iastore (j := 1) d_R_strokes_110 (by decide) rfl (xixA (n := 1) rfl (by decide) (by decide)) rfl ?_
          refine V2_iload (i := 5) d_R_strokes_111 rfl ?_
          refine V2_iconst (v := -1) d_R_strokes_113 rfl ?_
          refine V2_icmp_ne (tgt := 125) d_R_strokes_114 rfl (fun c7 => ?_) (fun c7 => (by first | exact absurd (show ¬ nI k = -1 from nI_nm1 (by omega)) c7 | exact absurd c7 (show ¬ nI k = -1 from nI_nm1 (by omega))))
          refine V2_iload (i := 5) d_R_strokes_125 rfl ?_
          refine V2_ireturn d_R_strokes_127 rfl ?_
          have hrow : ∀ k2 : Nat, upd (upd (shS S k2) 0 (S 0)) 1 (S 1) = S := by
            intro k2
            funext j
            by_cases h1 : j = 1
            · subst h1
              exact upd_same
            · rw [upd_ne h1]
              by_cases h0 : j = 0
              · subst h0
                exact upd_same
              · rw [upd_ne h0]
                exact shS_hi S k2 (by omega)
          have hok : okStr S gas p k := by
            intro h0
            have h9 := c4
            subst ev5 ev3
            rw [h0] at h9
            exact h9 rfl
          subst ev5 ev3
          have e62 : G2 66 = shS S k := (h2 66 (by decide) (by decide) (by decide)).trans e6
          have hsc : scrM F (xp (xp (xrw G2 66 (shS (G2 66) 1)) 66 0 (S 0)) 66 1 (S 1)) := fun a h1 h2_ h3 => (by
            by_cases h6 : a = 66
            · subst h6
              rw [xp_at, xp_at, xrw_same, e62, show shS (shS S k) 1 = shS S (k + 1) from rfl, hrow (k + 1), e66]
            · rw [xp_row_ne h6, xp_row_ne h6, xrw_ne h6, h2 a h1 h2_ h3]
              exact g1 a h6 h1 h2_ h3)
          exact hY k (by omega) (first_t hok) _ hsc
        · refine V2_iload (i := 5) d_R_strokes_61 rfl ?_
          refine V2_iconst (v := -1) d_R_strokes_63 rfl ?_
          refine V2_icmp_ne (tgt := 96) d_R_strokes_64 rfl (fun c8 => ?_) (fun c8 => (by first | exact absurd (show ¬ nI k = -1 from nI_nm1 (by omega)) c8 | exact absurd c8 (show ¬ nI k = -1 from nI_nm1 (by omega))))
          refine V2_aload_n (i := 0) d_R_strokes_96 rfl rfl ?_
          refine V2_getr (a := 66) d_R_strokes_97 fl_R_7 (by decide) rfl (by decide) rfl ?_
          refine V2_iconst (v := 0) d_R_strokes_100 rfl ?_
          refine V2_iload_n (i := 3) d_R_strokes_101 rfl rfl ?_
          refine V2_iastore (j := 0) d_R_strokes_102 (by decide) rfl (xixA (n := 0) rfl (by decide) (by decide)) rfl ?_
          refine V2_aload_n (i := 0) d_R_strokes_103 rfl rfl ?_
          refine V2_getr (a := 66) d_R_strokes_104 fl_R_7 (by decide) rfl (by decide) rfl ?_
          refine V2_iconst (v := 1) d_R_strokes_107 rfl ?_
          refine V2_iload (i := 4) d_R_strokes_108 rfl ?_
          refine V2_iastore (j := 1) d_R_strokes_110 (by decide) rfl (xixA (n := 1) rfl (by decide) (by decide)) rfl ?_
          refine V2_iload (i := 5) d_R_strokes_111 rfl ?_
          refine V2_iconst (v := -1) d_R_strokes_113 rfl ?_
          refine V2_icmp_ne (tgt := 125) d_R_strokes_114 rfl (fun c9 => ?_) (fun c9 => (by first | exact absurd (show ¬ nI k = -1 from nI_nm1 (by omega)) c9 | exact absurd c9 (show ¬ nI k = -1 from nI_nm1 (by omega))))
          refine V2_iload (i := 5) d_R_strokes_125 rfl ?_
          refine V2_ireturn d_R_strokes_127 rfl ?_
          have hrow : ∀ k2 : Nat, upd (upd (shS S k2) 0 (S 0)) 1 (S 1) = S := by
            intro k2
            funext j
            by_cases h1 : j = 1
            · subst h1
              exact upd_same
            · rw [upd_ne h1]
              by_cases h0 : j = 0
              · subst h0
                exact upd_same
              · rw [upd_ne h0]
                exact shS_hi S k2 (by omega)
          have hok : okStr S gas p k := by
            intro h0
            have h9 := c4
            subst ev5 ev3
            rw [h0] at h9
            exact h9 rfl
          subst ev5 ev3
          have e62 : G2 66 = shS S k := (h2 66 (by decide) (by decide) (by decide)).trans e6
          have hsc : scrM F (xp (xp (xrw G2 66 (shS (G2 66) 1)) 66 0 (S 0)) 66 1 (S 1)) := fun a h1 h2_ h3 => (by
            by_cases h6 : a = 66
            · subst h6
              rw [xp_at, xp_at, xrw_same, e62, show shS (shS S k) 1 = shS S (k + 1) from rfl, hrow (k + 1), e66]
            · rw [xp_row_ne h6, xp_row_ne h6, xrw_ne h6, h2 a h1 h2_ h3]
              exact g1 a h6 h1 h2_ h3)
          exact hY k (by omega) (first_t hok) _ hsc
      · refine V2_iconst (v := -1) d_R_strokes_77 rfl ?_
        refine V2_goto (tgt := 83) d_R_strokes_78 rfl ?_
        refine V2_istore (i := 5) (l' := [some (.ref 65), some (.int gas), some (.int (nI p)), some (.int (S 0)), some (.int (S 1)), some (.int (-1 : Int32)), some (.int (nI k))]) d_R_strokes_83 (xst_i (Nat.le_of_ble_eq_true rfl) rfl rfl) ?_
        refine V2_aload_n (i := 0) d_R_strokes_85 rfl rfl ?_
        refine V2_iconst (v := 1) d_R_strokes_86 rfl ?_
        refine V2_callV [.int (1 : Int32)] d_R_strokes_87 rfl rfl lk_R_190 mo_R_shovels (by decide) rfl rfl rfl (Nat.le_of_ble_eq_true rfl) (Nat.le_of_ble_eq_true rfl) ?_
        refine c_R_shovels (m := 1) (by omega) ?_
        obtain ⟨v10, ev10⟩ : ∃ y : Int32, y = nI k + 1 := ⟨_, rfl⟩
        refine V2_iinc (i := 6) (v := v10) (l' := [some (.ref 65), some (.int gas), some (.int (nI p)), some (.int (S 0)), some (.int (S 1)), some (.int (-1 : Int32)), some (.int v10)]) d_R_strokes_90 rfl (by rw [ev10]; rfl) (xst_i (Nat.le_of_ble_eq_true rfl) rfl rfl) ?_
        refine V2_goto (tgt := 54) d_R_strokes_93 rfl ?_
        have hok : ¬ okStr S gas p k := by
          intro h0
          have h9 := c4
          subst ev10 ev3
          rcases resK_range (g := gas) (s := 63) (P := PN S) (m := p) (T := shS S k) (by omega) with ⟨e, _⟩ | ⟨j, _, _, e⟩
          · exact h0 e
          · rw [h9] at e
            have qm : (-1 : Int32).toInt = -1 := by decide
            omega
        have e62 : G2 66 = shS S k := (h2 66 (by decide) (by decide) (by decide)).trans e6
        rw [first_f hok] at hY
        rw [ev10, nI_1]
        refine V2.to (ih (k + 1) m (xrw G2 66 (shS (G2 66) 1)) (by omega) (by omega) (by rw [xrw_same, e62]; rfl) (fun a b c e f => (xrw_ne b).trans ((h2 a c e f).trans (g1 a b c e f))) (fun e => hE (by rw [first_f hok]; exact e)) hY) rfl rfl rfl rfl
theorem c_mod_strokes {L : Nat} {xs : Nat → Int32} {d : Nat} {Q : Option Value → xF → Prop} {F : xF} {gas n : Int32} {F0 : xF} (hR : Rel F0) (hM : Mid F0 F (k_strokes F0 gas n).2) (hQ : ∀ F2, Rel F2 → Q (some (.int (k_strokes F0 gas n).1)) F2) : V2 L xs (d + 6) m_R_strokes 0 (xEntry [.ref 65, .int gas, .int n] 7) [] F Q := by
  have q0 : (0 : Int32).toInt = 0 := by decide
  have q1 : (1 : Int32).toInt = 1 := by decide
  have q2 : (2 : Int32).toInt = 2 := by decide
  have q3 : (3 : Int32).toInt = 3 := by decide
  have q4 : (4 : Int32).toInt = 4 := by decide
  have q5 : (5 : Int32).toInt = 5 := by decide
  have q6 : (6 : Int32).toInt = 6 := by decide
  have q7 : (7 : Int32).toInt = 7 := by decide
  have q8 : (8 : Int32).toInt = 8 := by decide
  have q9 : (9 : Int32).toInt = 9 := by decide
  have q10 : (10 : Int32).toInt = 10 := by decide
  have q12 : (12 : Int32).toInt = 12 := by decide
  have q16 : (16 : Int32).toInt = 16 := by decide
  have q20 : (20 : Int32).toInt = 20 := by decide
  have q24 : (24 : Int32).toInt = 24 := by decide
  have q30 : (30 : Int32).toInt = 30 := by decide
  have q32 : (32 : Int32).toInt = 32 := by decide
  have q40 : (40 : Int32).toInt = 40 := by decide
  have q60 : (60 : Int32).toInt = 60 := by decide
  have q69 : (69 : Int32).toInt = 69 := by decide
  have q99 : (99 : Int32).toInt = 99 := by decide
  have q9999 : (9999 : Int32).toInt = 9999 := by decide
  have q274 : (274 : Int32).toInt = 274 := by decide
  have q334 : (334 : Int32).toInt = 334 := by decide
  have e66 : F 66 = F0 66 := hM.1 66 (by decide)
  have e66_5 : F 66 5 = F0 66 5 := congrFun e66 5
  have e66_7 : F 66 7 = F0 66 7 := congrFun e66 7
  have s5 : F0 66 5 = 0 ∨ F0 66 5 = 1 := hR.2.1.1.2.2.2.2.2.1
  have e63 : F 65 5 = 63 := (congrFun (hM.1 65 (by decide)) 5).trans hR.2.2.2.1
  refine V2.to (l' := [some (.ref 65), some (.int gas), some (.int n), none, none, none, none]) ?_ rfl rfl rfl rfl
  refine V2_iload_n (i := 1) d_R_strokes_0 rfl rfl ?_
  refine V2_callS [.int gas] d_R_strokes_1 rfl rfl lk_R_181 mo_R_isGas (Nat.le_of_ble_eq_true rfl) (Nat.le_of_ble_eq_true rfl) ?_
  refine c_R_isGas ?_
  refine V2_topi (fun v1 ev1 => ?_)
  refine V2_if_eq (tgt := 14) d_R_strokes_4 rfl (fun c2 => ?_) (fun c2 => ?_)
  · refine V2_aload_n (i := 0) d_R_strokes_14 rfl rfl ?_
    refine V2_iconst (v := 1) d_R_strokes_15 rfl ?_
    refine V2_callV [.int (1 : Int32)] d_R_strokes_16 rfl rfl lk_R_55 mo_R_error (by decide) rfl rfl rfl (Nat.le_of_ble_eq_true rfl) (Nat.le_of_ble_eq_true rfl) ?_
    refine c_R_error1 ?_
    refine V2_topi (fun v3 ev3 => ?_)
    refine V2_ireturn d_R_strokes_19 rfl ?_
    have hb0 : ¬ ((0 ≤ gas.toInt ∧ gas.toInt ≤ 9) ∧ 1 ≤ n.toInt ∧ n.toInt ≤ 60) := (by (try clear hQ); (try subst ev3 ev1); ((try simp only [xb_eq, xb_ne, Int32.lt_iff_toInt_lt, Int32.le_iff_toInt_le] at *) <;> (try simp only [← Int32.toInt_inj, true_and, false_and, or_false, false_or, or_true, true_or, and_true, and_false] at *) <;> omega))
    have e : k_strokes F0 gas n = (-1000000000 - 1, errF F0 1) := if_neg hb0
    rw [e] at hQ hM
    subst ev3 ev1
    exact xQi (hQ _ (rel_err hR hM)) rfl rfl
  · refine V2_iload_n (i := 2) d_R_strokes_7 rfl rfl ?_
    refine V2_callS [.int n] d_R_strokes_8 rfl rfl lk_R_212 mo_R_isTime (Nat.le_of_ble_eq_true rfl) (Nat.le_of_ble_eq_true rfl) ?_
    refine c_R_isTime ?_
    refine V2_topi (fun v4 ev4 => ?_)
    refine V2_if_ne (tgt := 20) d_R_strokes_11 rfl (fun c5 => ?_) (fun c5 => ?_)
    · obtain ⟨p, hp, epp⟩ := in_of (x := n) (P := 61) (by (try clear hQ); (try subst ev4 ev1); ((try simp only [xb_eq, xb_ne, Int32.lt_iff_toInt_lt, Int32.le_iff_toInt_le] at *) <;> (try simp only [← Int32.toInt_inj, true_and, false_and, or_false, false_or, or_true, true_or, and_true, and_false] at *) <;> omega)) (by (try clear hQ); (try subst ev4 ev1); ((try simp only [xb_eq, xb_ne, Int32.lt_iff_toInt_lt, Int32.le_iff_toInt_le] at *) <;> (try simp only [← Int32.toInt_inj, true_and, false_and, or_false, false_or, or_true, true_or, and_true, and_false] at *) <;> omega)) (by omega)
      subst epp
      have np : (nI p).toInt = (p : Int) := nI_toInt (by omega)
      have kp : (nI p).toNatClampNeg = p := nI_clamp (by omega)
      refine V2_aload_n (i := 0) d_R_strokes_20 rfl rfl ?_
      refine V2_callV [] d_R_strokes_21 rfl rfl lk_R_152 mo_R_isOut (by decide) rfl rfl rfl (Nat.le_of_ble_eq_true rfl) (Nat.le_of_ble_eq_true rfl) ?_
      refine c_R_isOut ?_
      refine V2_topi (fun v6 ev6 => ?_)
      refine V2_if_eq (tgt := 33) d_R_strokes_24 rfl (fun c7 => ?_) (fun c7 => ?_)
      · refine V2_aload_n (i := 0) d_R_strokes_33 rfl rfl ?_
        refine V2_getr (a := 66) d_R_strokes_34 fl_R_7 (by decide) rfl (by decide) rfl ?_
        refine V2_iconst (v := 0) d_R_strokes_37 rfl ?_
        refine V2_iaload (v := F 66 0) d_R_strokes_38 (by decide) rfl (xixA (n := 0) rfl (by decide) (by decide)) rfl ?_
        refine V2_topi (fun v8 ev8 => ?_)
        refine V2_istore_n (i := 3) (l' := [some (.ref 65), some (.int gas), some (.int (nI p)), some (.int v8), none, none, none]) d_R_strokes_39 rfl (xst_i (Nat.le_of_ble_eq_true rfl) rfl rfl) ?_
        refine V2_aload_n (i := 0) d_R_strokes_40 rfl rfl ?_
        refine V2_getr (a := 66) d_R_strokes_41 fl_R_7 (by decide) rfl (by decide) rfl ?_
        refine V2_iconst (v := 1) d_R_strokes_44 rfl ?_
        refine V2_iaload (v := F 66 1) d_R_strokes_45 (by decide) rfl (xixA (n := 1) rfl (by decide) (by decide)) rfl ?_
        refine V2_topi (fun v9 ev9 => ?_)
        refine V2_istore (i := 4) (l' := [some (.ref 65), some (.int gas), some (.int (nI p)), some (.int v8), some (.int v9), none, none]) d_R_strokes_46 (xst_i (Nat.le_of_ble_eq_true rfl) rfl rfl) ?_
        refine V2_iconst (v := -1) d_R_strokes_48 rfl ?_
        refine V2_istore (i := 5) (l' := [some (.ref 65), some (.int gas), some (.int (nI p)), some (.int v8), some (.int v9), some (.int (-1 : Int32)), none]) d_R_strokes_49 (xst_i (Nat.le_of_ble_eq_true rfl) rfl rfl) ?_
        refine V2_iconst (v := 0) d_R_strokes_51 rfl ?_
        refine V2_istore (i := 6) (l' := [some (.ref 65), some (.int gas), some (.int (nI p)), some (.int v8), some (.int v9), some (.int (-1 : Int32)), some (.int (0 : Int32))]) d_R_strokes_52 (xst_i (Nat.le_of_ble_eq_true rfl) rfl rfl) ?_
        have hb0 : (0 ≤ gas.toInt ∧ gas.toInt ≤ 9) ∧ 1 ≤ (nI p).toInt ∧ (nI p).toInt ≤ 60 := (by (try clear hQ); (try subst ev9 ev8 ev6 ev4 ev1); ((try simp only [xb_eq, xb_ne, Int32.lt_iff_toInt_lt, Int32.le_iff_toInt_le] at *) <;> (try simp only [← Int32.toInt_inj, true_and, false_and, or_false, false_or, or_true, true_or, and_true, and_false] at *) <;> omega))
        have hb1 : ¬ ((F0 66 5).toInt = 1) := (by (try clear hQ); (try subst ev9 ev8 ev6 ev4 ev1); ((try simp only [xb_eq, xb_ne, Int32.lt_iff_toInt_lt, Int32.le_iff_toInt_le] at *) <;> (try simp only [← Int32.toInt_inj, true_and, false_and, or_false, false_or, or_true, true_or, and_true, and_false] at *) <;> omega))
        have e : k_strokes F0 gas (nI p) = orErr F0 (firstN (okStr (F0 66) gas p) 21 0) := (if_pos hb0).trans ((if_neg hb1).trans (by rw [kp]))
        rw [e] at hQ hM
        have ea0 : v8 = F0 66 0 := by subst ev9 ev8 ev6 ev4 ev1; exact congrFun e66 0
        have ea1 : v9 = F0 66 1 := by subst ev9 ev8 ev6 ev4 ev1; exact congrFun e66 1
        refine V2.to (c_R_strokes_loop (F := F) (S := F0 66) (gas := gas) (p := p) hR.2.1 e66 e63 (by omega) ea0 ea1 22 0 21 F (by omega) (by omega) e66 (fun a _ _ _ _ => rfl) (fun e G2 h2 => ?_) (fun j hj e G2 h2 => ?_)) rfl (by rw [ea0, ea1]; rfl) rfl rfl
        · rw [e, orErr_n] at hQ hM
          exact hQ _ (rel_scr_err hR hM h2)
        · rw [e, orErr_s (by omega)] at hQ hM
          exact hQ _ (rel_scr hR hM h2)
      · refine V2_aload_n (i := 0) d_R_strokes_27 rfl rfl ?_
        refine V2_iconst (v := 3) d_R_strokes_28 rfl ?_
        refine V2_callV [.int (3 : Int32)] d_R_strokes_29 rfl rfl lk_R_55 mo_R_error (by decide) rfl rfl rfl (Nat.le_of_ble_eq_true rfl) (Nat.le_of_ble_eq_true rfl) ?_
        refine c_R_error3 ?_
        refine V2_topi (fun v10 ev10 => ?_)
        refine V2_ireturn d_R_strokes_32 rfl ?_
        have hb0 : (0 ≤ gas.toInt ∧ gas.toInt ≤ 9) ∧ 1 ≤ (nI p).toInt ∧ (nI p).toInt ≤ 60 := (by (try clear hQ); (try subst ev10 ev6 ev4 ev1); ((try simp only [xb_eq, xb_ne, Int32.lt_iff_toInt_lt, Int32.le_iff_toInt_le] at *) <;> (try simp only [← Int32.toInt_inj, true_and, false_and, or_false, false_or, or_true, true_or, and_true, and_false] at *) <;> omega))
        have hb1 : (F0 66 5).toInt = 1 := (by (try clear hQ); (try subst ev10 ev6 ev4 ev1); ((try simp only [xb_eq, xb_ne, Int32.lt_iff_toInt_lt, Int32.le_iff_toInt_le] at *) <;> (try simp only [← Int32.toInt_inj, true_and, false_and, or_false, false_or, or_true, true_or, and_true, and_false] at *) <;> omega))
        have e : k_strokes F0 gas (nI p) = (-1000000000 - 3, errF F0 3) := (if_pos hb0).trans (if_pos hb1)
        rw [e] at hQ hM
        subst ev10 ev6 ev4 ev1
        exact xQi (hQ _ (rel_err hR hM)) rfl rfl
    · refine V2_aload_n (i := 0) d_R_strokes_14 rfl rfl ?_
      refine V2_iconst (v := 1) d_R_strokes_15 rfl ?_
      refine V2_callV [.int (1 : Int32)] d_R_strokes_16 rfl rfl lk_R_55 mo_R_error (by decide) rfl rfl rfl (Nat.le_of_ble_eq_true rfl) (Nat.le_of_ble_eq_true rfl) ?_
      refine c_R_error1 ?_
      refine V2_topi (fun v11 ev11 => ?_)
      refine V2_ireturn d_R_strokes_19 rfl ?_
      have hb0 : ¬ ((0 ≤ gas.toInt ∧ gas.toInt ≤ 9) ∧ 1 ≤ n.toInt ∧ n.toInt ≤ 60) := (by (try clear hQ); (try subst ev11 ev4 ev1); ((try simp only [xb_eq, xb_ne, Int32.lt_iff_toInt_lt, Int32.le_iff_toInt_le] at *) <;> (try simp only [← Int32.toInt_inj, true_and, false_and, or_false, false_or, or_true, true_or, and_true, and_false] at *) <;> omega))
      have e : k_strokes F0 gas n = (-1000000000 - 1, errF F0 1) := if_neg hb0
      rw [e] at hQ hM
      subst ev11 ev4 ev1
      exact xQi (hQ _ (rel_err hR hM)) rfl rfl
