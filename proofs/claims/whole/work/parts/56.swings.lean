/-! thought: what is only thought, on both sides; swings, would, steady, least -/
/-- the class's scratch places -/
def scrC (F G : xF) : Prop := ∀ a, ¬ a = 10 → ¬ a = 13 → (a < 35 ∨ 52 < a) → G a = F a
/-- the model's -/
def scrM (F G : xF) : Prop := ∀ a, ¬ a = 68 → ¬ a = 71 → ¬ a = 72 → G a = F a
/-- and with its row -/
def rowM (F G : xF) : Prop := ∀ a, ¬ a = 66 → ¬ a = 71 → ¬ a = 72 → G a = F a
/-- a row that is only thought: people and texts are as they are -/
def like (T S : Nat → Int32) : Prop := ∀ j, 9 ≤ j → T j = S j
theorem like.refl (S : Nat → Int32) : like S S := fun _ _ => rfl
theorem like.go {T S : Nat → Int32} {g s : Int32} {P : Nat} (h : like T S) : like (goS T g s P) S := fun j hj => (goM_hi _ _ _ _ (by omega)).trans (h j hj)
theorem like.upd {T S : Nat → Int32} {n : Nat} {v : Int32} (h : like T S) (hn : n < 9) : like (upd T n v) S := fun j hj => (upd_ne (by omega)).trans (h j hj)
theorem mid_scr {F F1 : xF} (h : Rel F) (hf : scrC F F1) : Mid F F1 F := ⟨fun k hk => hf k (by omega) (by omega) (by omega), relC_scr h.1 (fun a h1 h2 h3 h4 => hf a h2 h3 h4)⟩
theorem rel_scr {F0 F G : xF} (h : Rel F0) (hM : Mid F0 F F0) (hf : scrM F G) : Rel G := by
  refine rel_end hM (fun k hk => hf k (by omega) (by omega) (by omega)) (fun k hk => ?_) h.2
  rw [hf k (by omega) (by omega) (by omega)]
  exact hM.1 k (by omega)
theorem rel_rowM {F0 F G : xF} {S' : Nat → Int32} (h : Rel F0) (hM : Mid F0 F (xrw F0 66 S')) (hi : invS S') (e : G 66 = S') (hf : rowM F G) : Rel G := by
  refine rel_end hM (fun k hk => hf k (by omega) (by omega) (by omega)) (fun k hk => ?_) (invM_S h.2 (by rw [xrw_same]; exact hi) (fun a ha => xrw_ne ha))
  by_cases h6 : k = 66
  · subst h6
    rw [xrw_same, e]
  · rw [xrw_ne h6, hf k h6 (by omega) (by omega)]
    exact hM.1 k (by omega)
theorem drv {F G : xF} {S T : Nat → Int32} (h : relW F 1 S) (hi : invS S) (hG : scrC F G) (hT : like T S) : relP G T (PN S) ∧ relL G 8 0 T ∧ okT 0 T ∧ relL G 11 1 T ∧ okT 1 T := by
  obtain ⟨eP, hP6⟩ := inv_PN hi.2.2.1
  obtain ⟨g1, g2, g3⟩ := h.2.1
  refine ⟨⟨?_, ?_, hP6, fun p hp => ⟨?_, ?_⟩⟩, relL_c h.2.2.1 hi.2.2.2.1 (hG _ (by decide) (by decide) (by decide)) (hG _ (by decide) (by decide) (by decide)) (fun j a b => hT j (by omega)), okT_c hi.2.2.2.1 (fun j a b => hT j (by omega)), relL_c h.2.2.2.1 hi.2.2.2.2.1 (hG _ (by decide) (by decide) (by decide)) (hG _ (by decide) (by decide) (by decide)) (fun j a b => hT j (by omega)), okT_c hi.2.2.2.2.1 (fun j a b => hT j (by omega))⟩
  · rw [hG 3 (by decide) (by decide) (by decide)]
    exact g1.trans eP
  · rw [hG 3 (by decide) (by decide) (by decide)]
    exact g2.trans eP
  · rw [hG 5 (by decide) (by decide) (by decide), hT _ (by omega)]
    exact (g3 p hp).1
  · rw [hG 7 (by decide) (by decide) (by decide), hT _ (by omega)]
    exact (g3 p hp).2
theorem c_drive35 {L : Nat} {xs : Nat → Int32} {d : Nat} {Q : Option Value → xF → Prop} {F G : xF} {S T : Nat → Int32} {gas set : Int32} (h : relW F 1 S) (hi : invS S) (hG : scrC F G) (hT : like T S) (hc : relCr (G 35) T) (hC : invC T) (hg : 0 ≤ gas.toInt ∧ gas.toInt ≤ 9)
    (hQ : ∀ G2 : xF, scrC F G2 → relCr (G2 35) (goS T gas set (PN S)) → Q (some (.int (xb (gripM T set (PN S) < gas)))) G2) : V2 L xs (d + 6) m_World_drive 0 (xEntry [.ref 1, .ref 35, .int gas, .int set] 4) [] G Q := by
  obtain ⟨a1, a2, a3, a4, a5⟩ := drv h hi hG hT
  refine c_World_drive_35 hc a1 a2 a3 a4 a5 hC hg (fun q10 q13 row hr => hQ _ (fun a h1 h2 h3 => ?_) ?_)
  · rw [xrw_ne (by omega), xrw_ne h2, xrw_ne h1]
    exact hG a h1 h2 h3
  · rw [xrw_same]
    exact hr
theorem relW_13 {F F' : xF} {S : Nat → Int32} (h : relW F 1 S) (hF : ∀ k, 1 ≤ k → k ≤ 17 → ¬ k = 10 → ¬ k = 13 → F' k = F k) : relW F' 1 S := by
  unfold relW relPw relTape relWait relL at *
  rw [hF (1 + 1) (by omega) (by omega) (by omega) (by omega), hF (1 + 2) (by omega) (by omega) (by omega) (by omega), hF (1 + 4) (by omega) (by omega) (by omega) (by omega), hF (1 + 6) (by omega) (by omega) (by omega) (by omega), hF (1 + 7) (by omega) (by omega) (by omega) (by omega), hF (1 + 7 + 1) (by omega) (by omega) (by omega) (by omega), hF (1 + 10) (by omega) (by omega) (by omega) (by omega), hF (1 + 10 + 1) (by omega) (by omega) (by omega) (by omega), hF (1 + 13) (by omega) (by omega) (by omega) (by omega), hF (1 + 14) (by omega) (by omega) (by omega) (by omega), hF (1 + 15) (by omega) (by omega) (by omega) (by omega), hF (1 + 16) (by omega) (by omega) (by omega) (by omega), hF 1 (by omega) (by omega) (by omega) (by omega)]
  exact h
theorem c_drive2 {L : Nat} {xs : Nat → Int32} {d : Nat} {Q : Option Value → xF → Prop} {G : xF} {S : Nat → Int32} {gas : Int32} (h : relW G 1 S) (hi : invS S) (hg : 0 ≤ gas.toInt ∧ gas.toInt ≤ 9)
    (hQ : ∀ G2 : xF, relW G2 1 (goS S gas 63 (PN S)) → (∀ k, (k = 0 ∨ 18 ≤ k) → G2 k = G k) → Q (some (.int (xb (gripM S 63 (PN S) < gas)))) G2) : V2 L xs (d + 6) m_World_drive 0 (xEntry [.ref 1, .ref 2, .int gas, .int (63 : Int32)] 4) [] G Q := by
  obtain ⟨a1, a2, a3, a4, a5⟩ := drv h hi (fun a _ _ _ => rfl) (like.refl S)
  refine c_World_drive_2 h.1 a1 a2 a3 a4 a5 hi.1 hg (fun q10 q13 row hr => hQ _ ?_ (fun k hk => ?_))
  · refine relW_low (F := xrw (xrw G 10 q10) 13 q13) (relW_13 h (fun k a b c d => (xrw_ne d).trans (xrw_ne c))) (fun j hj => goM_hi _ _ _ _ (by omega)) (fun k a b => xrw_ne (by omega)) ?_ ?_
    · rw [xrw_same]
      exact hr
    · rw [xrw_ne (by decide), xrw_ne (by decide), xrw_ne (by decide)]
      exact h.2.2.2.2.2.2.trans (goM_hi _ _ _ _ (by omega)).symm
  · rw [xrw_ne (by omega), xrw_ne (by omega), xrw_ne (by omega)]
theorem c_goesM {L : Nat} {xs : Nat → Int32} {d : Nat} {Q : Option Value → xF → Prop} {G : xF} {S : Nat → Int32} {gas : Int32} (hi : invS S) (hT : like (G 66) S)
    (hQ : ∀ G2 : xF, G2 66 = goS (G 66) gas (G 65 5) (PN S) → rowM G G2 → Q (some (.int (xb (gripM (G 66) (G 65 5) (PN S) < gas)))) G2) : V2 L xs (d + 4) m_R_goes 0 (xEntry [.ref 65, .int gas] 5) [] G Q := by
  obtain ⟨eP, hP6⟩ := inv_PN hi.2.2.1
  refine c_R_goes (P := PN S) (okT_c hi.2.2.2.1 (fun j a b => hT j (by omega))) (okT_c hi.2.2.2.2.1 (fun j a b => hT j (by omega))) ((hT 11 (by omega)).trans eP) hP6 (fun q71 q72 => hQ _ (xrw_same _ _ _) (fun a h1 h2 h3 => ?_))
  rw [xrw_ne h1, xrw_ne h3, xrw_ne h2]
theorem PN_like {T S : Nat → Int32} (h : like T S) : PN T = PN S := by
  unfold PN
  rw [h 11 (by omega)]
theorem goS_inv {S : Nat → Int32} {gas set : Int32} {P : Nat} (h : invS S) (h7 : (S 7).toInt < 9999) : invS (goS S gas set P) := by
  have e1 : (1 : Int32).toInt = 1 := by decide
  have h2 := h.2.1
  refine invS_low h (fun j hj => goM_hi _ _ _ _ (by omega)) (go_inv h.1) ?_
  show 0 ≤ (goM _ _ _ _ 7).toInt ∧ (goM _ _ _ _ 7).toInt ≤ 9999
  rw [goM_7, toI_add (by omega) (by omega) (by omega) (by omega)]
  omega
/-! draws -/
def nzS (z : Int32) : Int32 := z * 1103515245 + 12345
def gasS (z : Int32) : Int32 := (z.toUInt32 >>> 8).toInt32 % 10
theorem gas_range (z : Int32) : 0 ≤ (gasS z).toInt ∧ (gasS z).toInt ≤ 9 := by
  have h1 : ((z.toUInt32 >>> 8).toInt32).toInt = ((z.toBitVec >>> (8 : Nat)).toNat : Int) := by
    show (z.toBitVec >>> (8 : Nat)).toInt = _
    refine BitVec.toInt_eq_toNat_of_lt ?_
    rw [BitVec.toNat_ushiftRight, Nat.shiftRight_eq_div_pow]
    have := z.toBitVec.isLt
    omega
  have h2 : 0 ≤ ((z.toUInt32 >>> 8).toInt32).toInt := by rw [h1]; omega
  have h3 := mod10 h2
  unfold gasS
  omega
/-- a swing by a draw -/
noncomputable def stepD (S : Nat → Int32) : Nat → Int32 := goS (upd S 8 (nzS (S 8))) (gasS (nzS (S 8))) 63 (PN S)
theorem invS_z {S : Nat → Int32} {z : Int32} (h : invS S) : invS (upd S 8 z) := invS_low h (fun j hj => upd_ne (by omega)) (invC_c h.1 (fun j hj => upd_ne (by omega))) (by rw [upd_ne (by decide)]; exact h.2.1)
theorem relW_z {G : xF} {S : Nat → Int32} {z : Int32} (h : relW G 1 S) : relW (xp G 1 6 z) 1 (upd S 8 z) := by
  refine relW_low h (fun j hj => upd_ne (by omega)) (fun k a b => xp_row_ne (by omega)) ?_ ?_
  · rw [xp_row_ne (by decide)]
    exact relCr_c h.1 rfl (fun j hj => upd_ne (by omega))
  · rw [xp_same, upd_same]
theorem stepD_inv {S : Nat → Int32} (h : invS S) (h7 : (S 7).toInt < 9999) : invS (stepD S) := goS_inv (invS_z h) (by rw [upd_ne (by decide)]; exact h7)
theorem PN_z {S : Nat → Int32} {z : Int32} : PN (upd S 8 z) = PN S := PN_like ((like.refl S).upd (by decide))
theorem stepD_like {T S : Nat → Int32} (h : like T S) : like (stepD T) S := (h.upd (by decide)).go
noncomputable def swS : Nat → (Nat → Int32) → Nat × (Nat → Int32)
  | 0, S => (0, S)
  | n + 1, S => if (S 5).toInt = 1 ∨ 9999 ≤ (S 7).toInt then (0, S) else ((swS n (stepD S)).1 + 1, (swS n (stepD S)).2)
theorem swS_r {n : Nat} {S : Nat → Int32} (h : (S 5).toInt = 1 ∨ 9999 ≤ (S 7).toInt) : swS n S = (0, S) := by
  cases n with
  | zero => rfl
  | succ n => exact if_pos h
theorem swS_s {n : Nat} {S : Nat → Int32} (h : ¬ ((S 5).toInt = 1 ∨ 9999 ≤ (S 7).toInt)) : swS (n + 1) S = ((swS n (stepD S)).1 + 1, (swS n (stepD S)).2) := if_neg h
theorem swS_inv : ∀ (n : Nat) (S : Nat → Int32), invS S → invS (swS n S).2 := by
  intro n
  induction n with
  | zero => intro S h; exact h
  | succ n ih =>
    intro S hS
    by_cases h : (S 5).toInt = 1 ∨ 9999 ≤ (S 7).toInt
    · rw [swS_r h]
      exact hS
    · rw [swS_s h]
      exact ih _ (stepD_inv hS (by omega))
noncomputable def k_swings (F : xF) (n : Int32) : Int32 × xF := if 1 ≤ n.toInt ∧ n.toInt ≤ 40 then (if (F 66 5).toInt = 1 ∨ 9999 ≤ (F 66 7).toInt then (-1000000000 - 3, errF F 3) else (nI (swS n.toNatClampNeg (F 66)).1, xrw F 66 (swS n.toNatClampNeg (F 66)).2)) else (-1000000000 - 1, errF F 1)
set_option maxHeartbeats 2000000 in
theorem c_P_swings_loop {L : Nat} {xs : Nat → Int32} {d : Nat} {Q : Option Value → xF → Prop} {F : xF} {N : Nat} (hN : N ≤ 40) : ∀ (n_ : Nat) (k m : Nat) (G : xF) (S : Nat → Int32), k + m = N → m < n_ → relW G 1 S → invS S → (∀ a, (a = 0 ∨ 18 ≤ a) → G a = F a) → (∀ G2 : xF, relW G2 1 (swS m S).2 → (∀ a, (a = 0 ∨ 18 ≤ a) → G2 a = F a) → Q (some (.int (nI (k + (swS m S).1)))) G2) → V2 L xs (d + 7) m_P_swings 31 [some (.ref 0), some (.int (nI N)), some (.int (nI k))] [] G Q := by
  intro n_
  induction n_ with
  | zero => exact fun k m G S h1 h2 => absurd h2 (by omega)
  | succ n_ ih =>
    intro k m G S h1 h2 g1 hi g2 hQ
    have q0 : (0 : Int32).toInt = 0 := by decide
    have q1 : (1 : Int32).toInt = 1 := by decide
    have q9999 : (9999 : Int32).toInt = 9999 := by decide
    have c7 : G 2 7 = S 5 := g1.1.2.2.2.2.2.2.2
    have c5 : G 2 5 = S 7 := g1.1.2.2.2.2.2.1
    have s5 : S 5 = 0 ∨ S 5 = 1 := hi.1.2.2.2.2.2.1
    refine V2_iload_n (i := 2) d_P_swings_31 rfl rfl ?_
    refine V2_iload_n (i := 1) d_P_swings_32 rfl rfl ?_
    refine V2_icmp_ge (tgt := 93) d_P_swings_33 rfl (fun c1 => ?_) (fun c1 => ?_)
    · refine V2_iload_n (i := 2) d_P_swings_93 rfl rfl ?_
      refine V2_ireturn d_P_swings_94 rfl ?_
      have hm : m = 0 := by
        have := (nI_leI (by omega) (by omega)).mp c1
        omega
      subst hm
      exact hQ G g1 g2
    · have hkw : k < N := Nat.not_le.mp (fun hh => c1 ((nI_leI (by omega) (by omega)).mpr hh))
      refine V2_aload_n (i := 0) d_P_swings_36 rfl rfl ?_
      refine V2_callV [] d_P_swings_37 rfl rfl lk_P_192 mo_P_isAtRest (by decide) rfl rfl rfl (Nat.le_of_ble_eq_true rfl) (Nat.le_of_ble_eq_true rfl) ?_
      refine V2.to (l' := [some (.ref 0)]) ?_ rfl rfl rfl rfl
      refine V2_aload_n (i := 0) d_P_isAtRest_0 rfl rfl ?_
      refine V2_getr (a := 1) d_P_isAtRest_1 fl_P_10 (by decide) rfl (by decide) rfl ?_
      refine V2_getr (a := 2) d_P_isAtRest_4 fl_P_93 (by decide) rfl (by decide) rfl ?_
      refine V2_get (v := G 2 7) d_P_isAtRest_7 fl_P_237 (by decide) rfl (by decide) rfl rfl ?_
      refine V2_topi (fun v2 ev2 => ?_)
      refine V2_if_ne (tgt := 29) d_P_isAtRest_10 rfl (fun c3 => ?_) (fun c3 => ?_)
      · refine V2_iconst (v := 1) d_P_isAtRest_29 rfl ?_
        refine V2_goto (tgt := 34) d_P_isAtRest_30 rfl ?_
        refine V2_zreturn d_P_isAtRest_34 rfl (by decide) ?_
        refine V2.to (st' := [.int (1 : Int32)]) ?_ rfl rfl rfl rfl
        refine V2_if_ne (tgt := 93) d_P_swings_40 rfl (fun _ => ?_) (fun c => (by first | exact absurd c (by decide) | exact absurd (by decide) c))
        refine V2_iload_n (i := 2) d_P_swings_93 rfl rfl ?_
        refine V2_ireturn d_P_swings_94 rfl ?_
        have hr : (S 5).toInt = 1 ∨ 9999 ≤ (S 7).toInt := (by (try clear hQ); (try subst ev2); ((try simp only [xb_eq, xb_ne, Int32.lt_iff_toInt_lt, Int32.le_iff_toInt_le] at *) <;> (try simp only [← Int32.toInt_inj, true_and, false_and, or_false, false_or, or_true, true_or, and_true, and_false] at *) <;> omega))
        rw [swS_r hr] at hQ
        exact hQ G g1 g2
      · refine V2_aload_n (i := 0) d_P_isAtRest_13 rfl rfl ?_
        refine V2_getr (a := 1) d_P_isAtRest_14 fl_P_10 (by decide) rfl (by decide) rfl ?_
        refine V2_getr (a := 2) d_P_isAtRest_17 fl_P_93 (by decide) rfl (by decide) rfl ?_
        refine V2_get (v := G 2 5) d_P_isAtRest_20 fl_P_337 (by decide) rfl (by decide) rfl rfl ?_
        refine V2_topi (fun v4 ev4 => ?_)
        refine V2_sipush (v := 9999) d_P_isAtRest_23 rfl ?_
        refine V2_icmp_lt (tgt := 33) d_P_isAtRest_26 rfl (fun c5 => ?_) (fun c5 => ?_)
        · refine V2_iconst (v := 0) d_P_isAtRest_33 rfl ?_
          refine V2_zreturn d_P_isAtRest_34 rfl (by decide) ?_
          refine V2.to (st' := [.int (0 : Int32)]) ?_ rfl rfl rfl rfl
          refine V2_if_ne (tgt := 93) d_P_swings_40 rfl (fun c => (by first | exact absurd c (by decide) | exact absurd (by decide) c)) (fun _ => ?_)
          have hr : ¬ ((S 5).toInt = 1 ∨ 9999 ≤ (S 7).toInt) := (by (try clear hQ); (try subst ev4 ev2); ((try simp only [xb_eq, xb_ne, Int32.lt_iff_toInt_lt, Int32.le_iff_toInt_le] at *) <;> (try simp only [← Int32.toInt_inj, true_and, false_and, or_false, false_or, or_true, true_or, and_true, and_false] at *) <;> omega))
          obtain ⟨m, rfl⟩ : ∃ m2, m = m2 + 1 := ⟨m - 1, by omega⟩
          refine V2_aload_n (i := 0) d_P_swings_43 rfl rfl ?_
          refine V2_getr (a := 1) d_P_swings_44 fl_P_10 (by decide) rfl (by decide) rfl ?_
          refine V2_aload_n (i := 0) d_P_swings_47 rfl rfl ?_
          refine V2_getr (a := 1) d_P_swings_48 fl_P_10 (by decide) rfl (by decide) rfl ?_
          refine V2_get (v := G 1 6) d_P_swings_51 fl_P_202 (by decide) rfl (by decide) rfl rfl ?_
          refine V2_topi (fun v6 ev6 => ?_)
          refine V2_callS [.int v6] d_P_swings_54 rfl rfl lk_P_205 mo_P_drawnBehind (Nat.le_of_ble_eq_true rfl) (Nat.le_of_ble_eq_true rfl) ?_
          refine V2.to (l' := [some (.int v6)]) ?_ rfl rfl rfl rfl
          refine V2_iload_n (i := 0) d_P_drawnBehind_0 rfl rfl ?_
          refine V2_ldcw (v := 1103515245) d_P_drawnBehind_1 kc_P_347 ?_
          refine V2_imul d_P_drawnBehind_4 ?_
          refine V2_topi (fun v7 ev7 => ?_)
          refine V2_sipush (v := 12345) d_P_drawnBehind_5 rfl ?_
          refine V2_iadd d_P_drawnBehind_8 ?_
          refine V2_topi (fun v8 ev8 => ?_)
          refine V2_ireturn d_P_drawnBehind_9 rfl ?_
          refine V2.to (st' := [.int v8, .ref 1]) ?_ rfl rfl rfl rfl
          have ez : v8 = nzS (S 8) := by
            have h8 : G 1 6 = S 8 := g1.2.2.2.2.2.2
            subst ev8 ev7 ev6 ev4 ev2
            rw [h8]
            rfl
          rw [ez]
          refine V2_put d_P_swings_57 fl_P_202 (by decide) rfl (by decide) rfl ?_
          refine V2_aload_n (i := 0) d_P_swings_60 rfl rfl ?_
          refine V2_getr (a := 1) d_P_swings_61 fl_P_10 (by decide) rfl (by decide) rfl ?_
          refine V2_aload_n (i := 0) d_P_swings_64 rfl rfl ?_
          refine V2_getr (a := 1) d_P_swings_65 fl_P_10 (by decide) rfl (by decide) rfl ?_
          refine V2_getr (a := 2) d_P_swings_68 fl_P_93 (by decide) rfl (by decide) rfl ?_
          refine V2_aload_n (i := 0) d_P_swings_71 rfl rfl ?_
          refine V2_getr (a := 1) d_P_swings_72 fl_P_10 (by decide) rfl (by decide) rfl ?_
          refine V2_get (v := nzS (S 8)) d_P_swings_75 fl_P_202 (by decide) rfl (by decide) rfl rfl ?_
          refine V2_topi (fun v9 ev9 => ?_)
          refine V2_callS [.int v9] d_P_swings_78 rfl rfl lk_P_208 mo_P_gasOf (Nat.le_of_ble_eq_true rfl) (Nat.le_of_ble_eq_true rfl) ?_
          refine V2.to (l' := [some (.int v9)]) ?_ rfl rfl rfl rfl
          refine V2_iload_n (i := 0) d_P_gasOf_0 rfl rfl ?_
          refine V2_bipush (v := 8) d_P_gasOf_1 rfl ?_
          refine V2_iushr d_P_gasOf_3 ?_
          refine V2_topi (fun v10 ev10 => ?_)
          refine V2_bipush (v := 10) d_P_gasOf_4 rfl ?_
          refine V2_iremM d_P_gasOf_6 (by decide) ?_
          refine V2_topi (fun v11 ev11 => ?_)
          refine V2_ireturn d_P_gasOf_7 rfl ?_
          refine V2.to (st' := [.int v11, .ref 2, .ref 1]) ?_ rfl rfl rfl rfl
          refine V2_bipush (v := 63) d_P_swings_81 rfl ?_
          refine V2_callV [.ref 2, .int v11, .int (63 : Int32)] d_P_swings_83 rfl rfl lk_P_195 mo_World_drive (by decide) rfl rfl rfl (Nat.le_of_ble_eq_true rfl) (Nat.le_of_ble_eq_true rfl) ?_
          have eg : v11 = gasS (nzS (S 8)) := by
            subst ev11 ev10 ev9 ev8 ev7 ev6 ev4 ev2
            rfl
          rw [eg]
          refine c_drive2 (relW_z g1) (invS_z hi) (gas_range _) (fun G2 h1 h2 => ?_)
          rw [PN_z] at h1
          refine V2_topi (fun v12 ev12 => ?_)
          refine V2_pop d_P_swings_86 rfl ?_
          obtain ⟨v13, ev13⟩ : ∃ y : Int32, y = nI k + 1 := ⟨_, rfl⟩
          refine V2_iinc (i := 2) (v := v13) (l' := [some (.ref 0), some (.int (nI N)), some (.int v13)]) d_P_swings_87 rfl (by rw [ev13]; rfl) (xst_i (Nat.le_of_ble_eq_true rfl) rfl rfl) ?_
          refine V2_goto (tgt := 31) d_P_swings_90 rfl ?_
          rw [swS_s hr] at hQ
          rw [ev13, nI_1]
          exact V2.to (ih (k + 1) m G2 (stepD S) (by omega) (by omega) h1 (stepD_inv hi (by omega)) (fun a ha => (h2 a ha).trans ((xp_row_ne (by omega)).trans (g2 a ha))) (fun G3 h3 h4 => xQi (hQ G3 h3 h4) (congrArg nI (by show k + 1 + _ = k + (_ + 1); omega)) rfl)) rfl rfl rfl rfl
        · refine V2_iconst (v := 1) d_P_isAtRest_29 rfl ?_
          refine V2_goto (tgt := 34) d_P_isAtRest_30 rfl ?_
          refine V2_zreturn d_P_isAtRest_34 rfl (by decide) ?_
          refine V2.to (st' := [.int (1 : Int32)]) ?_ rfl rfl rfl rfl
          refine V2_if_ne (tgt := 93) d_P_swings_40 rfl (fun _ => ?_) (fun c => (by first | exact absurd c (by decide) | exact absurd (by decide) c))
          refine V2_iload_n (i := 2) d_P_swings_93 rfl rfl ?_
          refine V2_ireturn d_P_swings_94 rfl ?_
          have hr : (S 5).toInt = 1 ∨ 9999 ≤ (S 7).toInt := (by (try clear hQ); (try subst ev4 ev2); ((try simp only [xb_eq, xb_ne, Int32.lt_iff_toInt_lt, Int32.le_iff_toInt_le] at *) <;> (try simp only [← Int32.toInt_inj, true_and, false_and, or_false, false_or, or_true, true_or, and_true, and_false] at *) <;> omega))
          rw [swS_r hr] at hQ
          exact hQ G g1 g2
theorem c_cls_swings {L : Nat} {xs : Nat → Int32} {d : Nat} {Q : Option Value → xF → Prop} {F : xF} {n : Int32} (hR : Rel F) (hQ : ∀ F1, Mid F F1 (k_swings F n).2 → Q (some (.int (k_swings F n).1)) F1) : V2 L xs (d + 7) m_P_swings 0 (xEntry [.ref 0, .int n] 3) [] F Q := by
  have q0 : (0 : Int32).toInt = 0 := by decide
  have q1 : (1 : Int32).toInt = 1 := by decide
  have q2 : (2 : Int32).toInt = 2 := by decide
  have q3 : (3 : Int32).toInt = 3 := by decide
  have q4 : (4 : Int32).toInt = 4 := by decide
  have q5 : (5 : Int32).toInt = 5 := by decide
  have q6 : (6 : Int32).toInt = 6 := by decide
  have q7 : (7 : Int32).toInt = 7 := by decide
  have q8 : (8 : Int32).toInt = 8 := by decide
  have q9 : (9 : Int32).toInt = 9 := by decide
  have q10 : (10 : Int32).toInt = 10 := by decide
  have q12 : (12 : Int32).toInt = 12 := by decide
  have q16 : (16 : Int32).toInt = 16 := by decide
  have q20 : (20 : Int32).toInt = 20 := by decide
  have q24 : (24 : Int32).toInt = 24 := by decide
  have q30 : (30 : Int32).toInt = 30 := by decide
  have q32 : (32 : Int32).toInt = 32 := by decide
  have q40 : (40 : Int32).toInt = 40 := by decide
  have q60 : (60 : Int32).toInt = 60 := by decide
  have q69 : (69 : Int32).toInt = 69 := by decide
  have q99 : (99 : Int32).toInt = 99 := by decide
  have q9999 : (9999 : Int32).toInt = 9999 := by decide
  have q274 : (274 : Int32).toInt = 274 := by decide
  have q334 : (334 : Int32).toInt = 334 := by decide
  have g1 := hR.1.1
  have hi := hR.2.1
  have c7 : F 2 7 = F 66 5 := g1.1.2.2.2.2.2.2.2
  have c5 : F 2 5 = F 66 7 := g1.1.2.2.2.2.2.1
  have s5 : F 66 5 = 0 ∨ F 66 5 = 1 := hi.1.2.2.2.2.2.1
  refine V2.to (l' := [some (.ref 0), some (.int n), none]) ?_ rfl rfl rfl rfl
  refine V2_iload_n (i := 1) d_P_swings_0 rfl rfl ?_
  refine V2_iconst (v := 1) d_P_swings_1 rfl ?_
  refine V2_bipush (v := 40) d_P_swings_2 rfl ?_
  refine V2_callS [.int n, .int (1 : Int32), .int (40 : Int32)] d_P_swings_4 rfl rfl lk_P_133 mo_P_within (Nat.le_of_ble_eq_true rfl) (Nat.le_of_ble_eq_true rfl) ?_
  refine V2.to (l' := [some (.int n), some (.int (1 : Int32)), some (.int (40 : Int32))]) ?_ rfl rfl rfl rfl
  refine V2_iload_n (i := 0) d_P_within_0 rfl rfl ?_
  refine V2_iload_n (i := 1) d_P_within_1 rfl rfl ?_
  refine V2_icmp_lt (tgt := 14) d_P_within_2 rfl (fun c1 => ?_) (fun c1 => ?_)
  · refine V2_iconst (v := 0) d_P_within_14 rfl ?_
    refine V2_zreturn d_P_within_15 rfl (by decide) ?_
    refine V2.to (st' := [.int (0 : Int32)]) ?_ rfl rfl rfl rfl
    refine V2_if_ne (tgt := 16) d_P_swings_7 rfl (fun c => (by first | exact absurd c (by decide) | exact absurd (by decide) c)) (fun _ => ?_)
    refine V2_aload_n (i := 0) d_P_swings_10 rfl rfl ?_
    refine V2_iconst (v := 1) d_P_swings_11 rfl ?_
    refine V2_callV [.int (1 : Int32)] d_P_swings_12 rfl rfl lk_P_66 mo_P_fails (by decide) rfl rfl rfl (Nat.le_of_ble_eq_true rfl) (Nat.le_of_ble_eq_true rfl) ?_
    refine c_P_fails1 ?_
    refine V2_topi (fun v2 ev2 => ?_)
    refine V2_ireturn d_P_swings_15 rfl ?_
    have hb0 : ¬ (1 ≤ n.toInt ∧ n.toInt ≤ 40) := (by (try clear hQ); (try subst ev2); ((try simp only [xb_eq, xb_ne, Int32.lt_iff_toInt_lt, Int32.le_iff_toInt_le] at *) <;> (try simp only [← Int32.toInt_inj, true_and, false_and, or_false, false_or, or_true, true_or, and_true, and_false] at *) <;> omega))
    have e : k_swings F n = (-1000000000 - 1, errF F 1) := if_neg hb0
    rw [e] at hQ
    subst ev2
    exact xQi (hQ _ (mid_err hR (by decide))) rfl rfl
  · refine V2_iload_n (i := 0) d_P_within_5 rfl rfl ?_
    refine V2_iload_n (i := 2) d_P_within_6 rfl rfl ?_
    refine V2_icmp_gt (tgt := 14) d_P_within_7 rfl (fun c3 => ?_) (fun c3 => ?_)
    · refine V2_iconst (v := 0) d_P_within_14 rfl ?_
      refine V2_zreturn d_P_within_15 rfl (by decide) ?_
      refine V2.to (st' := [.int (0 : Int32)]) ?_ rfl rfl rfl rfl
      refine V2_if_ne (tgt := 16) d_P_swings_7 rfl (fun c => (by first | exact absurd c (by decide) | exact absurd (by decide) c)) (fun _ => ?_)
      refine V2_aload_n (i := 0) d_P_swings_10 rfl rfl ?_
      refine V2_iconst (v := 1) d_P_swings_11 rfl ?_
      refine V2_callV [.int (1 : Int32)] d_P_swings_12 rfl rfl lk_P_66 mo_P_fails (by decide) rfl rfl rfl (Nat.le_of_ble_eq_true rfl) (Nat.le_of_ble_eq_true rfl) ?_
      refine c_P_fails1 ?_
      refine V2_topi (fun v4 ev4 => ?_)
      refine V2_ireturn d_P_swings_15 rfl ?_
      have hb0 : ¬ (1 ≤ n.toInt ∧ n.toInt ≤ 40) := (by (try clear hQ); (try subst ev4); ((try simp only [xb_eq, xb_ne, Int32.lt_iff_toInt_lt, Int32.le_iff_toInt_le] at *) <;> (try simp only [← Int32.toInt_inj, true_and, false_and, or_false, false_or, or_true, true_or, and_true, and_false] at *) <;> omega))
      have e : k_swings F n = (-1000000000 - 1, errF F 1) := if_neg hb0
      rw [e] at hQ
      subst ev4
      exact xQi (hQ _ (mid_err hR (by decide))) rfl rfl
    · refine V2_iconst (v := 1) d_P_within_10 rfl ?_
      refine V2_goto (tgt := 15) d_P_within_11 rfl ?_
      refine V2_zreturn d_P_within_15 rfl (by decide) ?_
      refine V2.to (st' := [.int (1 : Int32)]) ?_ rfl rfl rfl rfl
      refine V2_if_ne (tgt := 16) d_P_swings_7 rfl (fun _ => ?_) (fun c => (by first | exact absurd c (by decide) | exact absurd (by decide) c))
      obtain ⟨p, hp, epp⟩ := in_of (x := n) (P := 41) (by (try clear hQ); (try skip); ((try simp only [xb_eq, xb_ne, Int32.lt_iff_toInt_lt, Int32.le_iff_toInt_le] at *) <;> (try simp only [← Int32.toInt_inj, true_and, false_and, or_false, false_or, or_true, true_or, and_true, and_false] at *) <;> omega)) (by (try clear hQ); (try skip); ((try simp only [xb_eq, xb_ne, Int32.lt_iff_toInt_lt, Int32.le_iff_toInt_le] at *) <;> (try simp only [← Int32.toInt_inj, true_and, false_and, or_false, false_or, or_true, true_or, and_true, and_false] at *) <;> omega)) (by omega)
      subst epp
      have np : (nI p).toInt = (p : Int) := nI_toInt (by omega)
      have kp : (nI p).toNatClampNeg = p := nI_clamp (by omega)
      refine V2_aload_n (i := 0) d_P_swings_16 rfl rfl ?_
      refine V2_callV [] d_P_swings_17 rfl rfl lk_P_192 mo_P_isAtRest (by decide) rfl rfl rfl (Nat.le_of_ble_eq_true rfl) (Nat.le_of_ble_eq_true rfl) ?_
      refine V2.to (l' := [some (.ref 0)]) ?_ rfl rfl rfl rfl
      refine V2_aload_n (i := 0) d_P_isAtRest_0 rfl rfl ?_
      refine V2_getr (a := 1) d_P_isAtRest_1 fl_P_10 (by decide) rfl (by decide) rfl ?_
      refine V2_getr (a := 2) d_P_isAtRest_4 fl_P_93 (by decide) rfl (by decide) rfl ?_
      refine V2_get (v := F 2 7) d_P_isAtRest_7 fl_P_237 (by decide) rfl (by decide) rfl rfl ?_
      refine V2_topi (fun v5 ev5 => ?_)
      refine V2_if_ne (tgt := 29) d_P_isAtRest_10 rfl (fun c6 => ?_) (fun c6 => ?_)
      · refine V2_iconst (v := 1) d_P_isAtRest_29 rfl ?_
        refine V2_goto (tgt := 34) d_P_isAtRest_30 rfl ?_
        refine V2_zreturn d_P_isAtRest_34 rfl (by decide) ?_
        refine V2.to (st' := [.int (1 : Int32)]) ?_ rfl rfl rfl rfl
        refine V2_if_eq (tgt := 29) d_P_swings_20 rfl (fun c => (by first | exact absurd c (by decide) | exact absurd (by decide) c)) (fun _ => ?_)
        refine V2_aload_n (i := 0) d_P_swings_23 rfl rfl ?_
        refine V2_iconst (v := 3) d_P_swings_24 rfl ?_
        refine V2_callV [.int (3 : Int32)] d_P_swings_25 rfl rfl lk_P_66 mo_P_fails (by decide) rfl rfl rfl (Nat.le_of_ble_eq_true rfl) (Nat.le_of_ble_eq_true rfl) ?_
        refine c_P_fails3 ?_
        refine V2_topi (fun v7 ev7 => ?_)
        refine V2_ireturn d_P_swings_28 rfl ?_
        have hb0 : 1 ≤ (nI p).toInt ∧ (nI p).toInt ≤ 40 := (by (try clear hQ); (try subst ev7 ev5); ((try simp only [xb_eq, xb_ne, Int32.lt_iff_toInt_lt, Int32.le_iff_toInt_le] at *) <;> (try simp only [← Int32.toInt_inj, true_and, false_and, or_false, false_or, or_true, true_or, and_true, and_false] at *) <;> omega))
        have hb1 : (F 66 5).toInt = 1 ∨ 9999 ≤ (F 66 7).toInt := (by (try clear hQ); (try subst ev7 ev5); ((try simp only [xb_eq, xb_ne, Int32.lt_iff_toInt_lt, Int32.le_iff_toInt_le] at *) <;> (try simp only [← Int32.toInt_inj, true_and, false_and, or_false, false_or, or_true, true_or, and_true, and_false] at *) <;> omega))
        have e : k_swings F (nI p) = (-1000000000 - 3, errF F 3) := (if_pos hb0).trans (if_pos hb1)
        rw [e] at hQ
        subst ev7 ev5
        exact xQi (hQ _ (mid_err hR (by decide))) rfl rfl
      · refine V2_aload_n (i := 0) d_P_isAtRest_13 rfl rfl ?_
        refine V2_getr (a := 1) d_P_isAtRest_14 fl_P_10 (by decide) rfl (by decide) rfl ?_
        refine V2_getr (a := 2) d_P_isAtRest_17 fl_P_93 (by decide) rfl (by decide) rfl ?_
        refine V2_get (v := F 2 5) d_P_isAtRest_20 fl_P_337 (by decide) rfl (by decide) rfl rfl ?_
        refine V2_topi (fun v8 ev8 => ?_)
        refine V2_sipush (v := 9999) d_P_isAtRest_23 rfl ?_
        refine V2_icmp_lt (tgt := 33) d_P_isAtRest_26 rfl (fun c9 => ?_) (fun c9 => ?_)
        · refine V2_iconst (v := 0) d_P_isAtRest_33 rfl ?_
          refine V2_zreturn d_P_isAtRest_34 rfl (by decide) ?_
          refine V2.to (st' := [.int (0 : Int32)]) ?_ rfl rfl rfl rfl
          refine V2_if_eq (tgt := 29) d_P_swings_20 rfl (fun _ => ?_) (fun c => (by first | exact absurd c (by decide) | exact absurd (by decide) c))
          refine V2_iconst (v := 0) d_P_swings_29 rfl ?_
          refine V2_istore_n (i := 2) (l' := [some (.ref 0), some (.int (nI p)), some (.int (0 : Int32))]) d_P_swings_30 rfl (xst_i (Nat.le_of_ble_eq_true rfl) rfl rfl) ?_
          have hb0 : 1 ≤ (nI p).toInt ∧ (nI p).toInt ≤ 40 := (by (try clear hQ); (try subst ev8 ev5); ((try simp only [xb_eq, xb_ne, Int32.lt_iff_toInt_lt, Int32.le_iff_toInt_le] at *) <;> (try simp only [← Int32.toInt_inj, true_and, false_and, or_false, false_or, or_true, true_or, and_true, and_false] at *) <;> omega))
          have hb1 : ¬ ((F 66 5).toInt = 1 ∨ 9999 ≤ (F 66 7).toInt) := (by (try clear hQ); (try subst ev8 ev5); ((try simp only [xb_eq, xb_ne, Int32.lt_iff_toInt_lt, Int32.le_iff_toInt_le] at *) <;> (try simp only [← Int32.toInt_inj, true_and, false_and, or_false, false_or, or_true, true_or, and_true, and_false] at *) <;> omega))
          have e : k_swings F (nI p) = (nI (swS p (F 66)).1, xrw F 66 (swS p (F 66)).2) := (if_pos hb0).trans ((if_neg hb1).trans (by rw [kp]))
          rw [e] at hQ
          exact V2.to (c_P_swings_loop (N := p) (by omega) (p + 1) 0 p F (F 66) (by omega) (by omega) hR.1.1 hR.2.1 (fun a _ => rfl) (fun G2 h1 h2 => by
            rw [Nat.zero_add]
            exact hQ G2 (mid_W hR (fun k hk => h2 k hk) h1))) rfl rfl rfl rfl
        · refine V2_iconst (v := 1) d_P_isAtRest_29 rfl ?_
          refine V2_goto (tgt := 34) d_P_isAtRest_30 rfl ?_
          refine V2_zreturn d_P_isAtRest_34 rfl (by decide) ?_
          refine V2.to (st' := [.int (1 : Int32)]) ?_ rfl rfl rfl rfl
          refine V2_if_eq (tgt := 29) d_P_swings_20 rfl (fun c => (by first | exact absurd c (by decide) | exact absurd (by decide) c)) (fun _ => ?_)
          refine V2_aload_n (i := 0) d_P_swings_23 rfl rfl ?_
          refine V2_iconst (v := 3) d_P_swings_24 rfl ?_
          refine V2_callV [.int (3 : Int32)] d_P_swings_25 rfl rfl lk_P_66 mo_P_fails (by decide) rfl rfl rfl (Nat.le_of_ble_eq_true rfl) (Nat.le_of_ble_eq_true rfl) ?_
          refine c_P_fails3 ?_
          refine V2_topi (fun v10 ev10 => ?_)
          refine V2_ireturn d_P_swings_28 rfl ?_
          have hb0 : 1 ≤ (nI p).toInt ∧ (nI p).toInt ≤ 40 := (by (try clear hQ); (try subst ev10 ev8 ev5); ((try simp only [xb_eq, xb_ne, Int32.lt_iff_toInt_lt, Int32.le_iff_toInt_le] at *) <;> (try simp only [← Int32.toInt_inj, true_and, false_and, or_false, false_or, or_true, true_or, and_true, and_false] at *) <;> omega))
          have hb1 : (F 66 5).toInt = 1 ∨ 9999 ≤ (F 66 7).toInt := (by (try clear hQ); (try subst ev10 ev8 ev5); ((try simp only [xb_eq, xb_ne, Int32.lt_iff_toInt_lt, Int32.le_iff_toInt_le] at *) <;> (try simp only [← Int32.toInt_inj, true_and, false_and, or_false, false_or, or_true, true_or, and_true, and_false] at *) <;> omega))
          have e : k_swings F (nI p) = (-1000000000 - 3, errF F 3) := (if_pos hb0).trans (if_pos hb1)
          rw [e] at hQ
          subst ev10 ev8 ev5
          exact xQi (hQ _ (mid_err hR (by decide))) rfl rfl
set_option maxHeartbeats 2000000 in
theorem c_R_swings_loop {L : Nat} {xs : Nat → Int32} {d : Nat} {Q : Option Value → xF → Prop} {F : xF} {N : Nat} (hN : N ≤ 40) (e63 : F 65 5 = 63) : ∀ (n_ : Nat) (k m : Nat) (G : xF), k + m = N → m < n_ → invS (G 66) → rowM F G → (∀ G2 : xF, G2 66 = (swS m (G 66)).2 → rowM F G2 → Q (some (.int (nI (k + (swS m (G 66)).1)))) G2) → V2 L xs (d + 5) m_R_swings 31 [some (.ref 65), some (.int (nI N)), some (.int (nI k)), none] [] G Q := by
  intro n_
  induction n_ with
  | zero => exact fun k m G h1 h2 => absurd h2 (by omega)
  | succ n_ ih =>
    intro k m G h1 h2 hi g2 hQ
    have q0 : (0 : Int32).toInt = 0 := by decide
    have q1 : (1 : Int32).toInt = 1 := by decide
    have q9999 : (9999 : Int32).toInt = 9999 := by decide
    have s5 : G 66 5 = 0 ∨ G 66 5 = 1 := hi.1.2.2.2.2.2.1
    refine V2_iload_n (i := 2) d_R_swings_31 rfl rfl ?_
    refine V2_iload_n (i := 1) d_R_swings_32 rfl rfl ?_
    refine V2_icmp_ge (tgt := 61) d_R_swings_33 rfl (fun c1 => ?_) (fun c1 => ?_)
    · refine V2_iload_n (i := 2) d_R_swings_61 rfl rfl ?_
      refine V2_ireturn d_R_swings_62 rfl ?_
      have hm : m = 0 := by
        have := (nI_leI (by omega) (by omega)).mp c1
        omega
      subst hm
      exact hQ G rfl g2
    · have hkw : k < N := Nat.not_le.mp (fun hh => c1 ((nI_leI (by omega) (by omega)).mpr hh))
      refine V2_aload_n (i := 0) d_R_swings_36 rfl rfl ?_
      refine V2_callV [] d_R_swings_37 rfl rfl lk_R_184 mo_R_canSwing (by decide) rfl rfl rfl (Nat.le_of_ble_eq_true rfl) (Nat.le_of_ble_eq_true rfl) ?_
      refine V2.to (l' := [some (.ref 65)]) ?_ rfl rfl rfl rfl
      refine V2_aload_n (i := 0) d_R_canSwing_0 rfl rfl ?_
      refine V2_callV [] d_R_canSwing_1 rfl rfl lk_R_152 mo_R_isOut (by decide) rfl rfl rfl (Nat.le_of_ble_eq_true rfl) (Nat.le_of_ble_eq_true rfl) ?_
      refine c_R_isOut ?_
      refine V2_topi (fun v2 ev2 => ?_)
      refine V2_if_ne (tgt := 24) d_R_canSwing_4 rfl (fun c3 => ?_) (fun c3 => ?_)
      · refine V2_iconst (v := 0) d_R_canSwing_24 rfl ?_
        refine V2_zreturn d_R_canSwing_25 rfl (by decide) ?_
        refine V2.to (st' := [.int (0 : Int32)]) ?_ rfl rfl rfl rfl
        refine V2_if_eq (tgt := 61) d_R_swings_40 rfl (fun _ => ?_) (fun c => (by first | exact absurd c (by decide) | exact absurd (by decide) c))
        refine V2_iload_n (i := 2) d_R_swings_61 rfl rfl ?_
        refine V2_ireturn d_R_swings_62 rfl ?_
        have hr : (G 66 5).toInt = 1 ∨ 9999 ≤ (G 66 7).toInt := (by (try clear hQ); (try subst ev2); ((try simp only [xb_eq, xb_ne, Int32.lt_iff_toInt_lt, Int32.le_iff_toInt_le] at *) <;> (try simp only [← Int32.toInt_inj, true_and, false_and, or_false, false_or, or_true, true_or, and_true, and_false] at *) <;> omega))
        rw [swS_r hr] at hQ
        exact hQ G rfl g2
      · refine V2_aload_n (i := 0) d_R_canSwing_7 rfl rfl ?_
        refine V2_getr (a := 66) d_R_canSwing_8 fl_R_7 (by decide) rfl (by decide) rfl ?_
        refine V2_bipush (v := 7) d_R_canSwing_11 rfl ?_
        refine V2_iaload (v := G 66 7) d_R_canSwing_13 (by decide) rfl (xixA (n := 7) rfl (by decide) (by decide)) rfl ?_
        refine V2_topi (fun v4 ev4 => ?_)
        refine V2_sipush (v := 9999) d_R_canSwing_14 rfl ?_
        refine V2_icmp_ge (tgt := 24) d_R_canSwing_17 rfl (fun c5 => ?_) (fun c5 => ?_)
        · refine V2_iconst (v := 0) d_R_canSwing_24 rfl ?_
          refine V2_zreturn d_R_canSwing_25 rfl (by decide) ?_
          refine V2.to (st' := [.int (0 : Int32)]) ?_ rfl rfl rfl rfl
          refine V2_if_eq (tgt := 61) d_R_swings_40 rfl (fun _ => ?_) (fun c => (by first | exact absurd c (by decide) | exact absurd (by decide) c))
          refine V2_iload_n (i := 2) d_R_swings_61 rfl rfl ?_
          refine V2_ireturn d_R_swings_62 rfl ?_
          have hr : (G 66 5).toInt = 1 ∨ 9999 ≤ (G 66 7).toInt := (by (try clear hQ); (try subst ev4 ev2); ((try simp only [xb_eq, xb_ne, Int32.lt_iff_toInt_lt, Int32.le_iff_toInt_le] at *) <;> (try simp only [← Int32.toInt_inj, true_and, false_and, or_false, false_or, or_true, true_or, and_true, and_false] at *) <;> omega))
          rw [swS_r hr] at hQ
          exact hQ G rfl g2
        · refine V2_iconst (v := 1) d_R_canSwing_20 rfl ?_
          refine V2_goto (tgt := 25) d_R_canSwing_21 rfl ?_
          refine V2_zreturn d_R_canSwing_25 rfl (by decide) ?_
          refine V2.to (st' := [.int (1 : Int32)]) ?_ rfl rfl rfl rfl
          refine V2_if_eq (tgt := 61) d_R_swings_40 rfl (fun c => (by first | exact absurd c (by decide) | exact absurd (by decide) c)) (fun _ => ?_)
          have hr : ¬ ((G 66 5).toInt = 1 ∨ 9999 ≤ (G 66 7).toInt) := (by (try clear hQ); (try subst ev4 ev2); ((try simp only [xb_eq, xb_ne, Int32.lt_iff_toInt_lt, Int32.le_iff_toInt_le] at *) <;> (try simp only [← Int32.toInt_inj, true_and, false_and, or_false, false_or, or_true, true_or, and_true, and_false] at *) <;> omega))
          obtain ⟨m, rfl⟩ : ∃ m2, m = m2 + 1 := ⟨m - 1, by omega⟩
          refine V2_aload_n (i := 0) d_R_swings_43 rfl rfl ?_
          refine V2_aload_n (i := 0) d_R_swings_44 rfl rfl ?_
          refine V2_callV [] d_R_swings_45 rfl rfl lk_R_187 mo_R_draw (by decide) rfl rfl rfl (Nat.le_of_ble_eq_true rfl) (Nat.le_of_ble_eq_true rfl) ?_
          refine c_R_draw ?_
          refine V2_topi (fun v6 ev6 => ?_)
          refine V2_bipush (v := 10) d_R_swings_48 rfl ?_
          refine V2_iremM d_R_swings_50 (by decide) ?_
          refine V2_topi (fun v7 ev7 => ?_)
          refine V2_callV [.int v7] d_R_swings_51 rfl rfl lk_R_155 mo_R_goes (by decide) rfl rfl rfl (Nat.le_of_ble_eq_true rfl) (Nat.le_of_ble_eq_true rfl) ?_
          have eg : v7 = gasS (nzS (G 66 8)) := by
            subst ev7 ev6 ev4 ev2
            rfl
          rw [eg]
          refine c_goesM (S := upd (G 66) 8 (nzS (G 66 8))) (invS_z hi) (fun j hj => congrFun (xp_at G 66 8 _) j) (fun G2 h1 h2 => ?_)
          rw [show xp G 66 8 (G 66 8 * 1103515245 + 12345) 66 = upd (G 66) 8 (nzS (G 66 8)) from xp_at _ _ _ _, PN_z] at h1
          refine V2_topi (fun v8 ev8 => ?_)
          refine V2_istore_n (i := 3) (l' := [some (.ref 65), some (.int (nI N)), some (.int (nI k)), some (.int v8)]) d_R_swings_54 rfl (xst_i (Nat.le_of_ble_eq_true rfl) rfl rfl) ?_
          obtain ⟨v9, ev9⟩ : ∃ y : Int32, y = nI k + 1 := ⟨_, rfl⟩
          refine V2_iinc (i := 2) (v := v9) (l' := [some (.ref 65), some (.int (nI N)), some (.int v9), some (.int v8)]) d_R_swings_55 rfl (by rw [ev9]; rfl) (xst_i (Nat.le_of_ble_eq_true rfl) rfl rfl) ?_
          refine V2_goto (tgt := 31) d_R_swings_58 rfl ?_
          rw [swS_s hr] at hQ
          rw [ev9, nI_1]
          have h63 : G 65 5 = 63 := (congrFun (g2 65 (by decide) (by decide) (by decide)) 5).trans e63
          have e9 : G2 66 = stepD (G 66) := by
            rw [h1, xp_row_ne (show ¬ 65 = 66 by decide), h63]
            rfl
          refine V2.weak (l' := [some (.ref 65), some (.int (nI N)), some (.int (nI (k + 1))), none]) ?_ ⟨rfl, rfl, rfl, trivial⟩
          refine V2.to (ih (k + 1) m G2 (by omega) (by omega) ?_ ?_ ?_) rfl rfl rfl rfl
          · rw [e9]
            exact stepD_inv hi (by omega)
          · exact fun a b c e => (h2 a b c e).trans ((xp_row_ne b).trans (g2 a b c e))
          · intro G3 h3 h4
            rw [e9] at h3 ⊢
            exact xQi (hQ G3 h3 h4) (congrArg nI (by show k + 1 + _ = k + (_ + 1); omega)) rfl
theorem c_mod_swings {L : Nat} {xs : Nat → Int32} {d : Nat} {Q : Option Value → xF → Prop} {F : xF} {n : Int32} {F0 : xF} (hR : Rel F0) (hM : Mid F0 F (k_swings F0 n).2) (hQ : ∀ F2, Rel F2 → Q (some (.int (k_swings F0 n).1)) F2) : V2 L xs (d + 5) m_R_swings 0 (xEntry [.ref 65, .int n] 4) [] F Q := by
  have q0 : (0 : Int32).toInt = 0 := by decide
  have q1 : (1 : Int32).toInt = 1 := by decide
  have q2 : (2 : Int32).toInt = 2 := by decide
  have q3 : (3 : Int32).toInt = 3 := by decide
  have q4 : (4 : Int32).toInt = 4 := by decide
  have q5 : (5 : Int32).toInt = 5 := by decide
  have q6 : (6 : Int32).toInt = 6 := by decide
  have q7 : (7 : Int32).toInt = 7 := by decide
  have q8 : (8 : Int32).toInt = 8 := by decide
  have q9 : (9 : Int32).toInt = 9 := by decide
  have q10 : (10 : Int32).toInt = 10 := by decide
  have q12 : (12 : Int32).toInt = 12 := by decide
  have q16 : (16 : Int32).toInt = 16 := by decide
  have q20 : (20 : Int32).toInt = 20 := by decide
  have q24 : (24 : Int32).toInt = 24 := by decide
  have q30 : (30 : Int32).toInt = 30 := by decide
  have q32 : (32 : Int32).toInt = 32 := by decide
  have q40 : (40 : Int32).toInt = 40 := by decide
  have q60 : (60 : Int32).toInt = 60 := by decide
  have q69 : (69 : Int32).toInt = 69 := by decide
  have q99 : (99 : Int32).toInt = 99 := by decide
  have q9999 : (9999 : Int32).toInt = 9999 := by decide
  have q274 : (274 : Int32).toInt = 274 := by decide
  have q334 : (334 : Int32).toInt = 334 := by decide
  have e66 : F 66 = F0 66 := hM.1 66 (by decide)
  have e66_5 : F 66 5 = F0 66 5 := congrFun e66 5
  have e66_7 : F 66 7 = F0 66 7 := congrFun e66 7
  have s5 : F0 66 5 = 0 ∨ F0 66 5 = 1 := hR.2.1.1.2.2.2.2.2.1
  refine V2.to (l' := [some (.ref 65), some (.int n), none, none]) ?_ rfl rfl rfl rfl
  refine V2_iload_n (i := 1) d_R_swings_0 rfl rfl ?_
  refine V2_iconst (v := 1) d_R_swings_1 rfl ?_
  refine V2_bipush (v := 40) d_R_swings_2 rfl ?_
  refine V2_callS [.int n, .int (1 : Int32), .int (40 : Int32)] d_R_swings_4 rfl rfl lk_R_51 mo_R_in (Nat.le_of_ble_eq_true rfl) (Nat.le_of_ble_eq_true rfl) ?_
  refine c_R_in ?_
  refine V2_topi (fun v1 ev1 => ?_)
  refine V2_if_ne (tgt := 16) d_R_swings_7 rfl (fun c2 => ?_) (fun c2 => ?_)
  · obtain ⟨p, hp, epp⟩ := in_of (x := n) (P := 41) (by (try clear hQ); (try subst ev1); ((try simp only [xb_eq, xb_ne, Int32.lt_iff_toInt_lt, Int32.le_iff_toInt_le] at *) <;> (try simp only [← Int32.toInt_inj, true_and, false_and, or_false, false_or, or_true, true_or, and_true, and_false] at *) <;> omega)) (by (try clear hQ); (try subst ev1); ((try simp only [xb_eq, xb_ne, Int32.lt_iff_toInt_lt, Int32.le_iff_toInt_le] at *) <;> (try simp only [← Int32.toInt_inj, true_and, false_and, or_false, false_or, or_true, true_or, and_true, and_false] at *) <;> omega)) (by omega)
    subst epp
    have np : (nI p).toInt = (p : Int) := nI_toInt (by omega)
    have kp : (nI p).toNatClampNeg = p := nI_clamp (by omega)
    refine V2_aload_n (i := 0) d_R_swings_16 rfl rfl ?_
    refine V2_callV [] d_R_swings_17 rfl rfl lk_R_184 mo_R_canSwing (by decide) rfl rfl rfl (Nat.le_of_ble_eq_true rfl) (Nat.le_of_ble_eq_true rfl) ?_
    refine V2.to (l' := [some (.ref 65)]) ?_ rfl rfl rfl rfl
    refine V2_aload_n (i := 0) d_R_canSwing_0 rfl rfl ?_
    refine V2_callV [] d_R_canSwing_1 rfl rfl lk_R_152 mo_R_isOut (by decide) rfl rfl rfl (Nat.le_of_ble_eq_true rfl) (Nat.le_of_ble_eq_true rfl) ?_
    refine c_R_isOut ?_
    refine V2_topi (fun v3 ev3 => ?_)
    refine V2_if_ne (tgt := 24) d_R_canSwing_4 rfl (fun c4 => ?_) (fun c4 => ?_)
    · refine V2_iconst (v := 0) d_R_canSwing_24 rfl ?_
      refine V2_zreturn d_R_canSwing_25 rfl (by decide) ?_
      refine V2.to (st' := [.int (0 : Int32)]) ?_ rfl rfl rfl rfl
      refine V2_if_ne (tgt := 29) d_R_swings_20 rfl (fun c => (by first | exact absurd c (by decide) | exact absurd (by decide) c)) (fun _ => ?_)
      refine V2_aload_n (i := 0) d_R_swings_23 rfl rfl ?_
      refine V2_iconst (v := 3) d_R_swings_24 rfl ?_
      refine V2_callV [.int (3 : Int32)] d_R_swings_25 rfl rfl lk_R_55 mo_R_error (by decide) rfl rfl rfl (Nat.le_of_ble_eq_true rfl) (Nat.le_of_ble_eq_true rfl) ?_
      refine c_R_error3 ?_
      refine V2_topi (fun v5 ev5 => ?_)
      refine V2_ireturn d_R_swings_28 rfl ?_
      have hb0 : 1 ≤ (nI p).toInt ∧ (nI p).toInt ≤ 40 := (by (try clear hQ); (try subst ev5 ev3 ev1); ((try simp only [xb_eq, xb_ne, Int32.lt_iff_toInt_lt, Int32.le_iff_toInt_le] at *) <;> (try simp only [← Int32.toInt_inj, true_and, false_and, or_false, false_or, or_true, true_or, and_true, and_false] at *) <;> omega))
      have hb1 : (F0 66 5).toInt = 1 ∨ 9999 ≤ (F0 66 7).toInt := (by (try clear hQ); (try subst ev5 ev3 ev1); ((try simp only [xb_eq, xb_ne, Int32.lt_iff_toInt_lt, Int32.le_iff_toInt_le] at *) <;> (try simp only [← Int32.toInt_inj, true_and, false_and, or_false, false_or, or_true, true_or, and_true, and_false] at *) <;> omega))
      have e : k_swings F0 (nI p) = (-1000000000 - 3, errF F0 3) := (if_pos hb0).trans (if_pos hb1)
      rw [e] at hQ hM
      subst ev5 ev3 ev1
      exact xQi (hQ _ (rel_err hR hM)) rfl rfl
    · refine V2_aload_n (i := 0) d_R_canSwing_7 rfl rfl ?_
      refine V2_getr (a := 66) d_R_canSwing_8 fl_R_7 (by decide) rfl (by decide) rfl ?_
      refine V2_bipush (v := 7) d_R_canSwing_11 rfl ?_
      refine V2_iaload (v := F 66 7) d_R_canSwing_13 (by decide) rfl (xixA (n := 7) rfl (by decide) (by decide)) rfl ?_
      refine V2_topi (fun v6 ev6 => ?_)
      refine V2_sipush (v := 9999) d_R_canSwing_14 rfl ?_
      refine V2_icmp_ge (tgt := 24) d_R_canSwing_17 rfl (fun c7 => ?_) (fun c7 => ?_)
      · refine V2_iconst (v := 0) d_R_canSwing_24 rfl ?_
        refine V2_zreturn d_R_canSwing_25 rfl (by decide) ?_
        refine V2.to (st' := [.int (0 : Int32)]) ?_ rfl rfl rfl rfl
        refine V2_if_ne (tgt := 29) d_R_swings_20 rfl (fun c => (by first | exact absurd c (by decide) | exact absurd (by decide) c)) (fun _ => ?_)
        refine V2_aload_n (i := 0) d_R_swings_23 rfl rfl ?_
        refine V2_iconst (v := 3) d_R_swings_24 rfl ?_
        refine V2_callV [.int (3 : Int32)] d_R_swings_25 rfl rfl lk_R_55 mo_R_error (by decide) rfl rfl rfl (Nat.le_of_ble_eq_true rfl) (Nat.le_of_ble_eq_true rfl) ?_
        refine c_R_error3 ?_
        refine V2_topi (fun v8 ev8 => ?_)
        refine V2_ireturn d_R_swings_28 rfl ?_
        have hb0 : 1 ≤ (nI p).toInt ∧ (nI p).toInt ≤ 40 := (by (try clear hQ); (try subst ev8 ev6 ev3 ev1); ((try simp only [xb_eq, xb_ne, Int32.lt_iff_toInt_lt, Int32.le_iff_toInt_le] at *) <;> (try simp only [← Int32.toInt_inj, true_and, false_and, or_false, false_or, or_true, true_or, and_true, and_false] at *) <;> omega))
        have hb1 : (F0 66 5).toInt = 1 ∨ 9999 ≤ (F0 66 7).toInt := (by (try clear hQ); (try subst ev8 ev6 ev3 ev1); ((try simp only [xb_eq, xb_ne, Int32.lt_iff_toInt_lt, Int32.le_iff_toInt_le] at *) <;> (try simp only [← Int32.toInt_inj, true_and, false_and, or_false, false_or, or_true, true_or, and_true, and_false] at *) <;> omega))
        have e : k_swings F0 (nI p) = (-1000000000 - 3, errF F0 3) := (if_pos hb0).trans (if_pos hb1)
        rw [e] at hQ hM
        subst ev8 ev6 ev3 ev1
        exact xQi (hQ _ (rel_err hR hM)) rfl rfl
      · refine V2_iconst (v := 1) d_R_canSwing_20 rfl ?_
        refine V2_goto (tgt := 25) d_R_canSwing_21 rfl ?_
        refine V2_zreturn d_R_canSwing_25 rfl (by decide) ?_
        refine V2.to (st' := [.int (1 : Int32)]) ?_ rfl rfl rfl rfl
        refine V2_if_ne (tgt := 29) d_R_swings_20 rfl (fun _ => ?_) (fun c => (by first | exact absurd c (by decide) | exact absurd (by decide) c))
        refine V2_iconst (v := 0) d_R_swings_29 rfl ?_
        refine V2_istore_n (i := 2) (l' := [some (.ref 65), some (.int (nI p)), some (.int (0 : Int32)), none]) d_R_swings_30 rfl (xst_i (Nat.le_of_ble_eq_true rfl) rfl rfl) ?_
        have hb0 : 1 ≤ (nI p).toInt ∧ (nI p).toInt ≤ 40 := (by (try clear hQ); (try subst ev6 ev3 ev1); ((try simp only [xb_eq, xb_ne, Int32.lt_iff_toInt_lt, Int32.le_iff_toInt_le] at *) <;> (try simp only [← Int32.toInt_inj, true_and, false_and, or_false, false_or, or_true, true_or, and_true, and_false] at *) <;> omega))
        have hb1 : ¬ ((F0 66 5).toInt = 1 ∨ 9999 ≤ (F0 66 7).toInt) := (by (try clear hQ); (try subst ev6 ev3 ev1); ((try simp only [xb_eq, xb_ne, Int32.lt_iff_toInt_lt, Int32.le_iff_toInt_le] at *) <;> (try simp only [← Int32.toInt_inj, true_and, false_and, or_false, false_or, or_true, true_or, and_true, and_false] at *) <;> omega))
        have e : k_swings F0 (nI p) = (nI (swS p (F0 66)).1, xrw F0 66 (swS p (F0 66)).2) := (if_pos hb0).trans ((if_neg hb1).trans (by rw [kp]))
        rw [e] at hQ hM
        refine V2.to (c_R_swings_loop (N := p) (F := F) (by omega) ((congrFun (hM.1 65 (by decide)) 5).trans hR.2.2.2.1) (p + 1) 0 p F (by omega) (by omega) (by rw [e66]; exact hR.2.1) (fun a _ _ _ => rfl) (fun G2 h1 h2 => ?_)) rfl rfl rfl rfl
        rw [e66] at h1 ⊢
        rw [Nat.zero_add]
        exact hQ G2 (rel_rowM hR hM (swS_inv _ _ hR.2.1) h1 h2)
  · refine V2_aload_n (i := 0) d_R_swings_10 rfl rfl ?_
    refine V2_iconst (v := 1) d_R_swings_11 rfl ?_
    refine V2_callV [.int (1 : Int32)] d_R_swings_12 rfl rfl lk_R_55 mo_R_error (by decide) rfl rfl rfl (Nat.le_of_ble_eq_true rfl) (Nat.le_of_ble_eq_true rfl) ?_
    refine c_R_error1 ?_
    refine V2_topi (fun v9 ev9 => ?_)
    refine V2_ireturn d_R_swings_15 rfl ?_
    have hb0 : ¬ (1 ≤ n.toInt ∧ n.toInt ≤ 40) := (by (try clear hQ); (try subst ev9 ev1); ((try simp only [xb_eq, xb_ne, Int32.lt_iff_toInt_lt, Int32.le_iff_toInt_le] at *) <;> (try simp only [← Int32.toInt_inj, true_and, false_and, or_false, false_or, or_true, true_or, and_true, and_false] at *) <;> omega))
    have e : k_swings F0 n = (-1000000000 - 1, errF F0 1) := if_neg hb0
    rw [e] at hQ hM
    subst ev9 ev1
    exact xQi (hQ _ (rel_err hR hM)) rfl rfl
