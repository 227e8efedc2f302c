/-! laid down and back; would; how long with like gas: steady, least -/
theorem c_R_layDown_loop {L : Nat} {xs : Nat → Int32} {d : Nat} {Q : Option Value → xF → Prop} {F : xF} (hQ : Q none (xrw F 68 (cutS (F 66) (F 68) 24))) : ∀ (n : Nat) (k : Nat), k ≤ 24 → 24 < n + k → V2 L xs d m_R_layDown 2 [some (.ref 65), some (.int (nI k))] [] (xrw F 68 (cutS (F 66) (F 68) k)) Q := by
  intro n
  induction n with
  | zero => exact fun k h1 h2 => absurd h2 (by omega)
  | succ n ih =>
    intro k h1 h2
    refine V2_iload_n (i := 1) d_R_layDown_2 rfl rfl ?_
    refine V2_bipush (v := 24) d_R_layDown_3 rfl ?_
    refine V2_icmp_ge (tgt := 26) d_R_layDown_5 rfl (fun c1 => ?_) (fun c1 => ?_)
    · refine V2_return d_R_layDown_26 rfl ?_
      have hk : k = 24 := by
        have := (nI_leI (a := 24) (b := k) (by omega) (by omega)).mp c1
        omega
      subst hk
      exact hQ
    · have hk : k < 24 := Nat.not_le.mp (fun hh => c1 ((nI_leI (a := 24) (b := k) (by omega) (by omega)).mpr hh))
      refine V2_aload_n (i := 0) d_R_layDown_8 rfl rfl ?_
      refine V2_getr (a := 68) d_R_layDown_9 fl_R_16 (by decide) rfl (by decide) rfl ?_
      refine V2_iload_n (i := 1) d_R_layDown_12 rfl rfl ?_
      refine V2_aload_n (i := 0) d_R_layDown_13 rfl rfl ?_
      refine V2_getr (a := 66) d_R_layDown_14 fl_R_7 (by decide) rfl (by decide) rfl ?_
      refine V2_iload_n (i := 1) d_R_layDown_17 rfl rfl ?_
      refine V2_ialoadJ (v := F 66 ((k))) (k) d_R_layDown_18 (by decide) rfl (xixA (n := k) rfl (by omega) (by decide)) (xixB (n := k) rfl (by omega)) rfl ?_
      refine V2_topi (fun v2 ev2 => ?_)
      refine V2_iastore (j := (k)) d_R_layDown_19 (by decide) rfl (xixA (n := k) rfl (by omega) (by decide)) (xixB (n := k) rfl (by omega)) ?_
      obtain ⟨v3, ev3⟩ : ∃ y : Int32, y = nI k + 1 := ⟨_, rfl⟩
      refine V2_iinc (i := 1) (v := v3) (l' := [some (.ref 65), some (.int v3)]) d_R_layDown_20 rfl (by rw [ev3]; rfl) (xst_r (Nat.le_of_ble_eq_true rfl) rfl rfl) ?_
      refine V2_goto (tgt := 2) d_R_layDown_23 rfl ?_
      exact V2.to (ih (k + 1) (by omega) (by omega)) rfl (by rw [ev3, nI_1]) rfl (by subst ev3 ev2; rw [xp_xrw, cutS_upd])
theorem c_R_layDown {L : Nat} {xs : Nat → Int32} {d : Nat} {Q : Option Value → xF → Prop} {F : xF}   (hQ : Q none (xrw F 68 (cutS (F 66) (F 68) 24))) : V2 L xs d m_R_layDown 0 (xEntry [.ref 65] 2) [] F Q := by
  refine V2.to (l' := [some (.ref 65), none]) ?_ rfl rfl rfl rfl
  refine V2_iconst (v := 0) d_R_layDown_0 rfl ?_
  refine V2_istore_n (i := 1) (l' := [some (.ref 65), some (.int (0 : Int32))]) d_R_layDown_1 rfl (xst_r (Nat.le_of_ble_eq_true rfl) rfl rfl) ?_
  exact V2.to (c_R_layDown_loop hQ 25 0 (by omega) (by omega)) rfl rfl rfl (by rw [show cutS (F 66) (F 68) 0 = F 68 from rfl, xrw_self])
theorem c_R_layBack_loop {L : Nat} {xs : Nat → Int32} {d : Nat} {Q : Option Value → xF → Prop} {F : xF} (hQ : Q none (xrw F 66 (cutS (F 68) (F 66) 24))) : ∀ (n : Nat) (k : Nat), k ≤ 24 → 24 < n + k → V2 L xs d m_R_layBack 2 [some (.ref 65), some (.int (nI k))] [] (xrw F 66 (cutS (F 68) (F 66) k)) Q := by
  intro n
  induction n with
  | zero => exact fun k h1 h2 => absurd h2 (by omega)
  | succ n ih =>
    intro k h1 h2
    refine V2_iload_n (i := 1) d_R_layBack_2 rfl rfl ?_
    refine V2_bipush (v := 24) d_R_layBack_3 rfl ?_
    refine V2_icmp_ge (tgt := 26) d_R_layBack_5 rfl (fun c1 => ?_) (fun c1 => ?_)
    · refine V2_return d_R_layBack_26 rfl ?_
      have hk : k = 24 := by
        have := (nI_leI (a := 24) (b := k) (by omega) (by omega)).mp c1
        omega
      subst hk
      exact hQ
    · have hk : k < 24 := Nat.not_le.mp (fun hh => c1 ((nI_leI (a := 24) (b := k) (by omega) (by omega)).mpr hh))
      refine V2_aload_n (i := 0) d_R_layBack_8 rfl rfl ?_
      refine V2_getr (a := 66) d_R_layBack_9 fl_R_7 (by decide) rfl (by decide) rfl ?_
      refine V2_iload_n (i := 1) d_R_layBack_12 rfl rfl ?_
      refine V2_aload_n (i := 0) d_R_layBack_13 rfl rfl ?_
      refine V2_getr (a := 68) d_R_layBack_14 fl_R_16 (by decide) rfl (by decide) rfl ?_
      refine V2_iload_n (i := 1) d_R_layBack_17 rfl rfl ?_
      refine V2_ialoadJ (v := F 68 ((k))) (k) d_R_layBack_18 (by decide) rfl (xixA (n := k) rfl (by omega) (by decide)) (xixB (n := k) rfl (by omega)) rfl ?_
      refine V2_topi (fun v2 ev2 => ?_)
      refine V2_iastore (j := (k)) d_R_layBack_19 (by decide) rfl (xixA (n := k) rfl (by omega) (by decide)) (xixB (n := k) rfl (by omega)) ?_
      obtain ⟨v3, ev3⟩ : ∃ y : Int32, y = nI k + 1 := ⟨_, rfl⟩
      refine V2_iinc (i := 1) (v := v3) (l' := [some (.ref 65), some (.int v3)]) d_R_layBack_20 rfl (by rw [ev3]; rfl) (xst_r (Nat.le_of_ble_eq_true rfl) rfl rfl) ?_
      refine V2_goto (tgt := 2) d_R_layBack_23 rfl ?_
      exact V2.to (ih (k + 1) (by omega) (by omega)) rfl (by rw [ev3, nI_1]) rfl (by subst ev3 ev2; rw [xp_xrw, cutS_upd])
theorem c_R_layBack {L : Nat} {xs : Nat → Int32} {d : Nat} {Q : Option Value → xF → Prop} {F : xF}   (hQ : Q none (xrw F 66 (cutS (F 68) (F 66) 24))) : V2 L xs d m_R_layBack 0 (xEntry [.ref 65] 2) [] F Q := by
  refine V2.to (l' := [some (.ref 65), none]) ?_ rfl rfl rfl rfl
  refine V2_iconst (v := 0) d_R_layBack_0 rfl ?_
  refine V2_istore_n (i := 1) (l' := [some (.ref 65), some (.int (0 : Int32))]) d_R_layBack_1 rfl (xst_r (Nat.le_of_ble_eq_true rfl) rfl rfl) ?_
  exact V2.to (c_R_layBack_loop hQ 25 0 (by omega) (by omega)) rfl rfl rfl (by rw [show cutS (F 68) (F 66) 0 = F 66 from rfl, xrw_self])
theorem c_layD {L : Nat} {xs : Nat → Int32} {d : Nat} {Q : Option Value → xF → Prop} {F : xF} (hQ : ∀ G : xF, (∀ j, j < 24 → G 68 j = F 66 j) → (∀ a, ¬ a = 68 → G a = F a) → Q none G) : V2 L xs d m_R_layDown 0 (xEntry [.ref 65] 2) [] F Q :=
  c_R_layDown (hQ _ (fun j hj => by rw [xrw_same]; exact cutS_in hj) (fun a ha => xrw_ne ha))
/-- laid back: the row is as it was -/
theorem c_layB {L : Nat} {xs : Nat → Int32} {d : Nat} {Q : Option Value → xF → Prop} {F : xF} {S : Nat → Int32} (h1 : ∀ j, j < 24 → F 68 j = S j) (h2 : ∀ j, 24 ≤ j → F 66 j = S j) (hQ : ∀ G : xF, G 66 = S → (∀ a, ¬ a = 66 → G a = F a) → Q none G) : V2 L xs d m_R_layBack 0 (xEntry [.ref 65] 2) [] F Q := by
  refine c_R_layBack (hQ _ ?_ (fun a ha => xrw_ne ha))
  rw [xrw_same]
  funext j
  by_cases h : j < 24
  · rw [cutS_in h, h1 j h]
  · show (if j < 24 then _ else _) = _
    rw [if_neg h, h2 j (by omega)]
/-- behind how many swings with like gas it is out, m at most -/
noncomputable def outN (g s : Int32) (P : Nat) : Nat → (Nat → Int32) → Option Nat
  | 0, T => if T 5 = 1 then some 0 else none
  | m + 1, T => if T 5 = 1 then some 0 else (outN g s P m (goS T g s P)).map (fun j => j + 1)
theorem outN_1 {g s : Int32} {P m : Nat} {T : Nat → Int32} (h : T 5 = 1) : outN g s P m T = some 0 := by
  cases m with
  | zero => exact if_pos h
  | succ m => exact if_pos h
theorem outN_0 {g s : Int32} {P : Nat} {T : Nat → Int32} (h : ¬ T 5 = 1) : outN g s P 0 T = none := if_neg h
theorem outN_s {g s : Int32} {P m : Nat} {T : Nat → Int32} (h : ¬ T 5 = 1) : outN g s P (m + 1) T = (outN g s P m (goS T g s P)).map (fun j => j + 1) := if_neg h
theorem outN_le {g s : Int32} {P : Nat} : ∀ (m : Nat) (T : Nat → Int32) (j : Nat), outN g s P m T = some j → j ≤ m := by
  intro m
  induction m with
  | zero =>
    intro T j h
    by_cases h5 : T 5 = 1
    · rw [outN_1 h5] at h
      cases h
      exact Nat.le_refl 0
    · rw [outN_0 h5] at h
      cases h
  | succ m ih =>
    intro T j h
    by_cases h5 : T 5 = 1
    · rw [outN_1 h5] at h
      cases h
      exact Nat.zero_le _
    · rw [outN_s h5] at h
      cases e : outN g s P m (goS T g s P) with
      | none => rw [e] at h; cases h
      | some i =>
        rw [e] at h
        cases h
        have := ih _ i e
        show i + 1 ≤ m + 1
        omega
def resK (k : Nat) : Option Nat → Int32
  | none => -1
  | some j => nI (k + j)
theorem resK_map {k : Nat} {o : Option Nat} : resK k (o.map (fun j => j + 1)) = resK (k + 1) o := by
  cases o with
  | none => rfl
  | some j => exact congrArg nI (by show k + (j + 1) = k + 1 + j; omega)
theorem resK_range {g s : Int32} {P m : Nat} {T : Nat → Int32} (hm : m ≤ 1000) : (outN g s P m T = none ∧ (resK 0 (outN g s P m T)).toInt = -1) ∨ (∃ j, j ≤ m ∧ outN g s P m T = some j ∧ (resK 0 (outN g s P m T)).toInt = (j : Int)) := by
  cases e : outN g s P m T with
  | none => exact Or.inl ⟨rfl, by decide⟩
  | some j =>
    have hj := outN_le m T j e
    refine Or.inr ⟨j, hj, rfl, ?_⟩
    show (nI (0 + j)).toInt = _
    rw [nI_toInt (by omega)]
    omega
theorem scrC.refl (F : xF) : scrC F F := fun _ _ _ _ => rfl
theorem scrC.car {F G G2 : xF} (h : scrC F G) (hf : ∀ k, ¬ k = 35 → G2 k = G k) : scrC F G2 := fun a h1 h2 h3 => (hf a (by omega)).trans (h a h1 h2 h3)
theorem c_World_tillOut_loop {L : Nat} {xs : Nat → Int32} {d : Nat} {Q : Option Value → xF → Prop} {F : xF} {S : Nat → Int32} {gas set : Int32} {M : Nat} (h : relW F 1 S) (hi : invS S) (hM : M ≤ 60) (hg : 0 ≤ gas.toInt ∧ gas.toInt ≤ 9) : ∀ (n_ : Nat) (k m : Nat) (G : xF) (T : Nat → Int32), k + m = M → m < n_ → scrC F G → relCr (G 35) T → like T S → invC T → (∀ G2 : xF, scrC F G2 → Q (some (.int (resK k (outN gas set (PN S) m T)))) G2) → V2 L xs (d + 7) m_World_swingsTillOut 3 [some (.ref 1), some (.ref 35), some (.int gas), some (.int (nI M)), some (.int set), some (.int (nI k))] [] G Q := by
  intro n_
  induction n_ with
  | zero => exact fun k m G T h1 h2 => absurd h2 (by omega)
  | succ n_ ih =>
    intro k m G T h1 h2 g1 hc hT hC hQ
    refine V2_iload (i := 5) d_World_swingsTillOut_3 rfl ?_
    refine V2_iload_n (i := 3) d_World_swingsTillOut_5 rfl rfl ?_
    refine V2_icmp_ge (tgt := 31) d_World_swingsTillOut_6 rfl (fun c1 => ?_) (fun c1 => ?_)
    · refine V2_aload_n (i := 1) d_World_swingsTillOut_31 rfl rfl ?_
      refine V2_get (v := G 35 7) d_World_swingsTillOut_32 fl_World_91 (by decide) rfl (by decide) rfl rfl ?_
      refine V2_topi (fun v2 ev2 => ?_)
      refine V2_if_eq (tgt := 43) d_World_swingsTillOut_35 rfl (fun c3 => ?_) (fun c3 => ?_)
      · refine V2_iconst (v := -1) d_World_swingsTillOut_43 rfl ?_
        refine V2_ireturn d_World_swingsTillOut_44 rfl ?_
        have hm : m = 0 := by
          have := (nI_leI (by omega) (by omega)).mp c1
          omega
        have h5 : ¬ T 5 = 1 := by
          intro h
          have h9 := c3
          subst ev2
          rw [hc.2.2.2.2.2.2.2, h] at h9
          exact absurd h9 (by decide)
        subst hm
        rw [outN_0 h5] at hQ
        exact hQ G g1
      · refine V2_iload (i := 5) d_World_swingsTillOut_38 rfl ?_
        refine V2_goto (tgt := 44) d_World_swingsTillOut_40 rfl ?_
        refine V2_ireturn d_World_swingsTillOut_44 rfl ?_
        have hm : m = 0 := by
          have := (nI_leI (by omega) (by omega)).mp c1
          omega
        have h5 : T 5 = 1 := by
          have h9 := c3
          subst ev2
          rw [hc.2.2.2.2.2.2.2] at h9
          exact hC.2.2.2.2.2.1.resolve_left h9
        rw [outN_1 h5] at hQ
        exact hQ G g1
    · have hkw : k < M := Nat.not_le.mp (fun hh => c1 ((nI_leI (by omega) (by omega)).mpr hh))
      obtain ⟨m, rfl⟩ : ∃ m2, m = m2 + 1 := ⟨m - 1, by omega⟩
      refine V2_aload_n (i := 1) d_World_swingsTillOut_9 rfl rfl ?_
      refine V2_get (v := G 35 7) d_World_swingsTillOut_10 fl_World_91 (by decide) rfl (by decide) rfl rfl ?_
      refine V2_topi (fun v4 ev4 => ?_)
      refine V2_if_ne (tgt := 31) d_World_swingsTillOut_13 rfl (fun c5 => ?_) (fun c5 => ?_)
      · refine V2_aload_n (i := 1) d_World_swingsTillOut_31 rfl rfl ?_
        refine V2_get (v := G 35 7) d_World_swingsTillOut_32 fl_World_91 (by decide) rfl (by decide) rfl rfl ?_
        refine V2_topi (fun v6 ev6 => ?_)
        refine V2_if_eq (tgt := 43) d_World_swingsTillOut_35 rfl (fun c7 => ?_) (fun c7 => ?_)
        · refine V2_iconst (v := -1) d_World_swingsTillOut_43 rfl ?_
          refine V2_ireturn d_World_swingsTillOut_44 rfl ?_
          exfalso
          exact (by (try clear hQ); (try subst ev6 ev4); ((try simp only [xb_eq, xb_ne, Int32.lt_iff_toInt_lt, Int32.le_iff_toInt_le] at *) <;> (try simp only [← Int32.toInt_inj, true_and, false_and, or_false, false_or, or_true, true_or, and_true, and_false] at *) <;> omega))
        · refine V2_iload (i := 5) d_World_swingsTillOut_38 rfl ?_
          refine V2_goto (tgt := 44) d_World_swingsTillOut_40 rfl ?_
          refine V2_ireturn d_World_swingsTillOut_44 rfl ?_
          have h5 : T 5 = 1 := by
            have h9 := c7
            subst ev6 ev4
            rw [hc.2.2.2.2.2.2.2] at h9
            exact hC.2.2.2.2.2.1.resolve_left h9
          rw [outN_1 h5] at hQ
          exact hQ G g1
      · have h5 : ¬ T 5 = 1 := by
          intro h
          have h9 := c5
          subst ev4
          rw [hc.2.2.2.2.2.2.2, h] at h9
          exact absurd h9 (by decide)
        refine V2_aload_n (i := 0) d_World_swingsTillOut_16 rfl rfl ?_
        refine V2_aload_n (i := 1) d_World_swingsTillOut_17 rfl rfl ?_
        refine V2_iload_n (i := 2) d_World_swingsTillOut_18 rfl rfl ?_
        refine V2_iload (i := 4) d_World_swingsTillOut_19 rfl ?_
        refine V2_callV [.ref 35, .int gas, .int set] d_World_swingsTillOut_21 rfl rfl lk_World_95 mo_World_drive (by decide) rfl rfl rfl (Nat.le_of_ble_eq_true rfl) (Nat.le_of_ble_eq_true rfl) ?_
        refine c_drive35 h hi g1 hT hc hC hg (fun G2 h1 h2 => ?_)
        refine V2_topi (fun v8 ev8 => ?_)
        refine V2_pop d_World_swingsTillOut_24 rfl ?_
        obtain ⟨v9, ev9⟩ : ∃ y : Int32, y = nI k + 1 := ⟨_, rfl⟩
        refine V2_iinc (i := 5) (v := v9) (l' := [some (.ref 1), some (.ref 35), some (.int gas), some (.int (nI M)), some (.int set), some (.int v9)]) d_World_swingsTillOut_25 rfl (by rw [ev9]; rfl) (xst_i (Nat.le_of_ble_eq_true rfl) rfl rfl) ?_
        refine V2_goto (tgt := 3) d_World_swingsTillOut_28 rfl ?_
        rw [outN_s h5, resK_map] at hQ
        rw [ev9, nI_1]
        exact V2.to (ih (k + 1) m G2 (goS T gas set (PN S)) (by omega) (by omega) h1 h2 hT.go (go_inv hC) hQ) rfl rfl rfl rfl
theorem c_World_tillOut {L : Nat} {xs : Nat → Int32} {d : Nat} {Q : Option Value → xF → Prop} {F : xF} {G : xF} {S T : Nat → Int32} {gas set : Int32} {M : Nat} (h : relW F 1 S) (hi : invS S) (hM : M ≤ 60) (hg : 0 ≤ gas.toInt ∧ gas.toInt ≤ 9) (g1 : scrC F G) (hc : relCr (G 35) T) (hT : like T S) (hC : invC T) (hQ : ∀ G2 : xF, scrC F G2 → Q (some (.int (resK 0 (outN gas set (PN S) M T)))) G2) : V2 L xs (d + 7) m_World_swingsTillOut 0 (xEntry [.ref 1, .ref 35, .int gas, .int (nI M), .int set] 6) [] G Q := by
  refine V2.to (l' := [some (.ref 1), some (.ref 35), some (.int gas), some (.int (nI M)), some (.int set), none]) ?_ rfl rfl rfl rfl
  refine V2_iconst (v := 0) d_World_swingsTillOut_0 rfl ?_
  refine V2_istore (i := 5) (l' := [some (.ref 1), some (.ref 35), some (.int gas), some (.int (nI M)), some (.int set), some (.int (0 : Int32))]) d_World_swingsTillOut_1 (xst_i (Nat.le_of_ble_eq_true rfl) rfl rfl) ?_
  exact V2.to (c_World_tillOut_loop h hi hM hg (M + 1) 0 M G T (by omega) (by omega) g1 hc hT hC hQ) rfl rfl rfl rfl
theorem c_P_tillOut {L : Nat} {xs : Nat → Int32} {d : Nat} {Q : Option Value → xF → Prop} {F : xF} {gas : Int32} (hR : Rel F) (hg : 0 ≤ gas.toInt ∧ gas.toInt ≤ 9) (hQ : ∀ G2 : xF, scrC F G2 → Q (some (.int (resK 0 (outN gas 63 (PN (F 66)) 60 (F 66))))) G2) : V2 L xs (d + 8) m_P_swingsTillOut 0 (xEntry [.ref 0, .int gas] 2) [] F Q := by
  refine V2.to (l' := [some (.ref 0), some (.int gas)]) ?_ rfl rfl rfl rfl
  refine V2_aload_n (i := 0) d_P_swingsTillOut_0 rfl rfl ?_
  refine V2_getr (a := 35) d_P_swingsTillOut_1 fl_P_22 (by decide) rfl (by decide) rfl ?_
  refine V2_aload_n (i := 0) d_P_swingsTillOut_4 rfl rfl ?_
  refine V2_getr (a := 1) d_P_swingsTillOut_5 fl_P_10 (by decide) rfl (by decide) rfl ?_
  refine V2_getr (a := 2) d_P_swingsTillOut_8 fl_P_93 (by decide) rfl (by decide) rfl ?_
  refine V2_callV [.ref 2] d_P_swingsTillOut_11 rfl rfl lk_P_227 mo_Car_copyFrom (by decide) rfl rfl rfl (Nat.le_of_ble_eq_true rfl) (Nat.le_of_ble_eq_true rfl) ?_
  refine c_Car_copy_35_2 (by rw [show F 2 7 = F 66 5 from hR.1.1.1.2.2.2.2.2.2.2]; exact hR.2.1.1.2.2.2.2.2.1) (fun G p0 g0 => ?_)
  refine V2_aload_n (i := 0) d_P_swingsTillOut_14 rfl rfl ?_
  refine V2_getr (a := 1) d_P_swingsTillOut_15 fl_P_10 (by decide) rfl (by decide) rfl ?_
  refine V2_aload_n (i := 0) d_P_swingsTillOut_18 rfl rfl ?_
  refine V2_getr (a := 35) d_P_swingsTillOut_19 fl_P_22 (by decide) rfl (by decide) rfl ?_
  refine V2_iload_n (i := 1) d_P_swingsTillOut_22 rfl rfl ?_
  refine V2_bipush (v := 60) d_P_swingsTillOut_23 rfl ?_
  refine V2_bipush (v := 63) d_P_swingsTillOut_25 rfl ?_
  refine V2_callV [.ref 35, .int gas, .int (60 : Int32), .int (63 : Int32)] d_P_swingsTillOut_27 rfl rfl lk_P_265 mo_World_swingsTillOut (by decide) rfl rfl rfl (Nat.le_of_ble_eq_true rfl) (Nat.le_of_ble_eq_true rfl) ?_
  refine c_World_tillOut (M := 60) hR.1.1 hR.2.1 (by decide) hg ((scrC.refl F).car g0) (relCr_row hR.1.1.1 p0) (like.refl _) hR.2.1.1 (fun G2 h2 => ?_)
  refine V2_topi (fun v1 ev1 => ?_)
  refine V2_ireturn d_P_swingsTillOut_30 rfl ?_
  subst ev1
  exact hQ G2 h2
theorem c_R_outBy_loop {L : Nat} {xs : Nat → Int32} {d : Nat} {Q : Option Value → xF → Prop} {F : xF} {S : Nat → Int32} {gas set : Int32} {M : Nat} (hi : invS S) (hM : M ≤ 60) (e65 : F 65 5 = set) : ∀ (n_ : Nat) (k m : Nat) (G : xF), k + m = M → m < n_ → rowM F G → like (G 66) S → (∀ (k2 : Nat) (G2 : xF), rowM F G2 → like (G2 66) S → resK k (outN gas set (PN S) m (G 66)) = resK k (outN gas set (PN S) m (G 66)) → resK k (outN gas set (PN S) m (G 66)) = (if G2 66 5 = 1 then nI k2 else -1) → V2 L xs (d + 5) m_R_outBy 31 [some (.ref 65), some (.int gas), some (.int (nI M)), some (.int (nI k2)), none] [] G2 Q) → V2 L xs (d + 5) m_R_outBy 6 [some (.ref 65), some (.int gas), some (.int (nI M)), some (.int (nI k)), none] [] G Q := by
  intro n_
  induction n_ with
  | zero => exact fun k m G h1 h2 => absurd h2 (by omega)
  | succ n_ ih =>
    intro k m G h1 h2 g1 hT hK
    refine V2_aload_n (i := 0) d_R_outBy_6 rfl rfl ?_
    refine V2_callV [] d_R_outBy_7 rfl rfl lk_R_152 mo_R_isOut (by decide) rfl rfl rfl (Nat.le_of_ble_eq_true rfl) (Nat.le_of_ble_eq_true rfl) ?_
    refine c_R_isOut ?_
    refine V2_topi (fun v1 ev1 => ?_)
    refine V2_if_ne (tgt := 31) d_R_outBy_10 rfl (fun c2 => ?_) (fun c2 => ?_)
    · have h5 : G 66 5 = 1 := xb_ne.mp (by have h8 := c2; subst ev1; exact h8)
      rw [outN_1 h5] at hK
      refine V2.weak (l' := [some (.ref 65), some (.int gas), some (.int (nI M)), some (.int (nI k)), none]) ?_ ⟨rfl, rfl, rfl, rfl, trivial⟩
      exact V2.to (hK k G g1 hT rfl (if_pos h5).symm) rfl rfl rfl rfl
    · refine V2_iload_n (i := 3) d_R_outBy_13 rfl rfl ?_
      refine V2_iload_n (i := 2) d_R_outBy_14 rfl rfl ?_
      refine V2_icmp_ge (tgt := 31) d_R_outBy_15 rfl (fun c3 => ?_) (fun c3 => ?_)
      · have h5 : ¬ G 66 5 = 1 := xb_eq.mp (by have h8 := c2; subst ev1; exact h8)
        have hm : m = 0 := by
          have := (nI_leI (by omega) (by omega)).mp c3
          omega
        subst hm
        rw [outN_0 h5] at hK
        refine V2.weak (l' := [some (.ref 65), some (.int gas), some (.int (nI M)), some (.int (nI k)), none]) ?_ ⟨rfl, rfl, rfl, rfl, trivial⟩
        exact V2.to (hK k G g1 hT rfl (if_neg h5).symm) rfl rfl rfl rfl
      · have hkw : k < M := Nat.not_le.mp (fun hh => c3 ((nI_leI (by omega) (by omega)).mpr hh))
        obtain ⟨m, rfl⟩ : ∃ m2, m = m2 + 1 := ⟨m - 1, by omega⟩
        have h5 : ¬ G 66 5 = 1 := xb_eq.mp (by have h8 := c2; subst ev1; exact h8)
        refine V2_aload_n (i := 0) d_R_outBy_18 rfl rfl ?_
        refine V2_iload_n (i := 1) d_R_outBy_19 rfl rfl ?_
        refine V2_callV [.int gas] d_R_outBy_20 rfl rfl lk_R_155 mo_R_goes (by decide) rfl rfl rfl (Nat.le_of_ble_eq_true rfl) (Nat.le_of_ble_eq_true rfl) ?_
        refine c_goesM hi hT (fun G2 h1 h2 => ?_)
        refine V2_topi (fun v4 ev4 => ?_)
        refine V2_istore (i := 4) (l' := [some (.ref 65), some (.int gas), some (.int (nI M)), some (.int (nI k)), some (.int v4)]) d_R_outBy_23 (xst_i (Nat.le_of_ble_eq_true rfl) rfl rfl) ?_
        obtain ⟨v5, ev5⟩ : ∃ y : Int32, y = nI k + 1 := ⟨_, rfl⟩
        refine V2_iinc (i := 3) (v := v5) (l' := [some (.ref 65), some (.int gas), some (.int (nI M)), some (.int v5), some (.int v4)]) d_R_outBy_25 rfl (by rw [ev5]; rfl) (xst_i (Nat.le_of_ble_eq_true rfl) rfl rfl) ?_
        refine V2_goto (tgt := 6) d_R_outBy_28 rfl ?_
        rw [ev5, nI_1]
        refine V2.weak (l' := [some (.ref 65), some (.int gas), some (.int (nI M)), some (.int (nI (k + 1))), none]) ?_ ⟨rfl, rfl, rfl, rfl, trivial⟩
        refine V2.to (ih (k + 1) m G2 (by omega) (by omega) (fun a b c e => (h2 a b c e).trans (g1 a b c e)) (by rw [h1]; exact hT.go) ?_) rfl rfl rfl rfl
        rw [h1, (congrFun (g1 65 (by decide) (by decide) (by decide)) 5).trans e65]
        rw [outN_s h5, resK_map] at hK
        exact hK
theorem c_R_outBy_end {L : Nat} {xs : Nat → Int32} {d : Nat} {Q : Option Value → xF → Prop} {F : xF} {H F0 : xF} {gas : Int32} {M k2 : Nat} {w : Int32} (p0 : ∀ j, j < 24 → H 68 j = F0 66 j) (g0 : ∀ a, ¬ a = 68 → H a = F0 a) (r1 : rowM H F) (r2 : ∀ j, 24 ≤ j → F 66 j = F0 66 j) (r3 : w = (if F 66 5 = 1 then nI k2 else -1)) (hQ : ∀ G : xF, scrM F0 G → Q (some (.int w)) G) : V2 L xs (d + 5) m_R_outBy 31 ([some (.ref 65), some (.int gas), some (.int (nI M)), some (.int (nI k2)), none]) [] F Q := by
  refine V2_aload_n (i := 0) d_R_outBy_31 rfl rfl ?_
  refine V2_callV [] d_R_outBy_32 rfl rfl lk_R_152 mo_R_isOut (by decide) rfl rfl rfl (Nat.le_of_ble_eq_true rfl) (Nat.le_of_ble_eq_true rfl) ?_
  refine c_R_isOut ?_
  refine V2_topi (fun v1 ev1 => ?_)
  refine V2_istore (i := 4) (l' := [some (.ref 65), some (.int gas), some (.int (nI M)), some (.int (nI k2)), some (.int v1)]) d_R_outBy_35 (xst_i (Nat.le_of_ble_eq_true rfl) rfl rfl) ?_
  refine V2_aload_n (i := 0) d_R_outBy_37 rfl rfl ?_
  refine V2_callV [] d_R_outBy_38 rfl rfl lk_R_158 mo_R_layBack (by decide) rfl rfl rfl (Nat.le_of_ble_eq_true rfl) (Nat.le_of_ble_eq_true rfl) ?_
  refine c_layB (S := F0 66) (fun j hj => (congrFun (r1 68 (by decide) (by decide) (by decide)) j).trans (p0 j hj)) r2 (fun G3 b1 b2 => ?_)
  refine V2_iload (i := 4) d_R_outBy_41 rfl ?_
  refine V2_if_eq (tgt := 50) d_R_outBy_43 rfl (fun c2 => ?_) (fun c2 => ?_)
  · refine V2_iconst (v := -1) d_R_outBy_50 rfl ?_
    refine V2_ireturn d_R_outBy_51 rfl ?_
    have hfin := hQ G3 (fun a h1 h2 h3 => by
      by_cases h6 : a = 66
      · rw [h6]
        exact b1
      · rw [b2 a h6, r1 a h6 h2 h3, g0 a h1])
    have h9 := c2
    subst ev1
    rw [r3, if_neg (xb_eq.mp h9)] at hfin
    exact hfin
  · refine V2_iload_n (i := 3) d_R_outBy_46 rfl rfl ?_
    refine V2_goto (tgt := 51) d_R_outBy_47 rfl ?_
    refine V2_ireturn d_R_outBy_51 rfl ?_
    have hfin := hQ G3 (fun a h1 h2 h3 => by
      by_cases h6 : a = 66
      · rw [h6]
        exact b1
      · rw [b2 a h6, r1 a h6 h2 h3, g0 a h1])
    have h9 := c2
    subst ev1
    rw [r3, if_pos (xb_ne.mp h9)] at hfin
    exact hfin
theorem c_R_outBy {L : Nat} {xs : Nat → Int32} {d : Nat} {Q : Option Value → xF → Prop} {F : xF} {S : Nat → Int32} {gas set : Int32} {M : Nat} (hi : invS S) (hT : like (F 66) S) (hM : M ≤ 60) (e65 : F 65 5 = set) (hQ : ∀ G : xF, scrM F G → Q (some (.int (resK 0 (outN gas set (PN S) M (F 66))))) G) : V2 L xs (d + 5) m_R_outBy 0 (xEntry [.ref 65, .int gas, .int (nI M)] 5) [] F Q := by
  refine V2.to (l' := [some (.ref 65), some (.int gas), some (.int (nI M)), none, none]) ?_ rfl rfl rfl rfl
  refine V2_aload_n (i := 0) d_R_outBy_0 rfl rfl ?_
  refine V2_callV [] d_R_outBy_1 rfl rfl lk_R_149 mo_R_layDown (by decide) rfl rfl rfl (Nat.le_of_ble_eq_true rfl) (Nat.le_of_ble_eq_true rfl) ?_
  refine c_layD (fun H p0 g0 => ?_)
  refine V2_iconst (v := 0) d_R_outBy_4 rfl ?_
  refine V2_istore_n (i := 3) (l' := [some (.ref 65), some (.int gas), some (.int (nI M)), some (.int (0 : Int32)), none]) d_R_outBy_5 rfl (xst_i (Nat.le_of_ble_eq_true rfl) rfl rfl) ?_
  have e6 : H 66 = F 66 := g0 66 (by decide)
  refine V2.to (c_R_outBy_loop (F := H) (S := S) (set := set) hi hM ((congrFun (g0 65 (by decide)) 5).trans e65) (M + 1) 0 M H (by omega) (by omega) (fun a _ _ _ => rfl) (by rw [e6]; exact hT) (fun k2 G2 r1 r2 _ r3 => ?_)) rfl rfl rfl rfl
  rw [e6] at r3
  exact V2.to (c_R_outBy_end (F0 := F) (H := H) p0 g0 r1 (fun j hj => (r2 j (by omega)).trans (hT j (by omega)).symm) r3 hQ) rfl rfl rfl rfl
noncomputable def k_steady (F : xF) (gas : Int32) : Int32 × xF := if 0 ≤ gas.toInt ∧ gas.toInt ≤ 9 then (if (resK 0 (outN gas 63 (PN (F 66)) 60 (F 66))).toInt < 0 then (-1000000000 - 2, errF F 2) else (resK 0 (outN gas 63 (PN (F 66)) 60 (F 66)), F)) else (-1000000000 - 1, errF F 1)
theorem mid_scr_err {F G : xF} {k : Nat} (h : Rel F) (hf : scrC F G) (hk : k < 7) : Mid F (xp G 56 k (G 56 k + 1)) (errF F k) := by
  have e := mid_err h hk
  refine ⟨fun a ha => (xp_row_ne (by omega)).trans (hf a (by omega) (by omega) (by omega)), relC_scr e.2 (fun a h1 h2 h3 h4 => ?_)⟩
  have e6 : G 56 = F 56 := hf 56 (by decide) (by decide) (by decide)
  by_cases h56 : a = 56
  · subst h56
    rw [xp_at, xp_at, e6]
  · rw [xp_row_ne h56, xp_row_ne h56]
    exact hf a h2 h3 h4
theorem rel_scr_err {F0 F G : xF} {k : Nat} (h : Rel F0) (hM : Mid F0 F (errF F0 k)) (hf : scrM F G) : Rel (xp G 69 k (G 69 k + 1)) := by
  have e := rel_err h hM
  have e9 : G 69 = F 69 := hf 69 (by decide) (by decide) (by decide)
  have ef : ∀ a, ¬ a = 68 → ¬ a = 71 → ¬ a = 72 → xp G 69 k (G 69 k + 1) a = xp F 69 k (F 69 k + 1) a := by
    intro a h1 h2 h3
    by_cases h69 : a = 69
    · subst h69
      rw [xp_at, xp_at, e9]
    · rw [xp_row_ne h69, xp_row_ne h69]
      exact hf a h1 h2 h3
  refine ⟨relC_mo (relC_cl e.1 (fun a ha => ef a (by omega) (by omega) (by omega))) (fun a ha => ef a (by omega) (by omega) (by omega)), invM_mo e.2 (fun a ha => ef a (by omega) (by omega) (by omega))⟩
theorem c_cls_steady {L : Nat} {xs : Nat → Int32} {d : Nat} {Q : Option Value → xF → Prop} {F : xF} {gas : Int32} (hR : Rel F) (hQ : ∀ F1, Mid F F1 (k_steady F gas).2 → Q (some (.int (k_steady F gas).1)) F1) : V2 L xs (d + 9) m_P_steady 0 (xEntry [.ref 0, .int gas] 3) [] F Q := by
  have q0 : (0 : Int32).toInt = 0 := by decide
  have q1 : (1 : Int32).toInt = 1 := by decide
  have q2 : (2 : Int32).toInt = 2 := by decide
  have q3 : (3 : Int32).toInt = 3 := by decide
  have q4 : (4 : Int32).toInt = 4 := by decide
  have q5 : (5 : Int32).toInt = 5 := by decide
  have q6 : (6 : Int32).toInt = 6 := by decide
  have q7 : (7 : Int32).toInt = 7 := by decide
  have q8 : (8 : Int32).toInt = 8 := by decide
  have q9 : (9 : Int32).toInt = 9 := by decide
  have q10 : (10 : Int32).toInt = 10 := by decide
  have q12 : (12 : Int32).toInt = 12 := by decide
  have q16 : (16 : Int32).toInt = 16 := by decide
  have q20 : (20 : Int32).toInt = 20 := by decide
  have q24 : (24 : Int32).toInt = 24 := by decide
  have q30 : (30 : Int32).toInt = 30 := by decide
  have q32 : (32 : Int32).toInt = 32 := by decide
  have q40 : (40 : Int32).toInt = 40 := by decide
  have q60 : (60 : Int32).toInt = 60 := by decide
  have q69 : (69 : Int32).toInt = 69 := by decide
  have q99 : (99 : Int32).toInt = 99 := by decide
  have q9999 : (9999 : Int32).toInt = 9999 := by decide
  have q274 : (274 : Int32).toInt = 274 := by decide
  have q334 : (334 : Int32).toInt = 334 := by decide
  have qm : (-1 : Int32).toInt = -1 := by decide
  refine V2.to (l' := [some (.ref 0), some (.int gas), none]) ?_ rfl rfl rfl rfl
  refine V2_iload_n (i := 1) d_P_steady_0 rfl rfl ?_
  refine V2_callS [.int gas] d_P_steady_1 rfl rfl lk_P_189 mo_P_isGas (Nat.le_of_ble_eq_true rfl) (Nat.le_of_ble_eq_true rfl) ?_
  refine V2.to (l' := [some (.int gas)]) ?_ rfl rfl rfl rfl
  refine V2_iload_n (i := 0) d_P_isGas_0 rfl rfl ?_
  refine V2_iconst (v := 0) d_P_isGas_1 rfl ?_
  refine V2_bipush (v := 9) d_P_isGas_2 rfl ?_
  refine V2_callS [.int gas, .int (0 : Int32), .int (9 : Int32)] d_P_isGas_4 rfl rfl lk_P_133 mo_P_within (Nat.le_of_ble_eq_true rfl) (Nat.le_of_ble_eq_true rfl) ?_
  refine V2.to (l' := [some (.int gas), some (.int (0 : Int32)), some (.int (9 : Int32))]) ?_ rfl rfl rfl rfl
  refine V2_iload_n (i := 0) d_P_within_0 rfl rfl ?_
  refine V2_iload_n (i := 1) d_P_within_1 rfl rfl ?_
  refine V2_icmp_lt (tgt := 14) d_P_within_2 rfl (fun c1 => ?_) (fun c1 => ?_)
  · refine V2_iconst (v := 0) d_P_within_14 rfl ?_
    refine V2_zreturn d_P_within_15 rfl (by decide) ?_
    refine V2.to (st' := [.int (0 : Int32)]) ?_ rfl rfl rfl rfl
    refine V2_zreturn d_P_isGas_7 rfl (by decide) ?_
    refine V2.to (st' := [.int (0 : Int32)]) ?_ rfl rfl rfl rfl
    refine V2_if_ne (tgt := 13) d_P_steady_4 rfl (fun c => (by first | exact absurd c (by decide) | exact absurd (by decide) c)) (fun _ => ?_)
    refine V2_aload_n (i := 0) d_P_steady_7 rfl rfl ?_
    refine V2_iconst (v := 1) d_P_steady_8 rfl ?_
    refine V2_callV [.int (1 : Int32)] d_P_steady_9 rfl rfl lk_P_66 mo_P_fails (by decide) rfl rfl rfl (Nat.le_of_ble_eq_true rfl) (Nat.le_of_ble_eq_true rfl) ?_
    refine c_P_fails1 ?_
    refine V2_topi (fun v2 ev2 => ?_)
    refine V2_ireturn d_P_steady_12 rfl ?_
    have hb0 : ¬ (0 ≤ gas.toInt ∧ gas.toInt ≤ 9) := (by (try clear hQ); (try subst ev2); ((try simp only [xb_eq, xb_ne, Int32.lt_iff_toInt_lt, Int32.le_iff_toInt_le] at *) <;> (try simp only [← Int32.toInt_inj, true_and, false_and, or_false, false_or, or_true, true_or, and_true, and_false] at *) <;> omega))
    have e : k_steady F gas = (-1000000000 - 1, errF F 1) := if_neg hb0
    rw [e] at hQ
    subst ev2
    exact xQi (hQ _ (mid_err hR (by decide))) rfl rfl
  · refine V2_iload_n (i := 0) d_P_within_5 rfl rfl ?_
    refine V2_iload_n (i := 2) d_P_within_6 rfl rfl ?_
    refine V2_icmp_gt (tgt := 14) d_P_within_7 rfl (fun c3 => ?_) (fun c3 => ?_)
    · refine V2_iconst (v := 0) d_P_within_14 rfl ?_
      refine V2_zreturn d_P_within_15 rfl (by decide) ?_
      refine V2.to (st' := [.int (0 : Int32)]) ?_ rfl rfl rfl rfl
      refine V2_zreturn d_P_isGas_7 rfl (by decide) ?_
      refine V2.to (st' := [.int (0 : Int32)]) ?_ rfl rfl rfl rfl
      refine V2_if_ne (tgt := 13) d_P_steady_4 rfl (fun c => (by first | exact absurd c (by decide) | exact absurd (by decide) c)) (fun _ => ?_)
      refine V2_aload_n (i := 0) d_P_steady_7 rfl rfl ?_
      refine V2_iconst (v := 1) d_P_steady_8 rfl ?_
      refine V2_callV [.int (1 : Int32)] d_P_steady_9 rfl rfl lk_P_66 mo_P_fails (by decide) rfl rfl rfl (Nat.le_of_ble_eq_true rfl) (Nat.le_of_ble_eq_true rfl) ?_
      refine c_P_fails1 ?_
      refine V2_topi (fun v4 ev4 => ?_)
      refine V2_ireturn d_P_steady_12 rfl ?_
      have hb0 : ¬ (0 ≤ gas.toInt ∧ gas.toInt ≤ 9) := (by (try clear hQ); (try subst ev4); ((try simp only [xb_eq, xb_ne, Int32.lt_iff_toInt_lt, Int32.le_iff_toInt_le] at *) <;> (try simp only [← Int32.toInt_inj, true_and, false_and, or_false, false_or, or_true, true_or, and_true, and_false] at *) <;> omega))
      have e : k_steady F gas = (-1000000000 - 1, errF F 1) := if_neg hb0
      rw [e] at hQ
      subst ev4
      exact xQi (hQ _ (mid_err hR (by decide))) rfl rfl
    · refine V2_iconst (v := 1) d_P_within_10 rfl ?_
      refine V2_goto (tgt := 15) d_P_within_11 rfl ?_
      refine V2_zreturn d_P_within_15 rfl (by decide) ?_
      refine V2.to (st' := [.int (1 : Int32)]) ?_ rfl rfl rfl rfl
      refine V2_zreturn d_P_isGas_7 rfl (by decide) ?_
      refine V2.to (st' := [.int (1 : Int32)]) ?_ rfl rfl rfl rfl
      refine V2_if_ne (tgt := 13) d_P_steady_4 rfl (fun _ => ?_) (fun c => (by first | exact absurd c (by decide) | exact absurd (by decide) c))
      refine V2_aload_n (i := 0) d_P_steady_13 rfl rfl ?_
      refine V2_iload_n (i := 1) d_P_steady_14 rfl rfl ?_
      refine V2_callV [.int gas] d_P_steady_15 rfl rfl lk_P_254 mo_P_swingsTillOut (by decide) rfl rfl rfl (Nat.le_of_ble_eq_true rfl) (Nat.le_of_ble_eq_true rfl) ?_
      refine c_P_tillOut hR (by (try clear hQ); (try skip); ((try simp only [xb_eq, xb_ne, Int32.lt_iff_toInt_lt, Int32.le_iff_toInt_le] at *) <;> (try simp only [← Int32.toInt_inj, true_and, false_and, or_false, false_or, or_true, true_or, and_true, and_false] at *) <;> omega)) (fun G2 h2 => ?_)
      refine V2_topi (fun v5 ev5 => ?_)
      refine V2_istore_n (i := 2) (l' := [some (.ref 0), some (.int gas), some (.int v5)]) d_P_steady_18 rfl (xst_i (Nat.le_of_ble_eq_true rfl) rfl rfl) ?_
      refine V2_iload_n (i := 2) d_P_steady_19 rfl rfl ?_
      refine V2_if_ge (tgt := 31) d_P_steady_20 rfl (fun c6 => ?_) (fun c6 => ?_)
      · refine V2_iload_n (i := 2) d_P_steady_31 rfl rfl ?_
        refine V2_ireturn d_P_steady_32 rfl ?_
        have hrr := resK_range (g := gas) (s := 63) (P := PN (F 66)) (m := 60) (T := F 66) (by omega)
        have hb0 : 0 ≤ gas.toInt ∧ gas.toInt ≤ 9 := (by (try clear hQ); (try subst ev5); ((try simp only [xb_eq, xb_ne, Int32.lt_iff_toInt_lt, Int32.le_iff_toInt_le] at *) <;> (try simp only [← Int32.toInt_inj, true_and, false_and, or_false, false_or, or_true, true_or, and_true, and_false] at *) <;> omega))
        have hb1 : ¬ ((resK 0 (outN gas 63 (PN (F 66)) 60 (F 66))).toInt < 0) := (by (try clear hQ); (try subst ev5); ((try simp only [xb_eq, xb_ne, Int32.lt_iff_toInt_lt, Int32.le_iff_toInt_le] at *) <;> (try simp only [← Int32.toInt_inj, true_and, false_and, or_false, false_or, or_true, true_or, and_true, and_false] at *) <;> omega))
        have e : k_steady F gas = (resK 0 (outN gas 63 (PN (F 66)) 60 (F 66)), F) := (if_pos hb0).trans (if_neg hb1)
        rw [e] at hQ
        subst ev5
        exact xQi (hQ G2 (mid_scr hR h2)) rfl rfl
      · refine V2_aload_n (i := 0) d_P_steady_23 rfl rfl ?_
        refine V2_iconst (v := 2) d_P_steady_24 rfl ?_
        refine V2_callV [.int (2 : Int32)] d_P_steady_25 rfl rfl lk_P_66 mo_P_fails (by decide) rfl rfl rfl (Nat.le_of_ble_eq_true rfl) (Nat.le_of_ble_eq_true rfl) ?_
        refine c_P_fails2 ?_
        refine V2_topi (fun v7 ev7 => ?_)
        refine V2_goto (tgt := 32) d_P_steady_28 rfl ?_
        refine V2_ireturn d_P_steady_32 rfl ?_
        have hrr := resK_range (g := gas) (s := 63) (P := PN (F 66)) (m := 60) (T := F 66) (by omega)
        have hb0 : 0 ≤ gas.toInt ∧ gas.toInt ≤ 9 := (by (try clear hQ); (try subst ev7 ev5); ((try simp only [xb_eq, xb_ne, Int32.lt_iff_toInt_lt, Int32.le_iff_toInt_le] at *) <;> (try simp only [← Int32.toInt_inj, true_and, false_and, or_false, false_or, or_true, true_or, and_true, and_false] at *) <;> omega))
        have hb1 : (resK 0 (outN gas 63 (PN (F 66)) 60 (F 66))).toInt < 0 := (by (try clear hQ); (try subst ev7 ev5); ((try simp only [xb_eq, xb_ne, Int32.lt_iff_toInt_lt, Int32.le_iff_toInt_le] at *) <;> (try simp only [← Int32.toInt_inj, true_and, false_and, or_false, false_or, or_true, true_or, and_true, and_false] at *) <;> omega))
        have e : k_steady F gas = (-1000000000 - 2, errF F 2) := (if_pos hb0).trans (if_pos hb1)
        rw [e] at hQ
        subst ev7 ev5
        exact xQi (hQ _ (mid_scr_err hR h2 (by decide))) rfl rfl
theorem c_mod_steady {L : Nat} {xs : Nat → Int32} {d : Nat} {Q : Option Value → xF → Prop} {F : xF} {gas : Int32} {F0 : xF} (hR : Rel F0) (hM : Mid F0 F (k_steady F0 gas).2) (hQ : ∀ F2, Rel F2 → Q (some (.int (k_steady F0 gas).1)) F2) : V2 L xs (d + 6) m_R_steady 0 (xEntry [.ref 65, .int gas] 3) [] F Q := by
  have q0 : (0 : Int32).toInt = 0 := by decide
  have q1 : (1 : Int32).toInt = 1 := by decide
  have q2 : (2 : Int32).toInt = 2 := by decide
  have q3 : (3 : Int32).toInt = 3 := by decide
  have q4 : (4 : Int32).toInt = 4 := by decide
  have q5 : (5 : Int32).toInt = 5 := by decide
  have q6 : (6 : Int32).toInt = 6 := by decide
  have q7 : (7 : Int32).toInt = 7 := by decide
  have q8 : (8 : Int32).toInt = 8 := by decide
  have q9 : (9 : Int32).toInt = 9 := by decide
  have q10 : (10 : Int32).toInt = 10 := by decide
  have q12 : (12 : Int32).toInt = 12 := by decide
  have q16 : (16 : Int32).toInt = 16 := by decide
  have q20 : (20 : Int32).toInt = 20 := by decide
  have q24 : (24 : Int32).toInt = 24 := by decide
  have q30 : (30 : Int32).toInt = 30 := by decide
  have q32 : (32 : Int32).toInt = 32 := by decide
  have q40 : (40 : Int32).toInt = 40 := by decide
  have q60 : (60 : Int32).toInt = 60 := by decide
  have q69 : (69 : Int32).toInt = 69 := by decide
  have q99 : (99 : Int32).toInt = 99 := by decide
  have q9999 : (9999 : Int32).toInt = 9999 := by decide
  have q274 : (274 : Int32).toInt = 274 := by decide
  have q334 : (334 : Int32).toInt = 334 := by decide
  have e66 : F 66 = F0 66 := hM.1 66 (by decide)
  have qm : (-1 : Int32).toInt = -1 := by decide
  refine V2.to (l' := [some (.ref 65), some (.int gas), none]) ?_ rfl rfl rfl rfl
  refine V2_iload_n (i := 1) d_R_steady_0 rfl rfl ?_
  refine V2_callS [.int gas] d_R_steady_1 rfl rfl lk_R_181 mo_R_isGas (Nat.le_of_ble_eq_true rfl) (Nat.le_of_ble_eq_true rfl) ?_
  refine c_R_isGas ?_
  refine V2_topi (fun v1 ev1 => ?_)
  refine V2_if_ne (tgt := 13) d_R_steady_4 rfl (fun c2 => ?_) (fun c2 => ?_)
  · refine V2_aload_n (i := 0) d_R_steady_13 rfl rfl ?_
    refine V2_iload_n (i := 1) d_R_steady_14 rfl rfl ?_
    refine V2_bipush (v := 60) d_R_steady_15 rfl ?_
    refine V2_callV [.int gas, .int (60 : Int32)] d_R_steady_17 rfl rfl lk_R_209 mo_R_outBy (by decide) rfl rfl rfl (Nat.le_of_ble_eq_true rfl) (Nat.le_of_ble_eq_true rfl) ?_
    refine c_R_outBy (S := F0 66) (M := 60) (set := 63) hR.2.1 (by rw [e66]; exact like.refl _) (by decide) ((congrFun (hM.1 65 (by decide)) 5).trans hR.2.2.2.1) (fun G2 h2 => ?_)
    rw [e66]
    refine V2_topi (fun v3 ev3 => ?_)
    refine V2_istore_n (i := 2) (l' := [some (.ref 65), some (.int gas), some (.int v3)]) d_R_steady_20 rfl (xst_i (Nat.le_of_ble_eq_true rfl) rfl rfl) ?_
    refine V2_iload_n (i := 2) d_R_steady_21 rfl rfl ?_
    refine V2_iconst (v := -1) d_R_steady_22 rfl ?_
    refine V2_icmp_ne (tgt := 34) d_R_steady_23 rfl (fun c4 => ?_) (fun c4 => ?_)
    · refine V2_iload_n (i := 2) d_R_steady_34 rfl rfl ?_
      refine V2_ireturn d_R_steady_35 rfl ?_
      have hrr := resK_range (g := gas) (s := 63) (P := PN (F0 66)) (m := 60) (T := F0 66) (by omega)
      have hb0 : 0 ≤ gas.toInt ∧ gas.toInt ≤ 9 := (by (try clear hQ); (try subst ev3 ev1); ((try simp only [xb_eq, xb_ne, Int32.lt_iff_toInt_lt, Int32.le_iff_toInt_le] at *) <;> (try simp only [← Int32.toInt_inj, true_and, false_and, or_false, false_or, or_true, true_or, and_true, and_false] at *) <;> omega))
      have hb1 : ¬ ((resK 0 (outN gas 63 (PN (F0 66)) 60 (F0 66))).toInt < 0) := (by (try clear hQ); (try subst ev3 ev1); ((try simp only [xb_eq, xb_ne, Int32.lt_iff_toInt_lt, Int32.le_iff_toInt_le] at *) <;> (try simp only [← Int32.toInt_inj, true_and, false_and, or_false, false_or, or_true, true_or, and_true, and_false] at *) <;> omega))
      have e : k_steady F0 gas = (resK 0 (outN gas 63 (PN (F0 66)) 60 (F0 66)), F0) := (if_pos hb0).trans (if_neg hb1)
      rw [e] at hQ hM
      subst ev3 ev1
      exact xQi (hQ G2 (rel_scr hR hM h2)) rfl rfl
    · refine V2_aload_n (i := 0) d_R_steady_26 rfl rfl ?_
      refine V2_iconst (v := 2) d_R_steady_27 rfl ?_
      refine V2_callV [.int (2 : Int32)] d_R_steady_28 rfl rfl lk_R_55 mo_R_error (by decide) rfl rfl rfl (Nat.le_of_ble_eq_true rfl) (Nat.le_of_ble_eq_true rfl) ?_
      refine c_R_error2 ?_
      refine V2_topi (fun v5 ev5 => ?_)
      refine V2_goto (tgt := 35) d_R_steady_31 rfl ?_
      refine V2_ireturn d_R_steady_35 rfl ?_
      have hrr := resK_range (g := gas) (s := 63) (P := PN (F0 66)) (m := 60) (T := F0 66) (by omega)
      have hb0 : 0 ≤ gas.toInt ∧ gas.toInt ≤ 9 := (by (try clear hQ); (try subst ev5 ev3 ev1); ((try simp only [xb_eq, xb_ne, Int32.lt_iff_toInt_lt, Int32.le_iff_toInt_le] at *) <;> (try simp only [← Int32.toInt_inj, true_and, false_and, or_false, false_or, or_true, true_or, and_true, and_false] at *) <;> omega))
      have hb1 : (resK 0 (outN gas 63 (PN (F0 66)) 60 (F0 66))).toInt < 0 := (by (try clear hQ); (try subst ev5 ev3 ev1); ((try simp only [xb_eq, xb_ne, Int32.lt_iff_toInt_lt, Int32.le_iff_toInt_le] at *) <;> (try simp only [← Int32.toInt_inj, true_and, false_and, or_false, false_or, or_true, true_or, and_true, and_false] at *) <;> omega))
      have e : k_steady F0 gas = (-1000000000 - 2, errF F0 2) := (if_pos hb0).trans (if_pos hb1)
      rw [e] at hQ hM
      subst ev5 ev3 ev1
      exact xQi (hQ _ (rel_scr_err hR hM h2)) rfl rfl
  · refine V2_aload_n (i := 0) d_R_steady_7 rfl rfl ?_
    refine V2_iconst (v := 1) d_R_steady_8 rfl ?_
    refine V2_callV [.int (1 : Int32)] d_R_steady_9 rfl rfl lk_R_55 mo_R_error (by decide) rfl rfl rfl (Nat.le_of_ble_eq_true rfl) (Nat.le_of_ble_eq_true rfl) ?_
    refine c_R_error1 ?_
    refine V2_topi (fun v6 ev6 => ?_)
    refine V2_ireturn d_R_steady_12 rfl ?_
    have hb0 : ¬ (0 ≤ gas.toInt ∧ gas.toInt ≤ 9) := (by (try clear hQ); (try subst ev6 ev1); ((try simp only [xb_eq, xb_ne, Int32.lt_iff_toInt_lt, Int32.le_iff_toInt_le] at *) <;> (try simp only [← Int32.toInt_inj, true_and, false_and, or_false, false_or, or_true, true_or, and_true, and_false] at *) <;> omega))
    have e : k_steady F0 gas = (-1000000000 - 1, errF F0 1) := if_neg hb0
    rw [e] at hQ hM
    subst ev6 ev1
    exact xQi (hQ _ (rel_err hR hM)) rfl rfl
noncomputable def wouldA (S : Nat → Int32) (gas w : Int32) : Int32 := if w.toInt = 0 then goS S gas 63 (PN S) 2 else if w.toInt = 1 then goS S gas 63 (PN S) 0 else if w.toInt = 2 then goS S gas 63 (PN S) 1 else if w.toInt = 3 then xb (gripM S 63 (PN S) < gas) else xb (goS S gas 63 (PN S) 0 ≤ goS S gas 63 (PN S) 2)
noncomputable def k_would (F : xF) (gas w : Int32) : Int32 × xF := if (0 ≤ gas.toInt ∧ gas.toInt ≤ 9) ∧ 0 ≤ w.toInt ∧ w.toInt ≤ 4 then (wouldA (F 66) gas w, F) else (-1000000000 - 1, errF F 1)
theorem wA0 {S : Nat → Int32} {gas w : Int32} (h : w.toInt = 0) : wouldA S gas w = goS S gas 63 (PN S) 2 := if_pos h
theorem wA1 {S : Nat → Int32} {gas w : Int32} (h : w.toInt = 1) : wouldA S gas w = goS S gas 63 (PN S) 0 := (if_neg (by omega)).trans (if_pos h)
theorem wA2 {S : Nat → Int32} {gas w : Int32} (h : w.toInt = 2) : wouldA S gas w = goS S gas 63 (PN S) 1 := (if_neg (by omega)).trans ((if_neg (by omega)).trans (if_pos h))
theorem wA3 {S : Nat → Int32} {gas w : Int32} (h : w.toInt = 3) : wouldA S gas w = xb (gripM S 63 (PN S) < gas) := (if_neg (by omega)).trans ((if_neg (by omega)).trans ((if_neg (by omega)).trans (if_pos h)))
theorem wA4 {S : Nat → Int32} {gas w : Int32} (h : w.toInt = 4) : wouldA S gas w = xb (goS S gas 63 (PN S) 0 ≤ goS S gas 63 (PN S) 2) := (if_neg (by omega)).trans ((if_neg (by omega)).trans ((if_neg (by omega)).trans (if_neg (by omega))))
theorem c_cls_would {L : Nat} {xs : Nat → Int32} {d : Nat} {Q : Option Value → xF → Prop} {F : xF} {gas w : Int32} (hR : Rel F) (hQ : ∀ F1, Mid F F1 (k_would F gas w).2 → Q (some (.int (k_would F gas w).1)) F1) : V2 L xs (d + 7) m_P_would 0 (xEntry [.ref 0, .int gas, .int w] 4) [] F Q := by
  have q0 : (0 : Int32).toInt = 0 := by decide
  have q1 : (1 : Int32).toInt = 1 := by decide
  have q2 : (2 : Int32).toInt = 2 := by decide
  have q3 : (3 : Int32).toInt = 3 := by decide
  have q4 : (4 : Int32).toInt = 4 := by decide
  have q5 : (5 : Int32).toInt = 5 := by decide
  have q6 : (6 : Int32).toInt = 6 := by decide
  have q7 : (7 : Int32).toInt = 7 := by decide
  have q8 : (8 : Int32).toInt = 8 := by decide
  have q9 : (9 : Int32).toInt = 9 := by decide
  have q10 : (10 : Int32).toInt = 10 := by decide
  have q12 : (12 : Int32).toInt = 12 := by decide
  have q16 : (16 : Int32).toInt = 16 := by decide
  have q20 : (20 : Int32).toInt = 20 := by decide
  have q24 : (24 : Int32).toInt = 24 := by decide
  have q30 : (30 : Int32).toInt = 30 := by decide
  have q32 : (32 : Int32).toInt = 32 := by decide
  have q40 : (40 : Int32).toInt = 40 := by decide
  have q60 : (60 : Int32).toInt = 60 := by decide
  have q69 : (69 : Int32).toInt = 69 := by decide
  have q99 : (99 : Int32).toInt = 99 := by decide
  have q9999 : (9999 : Int32).toInt = 9999 := by decide
  have q274 : (274 : Int32).toInt = 274 := by decide
  have q334 : (334 : Int32).toInt = 334 := by decide
  refine V2.to (l' := [some (.ref 0), some (.int gas), some (.int w), none]) ?_ rfl rfl rfl rfl
  refine V2_iload_n (i := 1) d_P_would_0 rfl rfl ?_
  refine V2_callS [.int gas] d_P_would_1 rfl rfl lk_P_189 mo_P_isGas (Nat.le_of_ble_eq_true rfl) (Nat.le_of_ble_eq_true rfl) ?_
  refine V2.to (l' := [some (.int gas)]) ?_ rfl rfl rfl rfl
  refine V2_iload_n (i := 0) d_P_isGas_0 rfl rfl ?_
  refine V2_iconst (v := 0) d_P_isGas_1 rfl ?_
  refine V2_bipush (v := 9) d_P_isGas_2 rfl ?_
  refine V2_callS [.int gas, .int (0 : Int32), .int (9 : Int32)] d_P_isGas_4 rfl rfl lk_P_133 mo_P_within (Nat.le_of_ble_eq_true rfl) (Nat.le_of_ble_eq_true rfl) ?_
  refine V2.to (l' := [some (.int gas), some (.int (0 : Int32)), some (.int (9 : Int32))]) ?_ rfl rfl rfl rfl
  refine V2_iload_n (i := 0) d_P_within_0 rfl rfl ?_
  refine V2_iload_n (i := 1) d_P_within_1 rfl rfl ?_
  refine V2_icmp_lt (tgt := 14) d_P_within_2 rfl (fun c1 => ?_) (fun c1 => ?_)
  · refine V2_iconst (v := 0) d_P_within_14 rfl ?_
    refine V2_zreturn d_P_within_15 rfl (by decide) ?_
    refine V2.to (st' := [.int (0 : Int32)]) ?_ rfl rfl rfl rfl
    refine V2_zreturn d_P_isGas_7 rfl (by decide) ?_
    refine V2.to (st' := [.int (0 : Int32)]) ?_ rfl rfl rfl rfl
    refine V2_if_eq (tgt := 16) d_P_would_4 rfl (fun _ => ?_) (fun c => (by first | exact absurd c (by decide) | exact absurd (by decide) c))
    refine V2_aload_n (i := 0) d_P_would_16 rfl rfl ?_
    refine V2_iconst (v := 1) d_P_would_17 rfl ?_
    refine V2_callV [.int (1 : Int32)] d_P_would_18 rfl rfl lk_P_66 mo_P_fails (by decide) rfl rfl rfl (Nat.le_of_ble_eq_true rfl) (Nat.le_of_ble_eq_true rfl) ?_
    refine c_P_fails1 ?_
    refine V2_topi (fun v2 ev2 => ?_)
    refine V2_ireturn d_P_would_21 rfl ?_
    have hb0 : ¬ ((0 ≤ gas.toInt ∧ gas.toInt ≤ 9) ∧ 0 ≤ w.toInt ∧ w.toInt ≤ 4) := (by (try clear hQ); (try subst ev2); ((try simp only [xb_eq, xb_ne, Int32.lt_iff_toInt_lt, Int32.le_iff_toInt_le] at *) <;> (try simp only [← Int32.toInt_inj, true_and, false_and, or_false, false_or, or_true, true_or, and_true, and_false] at *) <;> omega))
    have e : k_would F gas w = (-1000000000 - 1, errF F 1) := if_neg hb0
    rw [e] at hQ
    subst ev2
    exact xQi (hQ _ (mid_err hR (by decide))) rfl rfl
  · refine V2_iload_n (i := 0) d_P_within_5 rfl rfl ?_
    refine V2_iload_n (i := 2) d_P_within_6 rfl rfl ?_
    refine V2_icmp_gt (tgt := 14) d_P_within_7 rfl (fun c3 => ?_) (fun c3 => ?_)
    · refine V2_iconst (v := 0) d_P_within_14 rfl ?_
      refine V2_zreturn d_P_within_15 rfl (by decide) ?_
      refine V2.to (st' := [.int (0 : Int32)]) ?_ rfl rfl rfl rfl
      refine V2_zreturn d_P_isGas_7 rfl (by decide) ?_
      refine V2.to (st' := [.int (0 : Int32)]) ?_ rfl rfl rfl rfl
      refine V2_if_eq (tgt := 16) d_P_would_4 rfl (fun _ => ?_) (fun c => (by first | exact absurd c (by decide) | exact absurd (by decide) c))
      refine V2_aload_n (i := 0) d_P_would_16 rfl rfl ?_
      refine V2_iconst (v := 1) d_P_would_17 rfl ?_
      refine V2_callV [.int (1 : Int32)] d_P_would_18 rfl rfl lk_P_66 mo_P_fails (by decide) rfl rfl rfl (Nat.le_of_ble_eq_true rfl) (Nat.le_of_ble_eq_true rfl) ?_
      refine c_P_fails1 ?_
      refine V2_topi (fun v4 ev4 => ?_)
      refine V2_ireturn d_P_would_21 rfl ?_
      have hb0 : ¬ ((0 ≤ gas.toInt ∧ gas.toInt ≤ 9) ∧ 0 ≤ w.toInt ∧ w.toInt ≤ 4) := (by (try clear hQ); (try subst ev4); ((try simp only [xb_eq, xb_ne, Int32.lt_iff_toInt_lt, Int32.le_iff_toInt_le] at *) <;> (try simp only [← Int32.toInt_inj, true_and, false_and, or_false, false_or, or_true, true_or, and_true, and_false] at *) <;> omega))
      have e : k_would F gas w = (-1000000000 - 1, errF F 1) := if_neg hb0
      rw [e] at hQ
      subst ev4
      exact xQi (hQ _ (mid_err hR (by decide))) rfl rfl
    · refine V2_iconst (v := 1) d_P_within_10 rfl ?_
      refine V2_goto (tgt := 15) d_P_within_11 rfl ?_
      refine V2_zreturn d_P_within_15 rfl (by decide) ?_
      refine V2.to (st' := [.int (1 : Int32)]) ?_ rfl rfl rfl rfl
      refine V2_zreturn d_P_isGas_7 rfl (by decide) ?_
      refine V2.to (st' := [.int (1 : Int32)]) ?_ rfl rfl rfl rfl
      refine V2_if_eq (tgt := 16) d_P_would_4 rfl (fun c => (by first | exact absurd c (by decide) | exact absurd (by decide) c)) (fun _ => ?_)
      refine V2_iload_n (i := 2) d_P_would_7 rfl rfl ?_
      refine V2_iconst (v := 0) d_P_would_8 rfl ?_
      refine V2_iconst (v := 4) d_P_would_9 rfl ?_
      refine V2_callS [.int w, .int (0 : Int32), .int (4 : Int32)] d_P_would_10 rfl rfl lk_P_133 mo_P_within (Nat.le_of_ble_eq_true rfl) (Nat.le_of_ble_eq_true rfl) ?_
      refine V2.to (l' := [some (.int w), some (.int (0 : Int32)), some (.int (4 : Int32))]) ?_ rfl rfl rfl rfl
      refine V2_iload_n (i := 0) d_P_within_0 rfl rfl ?_
      refine V2_iload_n (i := 1) d_P_within_1 rfl rfl ?_
      refine V2_icmp_lt (tgt := 14) d_P_within_2 rfl (fun c5 => ?_) (fun c5 => ?_)
      · refine V2_iconst (v := 0) d_P_within_14 rfl ?_
        refine V2_zreturn d_P_within_15 rfl (by decide) ?_
        refine V2.to (st' := [.int (0 : Int32)]) ?_ rfl rfl rfl rfl
        refine V2_if_ne (tgt := 22) d_P_would_13 rfl (fun c => (by first | exact absurd c (by decide) | exact absurd (by decide) c)) (fun _ => ?_)
        refine V2_aload_n (i := 0) d_P_would_16 rfl rfl ?_
        refine V2_iconst (v := 1) d_P_would_17 rfl ?_
        refine V2_callV [.int (1 : Int32)] d_P_would_18 rfl rfl lk_P_66 mo_P_fails (by decide) rfl rfl rfl (Nat.le_of_ble_eq_true rfl) (Nat.le_of_ble_eq_true rfl) ?_
        refine c_P_fails1 ?_
        refine V2_topi (fun v6 ev6 => ?_)
        refine V2_ireturn d_P_would_21 rfl ?_
        have hb0 : ¬ ((0 ≤ gas.toInt ∧ gas.toInt ≤ 9) ∧ 0 ≤ w.toInt ∧ w.toInt ≤ 4) := (by (try clear hQ); (try subst ev6); ((try simp only [xb_eq, xb_ne, Int32.lt_iff_toInt_lt, Int32.le_iff_toInt_le] at *) <;> (try simp only [← Int32.toInt_inj, true_and, false_and, or_false, false_or, or_true, true_or, and_true, and_false] at *) <;> omega))
        have e : k_would F gas w = (-1000000000 - 1, errF F 1) := if_neg hb0
        rw [e] at hQ
        subst ev6
        exact xQi (hQ _ (mid_err hR (by decide))) rfl rfl
      · refine V2_iload_n (i := 0) d_P_within_5 rfl rfl ?_
        refine V2_iload_n (i := 2) d_P_within_6 rfl rfl ?_
        refine V2_icmp_gt (tgt := 14) d_P_within_7 rfl (fun c7 => ?_) (fun c7 => ?_)
        · refine V2_iconst (v := 0) d_P_within_14 rfl ?_
          refine V2_zreturn d_P_within_15 rfl (by decide) ?_
          refine V2.to (st' := [.int (0 : Int32)]) ?_ rfl rfl rfl rfl
          refine V2_if_ne (tgt := 22) d_P_would_13 rfl (fun c => (by first | exact absurd c (by decide) | exact absurd (by decide) c)) (fun _ => ?_)
          refine V2_aload_n (i := 0) d_P_would_16 rfl rfl ?_
          refine V2_iconst (v := 1) d_P_would_17 rfl ?_
          refine V2_callV [.int (1 : Int32)] d_P_would_18 rfl rfl lk_P_66 mo_P_fails (by decide) rfl rfl rfl (Nat.le_of_ble_eq_true rfl) (Nat.le_of_ble_eq_true rfl) ?_
          refine c_P_fails1 ?_
          refine V2_topi (fun v8 ev8 => ?_)
          refine V2_ireturn d_P_would_21 rfl ?_
          have hb0 : ¬ ((0 ≤ gas.toInt ∧ gas.toInt ≤ 9) ∧ 0 ≤ w.toInt ∧ w.toInt ≤ 4) := (by (try clear hQ); (try subst ev8); ((try simp only [xb_eq, xb_ne, Int32.lt_iff_toInt_lt, Int32.le_iff_toInt_le] at *) <;> (try simp only [← Int32.toInt_inj, true_and, false_and, or_false, false_or, or_true, true_or, and_true, and_false] at *) <;> omega))
          have e : k_would F gas w = (-1000000000 - 1, errF F 1) := if_neg hb0
          rw [e] at hQ
          subst ev8
          exact xQi (hQ _ (mid_err hR (by decide))) rfl rfl
        · refine V2_iconst (v := 1) d_P_within_10 rfl ?_
          refine V2_goto (tgt := 15) d_P_within_11 rfl ?_
          refine V2_zreturn d_P_within_15 rfl (by decide) ?_
          refine V2.to (st' := [.int (1 : Int32)]) ?_ rfl rfl rfl rfl
          refine V2_if_ne (tgt := 22) d_P_would_13 rfl (fun _ => ?_) (fun c => (by first | exact absurd c (by decide) | exact absurd (by decide) c))
          refine V2_aload_n (i := 0) d_P_would_22 rfl rfl ?_
          refine V2_getr (a := 35) d_P_would_23 fl_P_22 (by decide) rfl (by decide) rfl ?_
          refine V2_aload_n (i := 0) d_P_would_26 rfl rfl ?_
          refine V2_getr (a := 1) d_P_would_27 fl_P_10 (by decide) rfl (by decide) rfl ?_
          refine V2_getr (a := 2) d_P_would_30 fl_P_93 (by decide) rfl (by decide) rfl ?_
          refine V2_callV [.ref 2] d_P_would_33 rfl rfl lk_P_227 mo_Car_copyFrom (by decide) rfl rfl rfl (Nat.le_of_ble_eq_true rfl) (Nat.le_of_ble_eq_true rfl) ?_
          refine c_Car_copy_35_2 (by rw [show F 2 7 = F 66 5 from hR.1.1.1.2.2.2.2.2.2.2]; exact hR.2.1.1.2.2.2.2.2.1) (fun G p0 g0 => ?_)
          refine V2_aload_n (i := 0) d_P_would_36 rfl rfl ?_
          refine V2_getr (a := 1) d_P_would_37 fl_P_10 (by decide) rfl (by decide) rfl ?_
          refine V2_aload_n (i := 0) d_P_would_40 rfl rfl ?_
          refine V2_getr (a := 35) d_P_would_41 fl_P_22 (by decide) rfl (by decide) rfl ?_
          refine V2_iload_n (i := 1) d_P_would_44 rfl rfl ?_
          refine V2_bipush (v := 63) d_P_would_45 rfl ?_
          refine V2_callV [.ref 35, .int gas, .int (63 : Int32)] d_P_would_47 rfl rfl lk_P_195 mo_World_drive (by decide) rfl rfl rfl (Nat.le_of_ble_eq_true rfl) (Nat.le_of_ble_eq_true rfl) ?_
          refine c_drive35 hR.1.1 hR.2.1 ((scrC.refl F).car g0) (like.refl _) (relCr_row hR.1.1.1 p0) hR.2.1.1 (by (try clear hQ); (try skip); ((try simp only [xb_eq, xb_ne, Int32.lt_iff_toInt_lt, Int32.le_iff_toInt_le] at *) <;> (try simp only [← Int32.toInt_inj, true_and, false_and, or_false, false_or, or_true, true_or, and_true, and_false] at *) <;> omega)) (fun G2 h2 h3 => ?_)
          refine V2_topi (fun v9 ev9 => ?_)
          refine V2_istore_n (i := 3) (l' := [some (.ref 0), some (.int gas), some (.int w), some (.int v9)]) d_P_would_50 rfl (xst_i (Nat.le_of_ble_eq_true rfl) rfl rfl) ?_
          refine V2_iload_n (i := 2) d_P_would_51 rfl rfl ?_
          by_cases c10_0 : w = 0
          · refine V2_tableIn (tgt := 84) (off := 32) d_P_would_52 (by rw [c10_0]; decide) (by rw [c10_0]; decide) (by rw [c10_0]; decide) rfl ?_
            refine V2_aload_n (i := 0) d_P_would_84 rfl rfl ?_
            refine V2_getr (a := 35) d_P_would_85 fl_P_22 (by decide) rfl (by decide) rfl ?_
            refine V2_get (v := G2 35 2) d_P_would_88 fl_P_199 (by decide) rfl (by decide) rfl rfl ?_
            refine V2_topi (fun v11 ev11 => ?_)
            refine V2_ireturn d_P_would_91 rfl ?_
            have hb0 : (0 ≤ gas.toInt ∧ gas.toInt ≤ 9) ∧ 0 ≤ w.toInt ∧ w.toInt ≤ 4 := (by (try clear hQ); (try subst ev11 ev9); ((try simp only [xb_eq, xb_ne, Int32.lt_iff_toInt_lt, Int32.le_iff_toInt_le] at *) <;> (try simp only [← Int32.toInt_inj, true_and, false_and, or_false, false_or, or_true, true_or, and_true, and_false] at *) <;> omega))
            have e : k_would F gas w = (wouldA (F 66) gas w, F) := if_pos hb0
            rw [e] at hQ
            have hw : w.toInt = 0 := (by (try clear hQ); (try subst ev11 ev9); ((try simp only [xb_eq, xb_ne, Int32.lt_iff_toInt_lt, Int32.le_iff_toInt_le] at *) <;> (try simp only [← Int32.toInt_inj, true_and, false_and, or_false, false_or, or_true, true_or, and_true, and_false] at *) <;> omega))
            rw [wA0 hw] at hQ
            subst ev11 ev9
            exact xQi (hQ G2 (mid_scr hR h2)) h3.2.2.1 rfl
          by_cases c10_1 : w = 1
          · refine V2_tableIn (tgt := 92) (off := 40) d_P_would_52 (by rw [c10_1]; decide) (by rw [c10_1]; decide) (by rw [c10_1]; decide) rfl ?_
            refine V2_aload_n (i := 0) d_P_would_92 rfl rfl ?_
            refine V2_getr (a := 35) d_P_would_93 fl_P_22 (by decide) rfl (by decide) rfl ?_
            refine V2_get (v := G2 35 0) d_P_would_96 fl_P_214 (by decide) rfl (by decide) rfl rfl ?_
            refine V2_topi (fun v12 ev12 => ?_)
            refine V2_ireturn d_P_would_99 rfl ?_
            have hb0 : (0 ≤ gas.toInt ∧ gas.toInt ≤ 9) ∧ 0 ≤ w.toInt ∧ w.toInt ≤ 4 := (by (try clear hQ); (try subst ev12 ev9); ((try simp only [xb_eq, xb_ne, Int32.lt_iff_toInt_lt, Int32.le_iff_toInt_le] at *) <;> (try simp only [← Int32.toInt_inj, true_and, false_and, or_false, false_or, or_true, true_or, and_true, and_false] at *) <;> omega))
            have e : k_would F gas w = (wouldA (F 66) gas w, F) := if_pos hb0
            rw [e] at hQ
            have hw : w.toInt = 1 := (by (try clear hQ); (try subst ev12 ev9); ((try simp only [xb_eq, xb_ne, Int32.lt_iff_toInt_lt, Int32.le_iff_toInt_le] at *) <;> (try simp only [← Int32.toInt_inj, true_and, false_and, or_false, false_or, or_true, true_or, and_true, and_false] at *) <;> omega))
            rw [wA1 hw] at hQ
            subst ev12 ev9
            exact xQi (hQ G2 (mid_scr hR h2)) h3.1 rfl
          by_cases c10_2 : w = 2
          · refine V2_tableIn (tgt := 100) (off := 48) d_P_would_52 (by rw [c10_2]; decide) (by rw [c10_2]; decide) (by rw [c10_2]; decide) rfl ?_
            refine V2_aload_n (i := 0) d_P_would_100 rfl rfl ?_
            refine V2_getr (a := 35) d_P_would_101 fl_P_22 (by decide) rfl (by decide) rfl ?_
            refine V2_get (v := G2 35 1) d_P_would_104 fl_P_231 (by decide) rfl (by decide) rfl rfl ?_
            refine V2_topi (fun v13 ev13 => ?_)
            refine V2_ireturn d_P_would_107 rfl ?_
            have hb0 : (0 ≤ gas.toInt ∧ gas.toInt ≤ 9) ∧ 0 ≤ w.toInt ∧ w.toInt ≤ 4 := (by (try clear hQ); (try subst ev13 ev9); ((try simp only [xb_eq, xb_ne, Int32.lt_iff_toInt_lt, Int32.le_iff_toInt_le] at *) <;> (try simp only [← Int32.toInt_inj, true_and, false_and, or_false, false_or, or_true, true_or, and_true, and_false] at *) <;> omega))
            have e : k_would F gas w = (wouldA (F 66) gas w, F) := if_pos hb0
            rw [e] at hQ
            have hw : w.toInt = 2 := (by (try clear hQ); (try subst ev13 ev9); ((try simp only [xb_eq, xb_ne, Int32.lt_iff_toInt_lt, Int32.le_iff_toInt_le] at *) <;> (try simp only [← Int32.toInt_inj, true_and, false_and, or_false, false_or, or_true, true_or, and_true, and_false] at *) <;> omega))
            rw [wA2 hw] at hQ
            subst ev13 ev9
            exact xQi (hQ G2 (mid_scr hR h2)) h3.2.1 rfl
          by_cases c10_3 : w = 3
          · refine V2_tableIn (tgt := 108) (off := 56) d_P_would_52 (by rw [c10_3]; decide) (by rw [c10_3]; decide) (by rw [c10_3]; decide) rfl ?_
            refine V2_iload_n (i := 3) d_P_would_108 rfl rfl ?_
            refine V2_if_eq (tgt := 116) d_P_would_109 rfl (fun c14 => ?_) (fun c14 => ?_)
            · refine V2_iconst (v := 0) d_P_would_116 rfl ?_
              refine V2_ireturn d_P_would_117 rfl ?_
              have hb0 : (0 ≤ gas.toInt ∧ gas.toInt ≤ 9) ∧ 0 ≤ w.toInt ∧ w.toInt ≤ 4 := (by (try clear hQ); (try subst ev9); ((try simp only [xb_eq, xb_ne, Int32.lt_iff_toInt_lt, Int32.le_iff_toInt_le] at *) <;> (try simp only [← Int32.toInt_inj, true_and, false_and, or_false, false_or, or_true, true_or, and_true, and_false] at *) <;> omega))
              have e : k_would F gas w = (wouldA (F 66) gas w, F) := if_pos hb0
              rw [e] at hQ
              have hw : w.toInt = 3 := (by (try clear hQ); (try subst ev9); ((try simp only [xb_eq, xb_ne, Int32.lt_iff_toInt_lt, Int32.le_iff_toInt_le] at *) <;> (try simp only [← Int32.toInt_inj, true_and, false_and, or_false, false_or, or_true, true_or, and_true, and_false] at *) <;> omega))
              rw [wA3 hw] at hQ
              have h9 := c14
              subst ev9
              exact xQi (hQ G2 (mid_scr hR h2)) (xb_0 (xb_eq.mp h9)).symm rfl
            · refine V2_iconst (v := 1) d_P_would_112 rfl ?_
              refine V2_goto (tgt := 117) d_P_would_113 rfl ?_
              refine V2_ireturn d_P_would_117 rfl ?_
              have hb0 : (0 ≤ gas.toInt ∧ gas.toInt ≤ 9) ∧ 0 ≤ w.toInt ∧ w.toInt ≤ 4 := (by (try clear hQ); (try subst ev9); ((try simp only [xb_eq, xb_ne, Int32.lt_iff_toInt_lt, Int32.le_iff_toInt_le] at *) <;> (try simp only [← Int32.toInt_inj, true_and, false_and, or_false, false_or, or_true, true_or, and_true, and_false] at *) <;> omega))
              have e : k_would F gas w = (wouldA (F 66) gas w, F) := if_pos hb0
              rw [e] at hQ
              have hw : w.toInt = 3 := (by (try clear hQ); (try subst ev9); ((try simp only [xb_eq, xb_ne, Int32.lt_iff_toInt_lt, Int32.le_iff_toInt_le] at *) <;> (try simp only [← Int32.toInt_inj, true_and, false_and, or_false, false_or, or_true, true_or, and_true, and_false] at *) <;> omega))
              rw [wA3 hw] at hQ
              have h9 := c14
              subst ev9
              exact xQi (hQ G2 (mid_scr hR h2)) (xb_1 (xb_ne.mp h9)).symm rfl
          refine V2_tableOut (tgt := 118) d_P_would_52 (by have := lv_neT (a := 0) c10_0 rfl; have := lv_neT (a := 1) c10_1 rfl; have := lv_neT (a := 2) c10_2 rfl; have := lv_neT (a := 3) c10_3 rfl; omega) rfl ?_
          refine V2_aload_n (i := 0) d_P_would_118 rfl rfl ?_
          refine V2_getr (a := 35) d_P_would_119 fl_P_22 (by decide) rfl (by decide) rfl ?_
          refine V2_callV [] d_P_would_122 rfl rfl lk_P_234 mo_Car_isOverTheRim (by decide) rfl rfl rfl (Nat.le_of_ble_eq_true rfl) (Nat.le_of_ble_eq_true rfl) ?_
          refine V2.to (l' := [some (.ref 35)]) ?_ rfl rfl rfl rfl
          refine V2_aload_n (i := 0) d_Car_isOverTheRim_0 rfl rfl ?_
          refine V2_get (v := G2 35 2) d_Car_isOverTheRim_1 fl_Car_16 (by decide) rfl (by decide) rfl rfl ?_
          refine V2_topi (fun v15 ev15 => ?_)
          refine V2_aload_n (i := 0) d_Car_isOverTheRim_4 rfl rfl ?_
          refine V2_get (v := G2 35 0) d_Car_isOverTheRim_5 fl_Car_7 (by decide) rfl (by decide) rfl rfl ?_
          refine V2_topi (fun v16 ev16 => ?_)
          refine V2_icmp_lt (tgt := 15) d_Car_isOverTheRim_8 rfl (fun c17 => ?_) (fun c17 => ?_)
          · refine V2_iconst (v := 0) d_Car_isOverTheRim_15 rfl ?_
            refine V2_zreturn d_Car_isOverTheRim_16 rfl (by decide) ?_
            refine V2.to (st' := [.int (0 : Int32)]) ?_ rfl rfl rfl rfl
            refine V2_if_eq (tgt := 132) d_P_would_125 rfl (fun _ => ?_) (fun c => (by first | exact absurd c (by decide) | exact absurd (by decide) c))
            refine V2_iconst (v := 0) d_P_would_132 rfl ?_
            refine V2_ireturn d_P_would_133 rfl ?_
            have hb0 : (0 ≤ gas.toInt ∧ gas.toInt ≤ 9) ∧ 0 ≤ w.toInt ∧ w.toInt ≤ 4 := (by (try clear hQ); (try subst ev16 ev15 ev9); ((try simp only [xb_eq, xb_ne, Int32.lt_iff_toInt_lt, Int32.le_iff_toInt_le] at *) <;> (try simp only [← Int32.toInt_inj, true_and, false_and, or_false, false_or, or_true, true_or, and_true, and_false] at *) <;> omega))
            have e : k_would F gas w = (wouldA (F 66) gas w, F) := if_pos hb0
            rw [e] at hQ
            have hw : w.toInt = 4 := (by (try clear hQ); (try subst ev16 ev15 ev9); ((try simp only [xb_eq, xb_ne, Int32.lt_iff_toInt_lt, Int32.le_iff_toInt_le] at *) <;> (try simp only [← Int32.toInt_inj, true_and, false_and, or_false, false_or, or_true, true_or, and_true, and_false] at *) <;> omega))
            rw [wA4 hw] at hQ
            have h9 := c17
            subst ev16 ev15 ev9
            rw [h3.1, h3.2.2.1] at h9
            exact xQi (hQ G2 (mid_scr hR h2)) (xb_0 (Int32.not_le.mpr h9)).symm rfl
          · refine V2_iconst (v := 1) d_Car_isOverTheRim_11 rfl ?_
            refine V2_goto (tgt := 16) d_Car_isOverTheRim_12 rfl ?_
            refine V2_zreturn d_Car_isOverTheRim_16 rfl (by decide) ?_
            refine V2.to (st' := [.int (1 : Int32)]) ?_ rfl rfl rfl rfl
            refine V2_if_eq (tgt := 132) d_P_would_125 rfl (fun c => (by first | exact absurd c (by decide) | exact absurd (by decide) c)) (fun _ => ?_)
            refine V2_iconst (v := 1) d_P_would_128 rfl ?_
            refine V2_goto (tgt := 133) d_P_would_129 rfl ?_
            refine V2_ireturn d_P_would_133 rfl ?_
            have hb0 : (0 ≤ gas.toInt ∧ gas.toInt ≤ 9) ∧ 0 ≤ w.toInt ∧ w.toInt ≤ 4 := (by (try clear hQ); (try subst ev16 ev15 ev9); ((try simp only [xb_eq, xb_ne, Int32.lt_iff_toInt_lt, Int32.le_iff_toInt_le] at *) <;> (try simp only [← Int32.toInt_inj, true_and, false_and, or_false, false_or, or_true, true_or, and_true, and_false] at *) <;> omega))
            have e : k_would F gas w = (wouldA (F 66) gas w, F) := if_pos hb0
            rw [e] at hQ
            have hw : w.toInt = 4 := (by (try clear hQ); (try subst ev16 ev15 ev9); ((try simp only [xb_eq, xb_ne, Int32.lt_iff_toInt_lt, Int32.le_iff_toInt_le] at *) <;> (try simp only [← Int32.toInt_inj, true_and, false_and, or_false, false_or, or_true, true_or, and_true, and_false] at *) <;> omega))
            rw [wA4 hw] at hQ
            have h9 := c17
            subst ev16 ev15 ev9
            rw [h3.1, h3.2.2.1] at h9
            exact xQi (hQ G2 (mid_scr hR h2)) (xb_1 (Int32.not_lt.mp h9)).symm rfl
set_option maxHeartbeats 4000000 in
theorem c_mod_would {L : Nat} {xs : Nat → Int32} {d : Nat} {Q : Option Value → xF → Prop} {F : xF} {gas w : Int32} {F0 : xF} (hR : Rel F0) (hM : Mid F0 F (k_would F0 gas w).2) (hQ : ∀ F2, Rel F2 → Q (some (.int (k_would F0 gas w).1)) F2) : V2 L xs (d + 5) m_R_would 0 (xEntry [.ref 65, .int gas, .int w] 6) [] F Q := by
  have q0 : (0 : Int32).toInt = 0 := by decide
  have q1 : (1 : Int32).toInt = 1 := by decide
  have q2 : (2 : Int32).toInt = 2 := by decide
  have q3 : (3 : Int32).toInt = 3 := by decide
  have q4 : (4 : Int32).toInt = 4 := by decide
  have q5 : (5 : Int32).toInt = 5 := by decide
  have q6 : (6 : Int32).toInt = 6 := by decide
  have q7 : (7 : Int32).toInt = 7 := by decide
  have q8 : (8 : Int32).toInt = 8 := by decide
  have q9 : (9 : Int32).toInt = 9 := by decide
  have q10 : (10 : Int32).toInt = 10 := by decide
  have q12 : (12 : Int32).toInt = 12 := by decide
  have q16 : (16 : Int32).toInt = 16 := by decide
  have q20 : (20 : Int32).toInt = 20 := by decide
  have q24 : (24 : Int32).toInt = 24 := by decide
  have q30 : (30 : Int32).toInt = 30 := by decide
  have q32 : (32 : Int32).toInt = 32 := by decide
  have q40 : (40 : Int32).toInt = 40 := by decide
  have q60 : (60 : Int32).toInt = 60 := by decide
  have q69 : (69 : Int32).toInt = 69 := by decide
  have q99 : (99 : Int32).toInt = 99 := by decide
  have q9999 : (9999 : Int32).toInt = 9999 := by decide
  have q274 : (274 : Int32).toInt = 274 := by decide
  have q334 : (334 : Int32).toInt = 334 := by decide
  have e66 : F 66 = F0 66 := hM.1 66 (by decide)
  have e63 : F 65 5 = 63 := (congrFun (hM.1 65 (by decide)) 5).trans hR.2.2.2.1
  refine V2.to (l' := [some (.ref 65), some (.int gas), some (.int w), none, none, none]) ?_ rfl rfl rfl rfl
  refine V2_iload_n (i := 1) d_R_would_0 rfl rfl ?_
  refine V2_callS [.int gas] d_R_would_1 rfl rfl lk_R_181 mo_R_isGas (Nat.le_of_ble_eq_true rfl) (Nat.le_of_ble_eq_true rfl) ?_
  refine c_R_isGas ?_
  refine V2_topi (fun v1 ev1 => ?_)
  refine V2_if_eq (tgt := 16) d_R_would_4 rfl (fun c2 => ?_) (fun c2 => ?_)
  · refine V2_aload_n (i := 0) d_R_would_16 rfl rfl ?_
    refine V2_iconst (v := 1) d_R_would_17 rfl ?_
    refine V2_callV [.int (1 : Int32)] d_R_would_18 rfl rfl lk_R_55 mo_R_error (by decide) rfl rfl rfl (Nat.le_of_ble_eq_true rfl) (Nat.le_of_ble_eq_true rfl) ?_
    refine c_R_error1 ?_
    refine V2_topi (fun v3 ev3 => ?_)
    refine V2_ireturn d_R_would_21 rfl ?_
    have hb0 : ¬ ((0 ≤ gas.toInt ∧ gas.toInt ≤ 9) ∧ 0 ≤ w.toInt ∧ w.toInt ≤ 4) := (by (try clear hQ); (try subst ev3 ev1); ((try simp only [xb_eq, xb_ne, Int32.lt_iff_toInt_lt, Int32.le_iff_toInt_le] at *) <;> (try simp only [← Int32.toInt_inj, true_and, false_and, or_false, false_or, or_true, true_or, and_true, and_false] at *) <;> omega))
    have e : k_would F0 gas w = (-1000000000 - 1, errF F0 1) := if_neg hb0
    rw [e] at hQ hM
    subst ev3 ev1
    exact xQi (hQ _ (rel_err hR hM)) rfl rfl
  · refine V2_iload_n (i := 2) d_R_would_7 rfl rfl ?_
    refine V2_iconst (v := 0) d_R_would_8 rfl ?_
    refine V2_iconst (v := 4) d_R_would_9 rfl ?_
    refine V2_callS [.int w, .int (0 : Int32), .int (4 : Int32)] d_R_would_10 rfl rfl lk_R_51 mo_R_in (Nat.le_of_ble_eq_true rfl) (Nat.le_of_ble_eq_true rfl) ?_
    refine c_R_in ?_
    refine V2_topi (fun v4 ev4 => ?_)
    refine V2_if_ne (tgt := 22) d_R_would_13 rfl (fun c5 => ?_) (fun c5 => ?_)
    · refine V2_aload_n (i := 0) d_R_would_22 rfl rfl ?_
      refine V2_callV [] d_R_would_23 rfl rfl lk_R_149 mo_R_layDown (by decide) rfl rfl rfl (Nat.le_of_ble_eq_true rfl) (Nat.le_of_ble_eq_true rfl) ?_
      refine c_layD (fun H p0 g0 => ?_)
      refine V2_aload_n (i := 0) d_R_would_26 rfl rfl ?_
      refine V2_iload_n (i := 1) d_R_would_27 rfl rfl ?_
      refine V2_callV [.int gas] d_R_would_28 rfl rfl lk_R_155 mo_R_goes (by decide) rfl rfl rfl (Nat.le_of_ble_eq_true rfl) (Nat.le_of_ble_eq_true rfl) ?_
      refine c_goesM (S := F0 66) hR.2.1 (by rw [g0 66 (by decide), e66]; exact like.refl _) (fun G2 r2 r1 => ?_)
      rw [g0 66 (by decide), e66, (congrFun (g0 65 (by decide)) 5).trans e63] at r2
      rw [g0 66 (by decide), e66, (congrFun (g0 65 (by decide)) 5).trans e63]
      refine V2_topi (fun v6 ev6 => ?_)
      refine V2_istore_n (i := 3) (l' := [some (.ref 65), some (.int gas), some (.int w), some (.int v6), none, none]) d_R_would_31 rfl (xst_i (Nat.le_of_ble_eq_true rfl) rfl rfl) ?_
      refine V2_iload_n (i := 2) d_R_would_32 rfl rfl ?_
      refine V2_if_ne (tgt := 45) d_R_would_33 rfl (fun c7 => ?_) (fun c7 => ?_)
      · refine V2_iload_n (i := 2) d_R_would_45 rfl rfl ?_
        refine V2_iconst (v := 1) d_R_would_46 rfl ?_
        refine V2_icmp_ne (tgt := 59) d_R_would_47 rfl (fun c8 => ?_) (fun c8 => ?_)
        · refine V2_aload_n (i := 0) d_R_would_59 rfl rfl ?_
          refine V2_getr (a := 66) d_R_would_60 fl_R_7 (by decide) rfl (by decide) rfl ?_
          refine V2_iconst (v := 1) d_R_would_63 rfl ?_
          refine V2_iaload (v := G2 66 1) d_R_would_64 (by decide) rfl (xixA (n := 1) rfl (by decide) (by decide)) rfl ?_
          refine V2_topi (fun v9 ev9 => ?_)
          refine V2_istore (i := 4) (l' := [some (.ref 65), some (.int gas), some (.int w), some (.int v6), some (.int v9), none]) d_R_would_65 (xst_i (Nat.le_of_ble_eq_true rfl) rfl rfl) ?_
          refine V2_aload_n (i := 0) d_R_would_67 rfl rfl ?_
          refine V2_getr (a := 66) d_R_would_68 fl_R_7 (by decide) rfl (by decide) rfl ?_
          refine V2_iconst (v := 2) d_R_would_71 rfl ?_
          refine V2_iaload (v := G2 66 2) d_R_would_72 (by decide) rfl (xixA (n := 2) rfl (by decide) (by decide)) rfl ?_
          refine V2_topi (fun v10 ev10 => ?_)
          refine V2_aload_n (i := 0) d_R_would_73 rfl rfl ?_
          refine V2_getr (a := 66) d_R_would_74 fl_R_7 (by decide) rfl (by decide) rfl ?_
          refine V2_iconst (v := 0) d_R_would_77 rfl ?_
          refine V2_iaload (v := G2 66 0) d_R_would_78 (by decide) rfl (xixA (n := 0) rfl (by decide) (by decide)) rfl ?_
          refine V2_topi (fun v11 ev11 => ?_)
          refine V2_icmp_lt (tgt := 86) d_R_would_79 rfl (fun c12 => ?_) (fun c12 => ?_)
          · refine V2_iconst (v := 0) d_R_would_86 rfl ?_
            refine V2_istore (i := 5) (l' := [some (.ref 65), some (.int gas), some (.int w), some (.int v6), some (.int v9), some (.int (0 : Int32))]) d_R_would_87 (xst_i (Nat.le_of_ble_eq_true rfl) rfl rfl) ?_
            refine V2_aload_n (i := 0) d_R_would_89 rfl rfl ?_
            refine V2_callV [] d_R_would_90 rfl rfl lk_R_158 mo_R_layBack (by decide) rfl rfl rfl (Nat.le_of_ble_eq_true rfl) (Nat.le_of_ble_eq_true rfl) ?_
            refine c_layB (S := F0 66) (fun j hj => (congrFun (r1 68 (by decide) (by decide) (by decide)) j).trans ((p0 j hj).trans (congrFun e66 j))) (fun j hj => by rw [r2]; exact goM_hi _ _ _ _ (by omega)) (fun G4 b1 b2 => ?_)
            refine V2_iload_n (i := 2) d_R_would_93 rfl rfl ?_
            refine V2_iconst (v := 3) d_R_would_94 rfl ?_
            refine V2_icmp_ge (tgt := 103) d_R_would_95 rfl (fun c13 => ?_) (fun c13 => ?_)
            · refine V2_iload_n (i := 2) d_R_would_103 rfl rfl ?_
              refine V2_iconst (v := 3) d_R_would_104 rfl ?_
              refine V2_icmp_ne (tgt := 115) d_R_would_105 rfl (fun c14 => ?_) (fun c14 => ?_)
              · refine V2_iload (i := 5) d_R_would_115 rfl ?_
                refine V2_if_eq (tgt := 124) d_R_would_117 rfl (fun _ => ?_) (fun c => (by first | exact absurd c (by decide) | exact absurd (by decide) c))
                refine V2_iconst (v := 0) d_R_would_124 rfl ?_
                refine V2_ireturn d_R_would_125 rfl ?_
                have hb0 : (0 ≤ gas.toInt ∧ gas.toInt ≤ 9) ∧ 0 ≤ w.toInt ∧ w.toInt ≤ 4 := (by (try clear hQ); (try subst ev11 ev10 ev9 ev6 ev4 ev1); ((try simp only [xb_eq, xb_ne, Int32.lt_iff_toInt_lt, Int32.le_iff_toInt_le] at *) <;> (try simp only [← Int32.toInt_inj, true_and, false_and, or_false, false_or, or_true, true_or, and_true, and_false] at *) <;> omega))
                have e : k_would F0 gas w = (wouldA (F0 66) gas w, F0) := if_pos hb0
                rw [e] at hQ hM
                have hsc : scrM F G4 := fun a h1 h2 h3 => (by
                  by_cases h6 : a = 66
                  · rw [h6, e66]
                    exact b1
                  · rw [b2 a h6, r1 a h6 h2 h3, g0 a h1])
                have hfin := hQ G4 (rel_scr hR hM hsc)
                have hw : w.toInt = 4 := (by (try clear hQ hfin); (try subst ev11 ev10 ev9 ev6 ev4 ev1); ((try simp only [xb_eq, xb_ne, Int32.lt_iff_toInt_lt, Int32.le_iff_toInt_le] at *) <;> (try simp only [← Int32.toInt_inj, true_and, false_and, or_false, false_or, or_true, true_or, and_true, and_false] at *) <;> omega))
                rw [wA4 hw] at hfin
                have h9 := c12
                subst ev11 ev10 ev9 ev6 ev4 ev1
                rw [r2] at h9
                exact xQi hfin (xb_0 (Int32.not_le.mpr h9)).symm rfl
              · refine V2_iload_n (i := 3) d_R_would_108 rfl rfl ?_
                refine V2_if_eq (tgt := 124) d_R_would_109 rfl (fun c15 => ?_) (fun c15 => ?_)
                · refine V2_iconst (v := 0) d_R_would_124 rfl ?_
                  refine V2_ireturn d_R_would_125 rfl ?_
                  have hb0 : (0 ≤ gas.toInt ∧ gas.toInt ≤ 9) ∧ 0 ≤ w.toInt ∧ w.toInt ≤ 4 := (by (try clear hQ); (try subst ev11 ev10 ev9 ev6 ev4 ev1); ((try simp only [xb_eq, xb_ne, Int32.lt_iff_toInt_lt, Int32.le_iff_toInt_le] at *) <;> (try simp only [← Int32.toInt_inj, true_and, false_and, or_false, false_or, or_true, true_or, and_true, and_false] at *) <;> omega))
                  have e : k_would F0 gas w = (wouldA (F0 66) gas w, F0) := if_pos hb0
                  rw [e] at hQ hM
                  have hsc : scrM F G4 := fun a h1 h2 h3 => (by
                    by_cases h6 : a = 66
                    · rw [h6, e66]
                      exact b1
                    · rw [b2 a h6, r1 a h6 h2 h3, g0 a h1])
                  have hfin := hQ G4 (rel_scr hR hM hsc)
                  have hw : w.toInt = 3 := (by (try clear hQ hfin); (try subst ev11 ev10 ev9 ev6 ev4 ev1); ((try simp only [xb_eq, xb_ne, Int32.lt_iff_toInt_lt, Int32.le_iff_toInt_le] at *) <;> (try simp only [← Int32.toInt_inj, true_and, false_and, or_false, false_or, or_true, true_or, and_true, and_false] at *) <;> omega))
                  rw [wA3 hw] at hfin
                  have h9 := c15
                  subst ev11 ev10 ev9 ev6 ev4 ev1
                  exact xQi hfin (xb_0 (xb_eq.mp h9)).symm rfl
                · refine V2_goto (tgt := 120) d_R_would_112 rfl ?_
                  refine V2_iconst (v := 1) d_R_would_120 rfl ?_
                  refine V2_goto (tgt := 125) d_R_would_121 rfl ?_
                  refine V2_ireturn d_R_would_125 rfl ?_
                  have hb0 : (0 ≤ gas.toInt ∧ gas.toInt ≤ 9) ∧ 0 ≤ w.toInt ∧ w.toInt ≤ 4 := (by (try clear hQ); (try subst ev11 ev10 ev9 ev6 ev4 ev1); ((try simp only [xb_eq, xb_ne, Int32.lt_iff_toInt_lt, Int32.le_iff_toInt_le] at *) <;> (try simp only [← Int32.toInt_inj, true_and, false_and, or_false, false_or, or_true, true_or, and_true, and_false] at *) <;> omega))
                  have e : k_would F0 gas w = (wouldA (F0 66) gas w, F0) := if_pos hb0
                  rw [e] at hQ hM
                  have hsc : scrM F G4 := fun a h1 h2 h3 => (by
                    by_cases h6 : a = 66
                    · rw [h6, e66]
                      exact b1
                    · rw [b2 a h6, r1 a h6 h2 h3, g0 a h1])
                  have hfin := hQ G4 (rel_scr hR hM hsc)
                  have hw : w.toInt = 3 := (by (try clear hQ hfin); (try subst ev11 ev10 ev9 ev6 ev4 ev1); ((try simp only [xb_eq, xb_ne, Int32.lt_iff_toInt_lt, Int32.le_iff_toInt_le] at *) <;> (try simp only [← Int32.toInt_inj, true_and, false_and, or_false, false_or, or_true, true_or, and_true, and_false] at *) <;> omega))
                  rw [wA3 hw] at hfin
                  have h9 := c15
                  subst ev11 ev10 ev9 ev6 ev4 ev1
                  exact xQi hfin (xb_1 (xb_ne.mp h9)).symm rfl
            · refine V2_iload (i := 4) d_R_would_98 rfl ?_
              refine V2_goto (tgt := 125) d_R_would_100 rfl ?_
              refine V2_ireturn d_R_would_125 rfl ?_
              have hb0 : (0 ≤ gas.toInt ∧ gas.toInt ≤ 9) ∧ 0 ≤ w.toInt ∧ w.toInt ≤ 4 := (by (try clear hQ); (try subst ev11 ev10 ev9 ev6 ev4 ev1); ((try simp only [xb_eq, xb_ne, Int32.lt_iff_toInt_lt, Int32.le_iff_toInt_le] at *) <;> (try simp only [← Int32.toInt_inj, true_and, false_and, or_false, false_or, or_true, true_or, and_true, and_false] at *) <;> omega))
              have e : k_would F0 gas w = (wouldA (F0 66) gas w, F0) := if_pos hb0
              rw [e] at hQ hM
              have hsc : scrM F G4 := fun a h1 h2 h3 => (by
                by_cases h6 : a = 66
                · rw [h6, e66]
                  exact b1
                · rw [b2 a h6, r1 a h6 h2 h3, g0 a h1])
              have hfin := hQ G4 (rel_scr hR hM hsc)
              by_cases hw : w.toInt = 2
              · rw [wA2 hw] at hfin
                subst ev11 ev10 ev9 ev6 ev4 ev1
                exact xQi hfin (congrFun r2 1) rfl
              · exfalso
                exact (by (try clear hQ hfin); (try subst ev11 ev10 ev9 ev6 ev4 ev1); ((try simp only [xb_eq, xb_ne, Int32.lt_iff_toInt_lt, Int32.le_iff_toInt_le] at *) <;> (try simp only [← Int32.toInt_inj, true_and, false_and, or_false, false_or, or_true, true_or, and_true, and_false] at *) <;> omega))
          · refine V2_iconst (v := 1) d_R_would_82 rfl ?_
            refine V2_goto (tgt := 87) d_R_would_83 rfl ?_
            refine V2_istore (i := 5) (l' := [some (.ref 65), some (.int gas), some (.int w), some (.int v6), some (.int v9), some (.int (1 : Int32))]) d_R_would_87 (xst_i (Nat.le_of_ble_eq_true rfl) rfl rfl) ?_
            refine V2_aload_n (i := 0) d_R_would_89 rfl rfl ?_
            refine V2_callV [] d_R_would_90 rfl rfl lk_R_158 mo_R_layBack (by decide) rfl rfl rfl (Nat.le_of_ble_eq_true rfl) (Nat.le_of_ble_eq_true rfl) ?_
            refine c_layB (S := F0 66) (fun j hj => (congrFun (r1 68 (by decide) (by decide) (by decide)) j).trans ((p0 j hj).trans (congrFun e66 j))) (fun j hj => by rw [r2]; exact goM_hi _ _ _ _ (by omega)) (fun G4 b1 b2 => ?_)
            refine V2_iload_n (i := 2) d_R_would_93 rfl rfl ?_
            refine V2_iconst (v := 3) d_R_would_94 rfl ?_
            refine V2_icmp_ge (tgt := 103) d_R_would_95 rfl (fun c16 => ?_) (fun c16 => ?_)
            · refine V2_iload_n (i := 2) d_R_would_103 rfl rfl ?_
              refine V2_iconst (v := 3) d_R_would_104 rfl ?_
              refine V2_icmp_ne (tgt := 115) d_R_would_105 rfl (fun c17 => ?_) (fun c17 => ?_)
              · refine V2_iload (i := 5) d_R_would_115 rfl ?_
                refine V2_if_eq (tgt := 124) d_R_would_117 rfl (fun c => (by first | exact absurd c (by decide) | exact absurd (by decide) c)) (fun _ => ?_)
                refine V2_iconst (v := 1) d_R_would_120 rfl ?_
                refine V2_goto (tgt := 125) d_R_would_121 rfl ?_
                refine V2_ireturn d_R_would_125 rfl ?_
                have hb0 : (0 ≤ gas.toInt ∧ gas.toInt ≤ 9) ∧ 0 ≤ w.toInt ∧ w.toInt ≤ 4 := (by (try clear hQ); (try subst ev11 ev10 ev9 ev6 ev4 ev1); ((try simp only [xb_eq, xb_ne, Int32.lt_iff_toInt_lt, Int32.le_iff_toInt_le] at *) <;> (try simp only [← Int32.toInt_inj, true_and, false_and, or_false, false_or, or_true, true_or, and_true, and_false] at *) <;> omega))
                have e : k_would F0 gas w = (wouldA (F0 66) gas w, F0) := if_pos hb0
                rw [e] at hQ hM
                have hsc : scrM F G4 := fun a h1 h2 h3 => (by
                  by_cases h6 : a = 66
                  · rw [h6, e66]
                    exact b1
                  · rw [b2 a h6, r1 a h6 h2 h3, g0 a h1])
                have hfin := hQ G4 (rel_scr hR hM hsc)
                have hw : w.toInt = 4 := (by (try clear hQ hfin); (try subst ev11 ev10 ev9 ev6 ev4 ev1); ((try simp only [xb_eq, xb_ne, Int32.lt_iff_toInt_lt, Int32.le_iff_toInt_le] at *) <;> (try simp only [← Int32.toInt_inj, true_and, false_and, or_false, false_or, or_true, true_or, and_true, and_false] at *) <;> omega))
                rw [wA4 hw] at hfin
                have h9 := c12
                subst ev11 ev10 ev9 ev6 ev4 ev1
                rw [r2] at h9
                exact xQi hfin (xb_1 (Int32.not_lt.mp h9)).symm rfl
              · refine V2_iload_n (i := 3) d_R_would_108 rfl rfl ?_
                refine V2_if_eq (tgt := 124) d_R_would_109 rfl (fun c18 => ?_) (fun c18 => ?_)
                · refine V2_iconst (v := 0) d_R_would_124 rfl ?_
                  refine V2_ireturn d_R_would_125 rfl ?_
                  have hb0 : (0 ≤ gas.toInt ∧ gas.toInt ≤ 9) ∧ 0 ≤ w.toInt ∧ w.toInt ≤ 4 := (by (try clear hQ); (try subst ev11 ev10 ev9 ev6 ev4 ev1); ((try simp only [xb_eq, xb_ne, Int32.lt_iff_toInt_lt, Int32.le_iff_toInt_le] at *) <;> (try simp only [← Int32.toInt_inj, true_and, false_and, or_false, false_or, or_true, true_or, and_true, and_false] at *) <;> omega))
                  have e : k_would F0 gas w = (wouldA (F0 66) gas w, F0) := if_pos hb0
                  rw [e] at hQ hM
                  have hsc : scrM F G4 := fun a h1 h2 h3 => (by
                    by_cases h6 : a = 66
                    · rw [h6, e66]
                      exact b1
                    · rw [b2 a h6, r1 a h6 h2 h3, g0 a h1])
                  have hfin := hQ G4 (rel_scr hR hM hsc)
                  have hw : w.toInt = 3 := (by (try clear hQ hfin); (try subst ev11 ev10 ev9 ev6 ev4 ev1); ((try simp only [xb_eq, xb_ne, Int32.lt_iff_toInt_lt, Int32.le_iff_toInt_le] at *) <;> (try simp only [← Int32.toInt_inj, true_and, false_and, or_false, false_or, or_true, true_or, and_true, and_false] at *) <;> omega))
                  rw [wA3 hw] at hfin
                  have h9 := c18
                  subst ev11 ev10 ev9 ev6 ev4 ev1
                  exact xQi hfin (xb_0 (xb_eq.mp h9)).symm rfl
                · refine V2_goto (tgt := 120) d_R_would_112 rfl ?_
                  refine V2_iconst (v := 1) d_R_would_120 rfl ?_
                  refine V2_goto (tgt := 125) d_R_would_121 rfl ?_
                  refine V2_ireturn d_R_would_125 rfl ?_
                  have hb0 : (0 ≤ gas.toInt ∧ gas.toInt ≤ 9) ∧ 0 ≤ w.toInt ∧ w.toInt ≤ 4 := (by (try clear hQ); (try subst ev11 ev10 ev9 ev6 ev4 ev1); ((try simp only [xb_eq, xb_ne, Int32.lt_iff_toInt_lt, Int32.le_iff_toInt_le] at *) <;> (try simp only [← Int32.toInt_inj, true_and, false_and, or_false, false_or, or_true, true_or, and_true, and_false] at *) <;> omega))
                  have e : k_would F0 gas w = (wouldA (F0 66) gas w, F0) := if_pos hb0
                  rw [e] at hQ hM
                  have hsc : scrM F G4 := fun a h1 h2 h3 => (by
                    by_cases h6 : a = 66
                    · rw [h6, e66]
                      exact b1
                    · rw [b2 a h6, r1 a h6 h2 h3, g0 a h1])
                  have hfin := hQ G4 (rel_scr hR hM hsc)
                  have hw : w.toInt = 3 := (by (try clear hQ hfin); (try subst ev11 ev10 ev9 ev6 ev4 ev1); ((try simp only [xb_eq, xb_ne, Int32.lt_iff_toInt_lt, Int32.le_iff_toInt_le] at *) <;> (try simp only [← Int32.toInt_inj, true_and, false_and, or_false, false_or, or_true, true_or, and_true, and_false] at *) <;> omega))
                  rw [wA3 hw] at hfin
                  have h9 := c18
                  subst ev11 ev10 ev9 ev6 ev4 ev1
                  exact xQi hfin (xb_1 (xb_ne.mp h9)).symm rfl
            · refine V2_iload (i := 4) d_R_would_98 rfl ?_
              refine V2_goto (tgt := 125) d_R_would_100 rfl ?_
              refine V2_ireturn d_R_would_125 rfl ?_
              have hb0 : (0 ≤ gas.toInt ∧ gas.toInt ≤ 9) ∧ 0 ≤ w.toInt ∧ w.toInt ≤ 4 := (by (try clear hQ); (try subst ev11 ev10 ev9 ev6 ev4 ev1); ((try simp only [xb_eq, xb_ne, Int32.lt_iff_toInt_lt, Int32.le_iff_toInt_le] at *) <;> (try simp only [← Int32.toInt_inj, true_and, false_and, or_false, false_or, or_true, true_or, and_true, and_false] at *) <;> omega))
              have e : k_would F0 gas w = (wouldA (F0 66) gas w, F0) := if_pos hb0
              rw [e] at hQ hM
              have hsc : scrM F G4 := fun a h1 h2 h3 => (by
                by_cases h6 : a = 66
                · rw [h6, e66]
                  exact b1
                · rw [b2 a h6, r1 a h6 h2 h3, g0 a h1])
              have hfin := hQ G4 (rel_scr hR hM hsc)
              by_cases hw : w.toInt = 2
              · rw [wA2 hw] at hfin
                subst ev11 ev10 ev9 ev6 ev4 ev1
                exact xQi hfin (congrFun r2 1) rfl
              · exfalso
                exact (by (try clear hQ hfin); (try subst ev11 ev10 ev9 ev6 ev4 ev1); ((try simp only [xb_eq, xb_ne, Int32.lt_iff_toInt_lt, Int32.le_iff_toInt_le] at *) <;> (try simp only [← Int32.toInt_inj, true_and, false_and, or_false, false_or, or_true, true_or, and_true, and_false] at *) <;> omega))
        · refine V2_aload_n (i := 0) d_R_would_50 rfl rfl ?_
          refine V2_getr (a := 66) d_R_would_51 fl_R_7 (by decide) rfl (by decide) rfl ?_
          refine V2_iconst (v := 0) d_R_would_54 rfl ?_
          refine V2_iaload (v := G2 66 0) d_R_would_55 (by decide) rfl (xixA (n := 0) rfl (by decide) (by decide)) rfl ?_
          refine V2_topi (fun v19 ev19 => ?_)
          refine V2_goto (tgt := 65) d_R_would_56 rfl ?_
          refine V2_istore (i := 4) (l' := [some (.ref 65), some (.int gas), some (.int w), some (.int v6), some (.int v19), none]) d_R_would_65 (xst_i (Nat.le_of_ble_eq_true rfl) rfl rfl) ?_
          refine V2_aload_n (i := 0) d_R_would_67 rfl rfl ?_
          refine V2_getr (a := 66) d_R_would_68 fl_R_7 (by decide) rfl (by decide) rfl ?_
          refine V2_iconst (v := 2) d_R_would_71 rfl ?_
          refine V2_iaload (v := G2 66 2) d_R_would_72 (by decide) rfl (xixA (n := 2) rfl (by decide) (by decide)) rfl ?_
          refine V2_topi (fun v20 ev20 => ?_)
          refine V2_aload_n (i := 0) d_R_would_73 rfl rfl ?_
          refine V2_getr (a := 66) d_R_would_74 fl_R_7 (by decide) rfl (by decide) rfl ?_
          refine V2_iconst (v := 0) d_R_would_77 rfl ?_
          refine V2_iaload (v := G2 66 0) d_R_would_78 (by decide) rfl (xixA (n := 0) rfl (by decide) (by decide)) rfl ?_
          refine V2_topi (fun v21 ev21 => ?_)
          refine V2_icmp_lt (tgt := 86) d_R_would_79 rfl (fun c22 => ?_) (fun c22 => ?_)
          · refine V2_iconst (v := 0) d_R_would_86 rfl ?_
            refine V2_istore (i := 5) (l' := [some (.ref 65), some (.int gas), some (.int w), some (.int v6), some (.int v19), some (.int (0 : Int32))]) d_R_would_87 (xst_i (Nat.le_of_ble_eq_true rfl) rfl rfl) ?_
            refine V2_aload_n (i := 0) d_R_would_89 rfl rfl ?_
            refine V2_callV [] d_R_would_90 rfl rfl lk_R_158 mo_R_layBack (by decide) rfl rfl rfl (Nat.le_of_ble_eq_true rfl) (Nat.le_of_ble_eq_true rfl) ?_
            refine c_layB (S := F0 66) (fun j hj => (congrFun (r1 68 (by decide) (by decide) (by decide)) j).trans ((p0 j hj).trans (congrFun e66 j))) (fun j hj => by rw [r2]; exact goM_hi _ _ _ _ (by omega)) (fun G4 b1 b2 => ?_)
            refine V2_iload_n (i := 2) d_R_would_93 rfl rfl ?_
            refine V2_iconst (v := 3) d_R_would_94 rfl ?_
            refine V2_icmp_ge (tgt := 103) d_R_would_95 rfl (fun c23 => ?_) (fun c23 => ?_)
            · refine V2_iload_n (i := 2) d_R_would_103 rfl rfl ?_
              refine V2_iconst (v := 3) d_R_would_104 rfl ?_
              refine V2_icmp_ne (tgt := 115) d_R_would_105 rfl (fun c24 => ?_) (fun c24 => ?_)
              · refine V2_iload (i := 5) d_R_would_115 rfl ?_
                refine V2_if_eq (tgt := 124) d_R_would_117 rfl (fun _ => ?_) (fun c => (by first | exact absurd c (by decide) | exact absurd (by decide) c))
                refine V2_iconst (v := 0) d_R_would_124 rfl ?_
                refine V2_ireturn d_R_would_125 rfl ?_
                have hb0 : (0 ≤ gas.toInt ∧ gas.toInt ≤ 9) ∧ 0 ≤ w.toInt ∧ w.toInt ≤ 4 := (by (try clear hQ); (try subst ev21 ev20 ev19 ev6 ev4 ev1); ((try simp only [xb_eq, xb_ne, Int32.lt_iff_toInt_lt, Int32.le_iff_toInt_le] at *) <;> (try simp only [← Int32.toInt_inj, true_and, false_and, or_false, false_or, or_true, true_or, and_true, and_false] at *) <;> omega))
                have e : k_would F0 gas w = (wouldA (F0 66) gas w, F0) := if_pos hb0
                rw [e] at hQ hM
                have hsc : scrM F G4 := fun a h1 h2 h3 => (by
                  by_cases h6 : a = 66
                  · rw [h6, e66]
                    exact b1
                  · rw [b2 a h6, r1 a h6 h2 h3, g0 a h1])
                have hfin := hQ G4 (rel_scr hR hM hsc)
                have hw : w.toInt = 4 := (by (try clear hQ hfin); (try subst ev21 ev20 ev19 ev6 ev4 ev1); ((try simp only [xb_eq, xb_ne, Int32.lt_iff_toInt_lt, Int32.le_iff_toInt_le] at *) <;> (try simp only [← Int32.toInt_inj, true_and, false_and, or_false, false_or, or_true, true_or, and_true, and_false] at *) <;> omega))
                rw [wA4 hw] at hfin
                have h9 := c22
                subst ev21 ev20 ev19 ev6 ev4 ev1
                rw [r2] at h9
                exact xQi hfin (xb_0 (Int32.not_le.mpr h9)).symm rfl
              · refine V2_iload_n (i := 3) d_R_would_108 rfl rfl ?_
                refine V2_if_eq (tgt := 124) d_R_would_109 rfl (fun c25 => ?_) (fun c25 => ?_)
                · refine V2_iconst (v := 0) d_R_would_124 rfl ?_
                  refine V2_ireturn d_R_would_125 rfl ?_
                  have hb0 : (0 ≤ gas.toInt ∧ gas.toInt ≤ 9) ∧ 0 ≤ w.toInt ∧ w.toInt ≤ 4 := (by (try clear hQ); (try subst ev21 ev20 ev19 ev6 ev4 ev1); ((try simp only [xb_eq, xb_ne, Int32.lt_iff_toInt_lt, Int32.le_iff_toInt_le] at *) <;> (try simp only [← Int32.toInt_inj, true_and, false_and, or_false, false_or, or_true, true_or, and_true, and_false] at *) <;> omega))
                  have e : k_would F0 gas w = (wouldA (F0 66) gas w, F0) := if_pos hb0
                  rw [e] at hQ hM
                  have hsc : scrM F G4 := fun a h1 h2 h3 => (by
                    by_cases h6 : a = 66
                    · rw [h6, e66]
                      exact b1
                    · rw [b2 a h6, r1 a h6 h2 h3, g0 a h1])
                  have hfin := hQ G4 (rel_scr hR hM hsc)
                  have hw : w.toInt = 3 := (by (try clear hQ hfin); (try subst ev21 ev20 ev19 ev6 ev4 ev1); ((try simp only [xb_eq, xb_ne, Int32.lt_iff_toInt_lt, Int32.le_iff_toInt_le] at *) <;> (try simp only [← Int32.toInt_inj, true_and, false_and, or_false, false_or, or_true, true_or, and_true, and_false] at *) <;> omega))
                  rw [wA3 hw] at hfin
                  have h9 := c25
                  subst ev21 ev20 ev19 ev6 ev4 ev1
                  exact xQi hfin (xb_0 (xb_eq.mp h9)).symm rfl
                · refine V2_goto (tgt := 120) d_R_would_112 rfl ?_
                  refine V2_iconst (v := 1) d_R_would_120 rfl ?_
                  refine V2_goto (tgt := 125) d_R_would_121 rfl ?_
                  refine V2_ireturn d_R_would_125 rfl ?_
                  have hb0 : (0 ≤ gas.toInt ∧ gas.toInt ≤ 9) ∧ 0 ≤ w.toInt ∧ w.toInt ≤ 4 := (by (try clear hQ); (try subst ev21 ev20 ev19 ev6 ev4 ev1); ((try simp only [xb_eq, xb_ne, Int32.lt_iff_toInt_lt, Int32.le_iff_toInt_le] at *) <;> (try simp only [← Int32.toInt_inj, true_and, false_and, or_false, false_or, or_true, true_or, and_true, and_false] at *) <;> omega))
                  have e : k_would F0 gas w = (wouldA (F0 66) gas w, F0) := if_pos hb0
                  rw [e] at hQ hM
                  have hsc : scrM F G4 := fun a h1 h2 h3 => (by
                    by_cases h6 : a = 66
                    · rw [h6, e66]
                      exact b1
                    · rw [b2 a h6, r1 a h6 h2 h3, g0 a h1])
                  have hfin := hQ G4 (rel_scr hR hM hsc)
                  have hw : w.toInt = 3 := (by (try clear hQ hfin); (try subst ev21 ev20 ev19 ev6 ev4 ev1); ((try simp only [xb_eq, xb_ne, Int32.lt_iff_toInt_lt, Int32.le_iff_toInt_le] at *) <;> (try simp only [← Int32.toInt_inj, true_and, false_and, or_false, false_or, or_true, true_or, and_true, and_false] at *) <;> omega))
                  rw [wA3 hw] at hfin
                  have h9 := c25
                  subst ev21 ev20 ev19 ev6 ev4 ev1
                  exact xQi hfin (xb_1 (xb_ne.mp h9)).symm rfl
            · refine V2_iload (i := 4) d_R_would_98 rfl ?_
              refine V2_goto (tgt := 125) d_R_would_100 rfl ?_
              refine V2_ireturn d_R_would_125 rfl ?_
              have hb0 : (0 ≤ gas.toInt ∧ gas.toInt ≤ 9) ∧ 0 ≤ w.toInt ∧ w.toInt ≤ 4 := (by (try clear hQ); (try subst ev21 ev20 ev19 ev6 ev4 ev1); ((try simp only [xb_eq, xb_ne, Int32.lt_iff_toInt_lt, Int32.le_iff_toInt_le] at *) <;> (try simp only [← Int32.toInt_inj, true_and, false_and, or_false, false_or, or_true, true_or, and_true, and_false] at *) <;> omega))
              have e : k_would F0 gas w = (wouldA (F0 66) gas w, F0) := if_pos hb0
              rw [e] at hQ hM
              have hsc : scrM F G4 := fun a h1 h2 h3 => (by
                by_cases h6 : a = 66
                · rw [h6, e66]
                  exact b1
                · rw [b2 a h6, r1 a h6 h2 h3, g0 a h1])
              have hfin := hQ G4 (rel_scr hR hM hsc)
              by_cases hw : w.toInt = 1
              · rw [wA1 hw] at hfin
                subst ev21 ev20 ev19 ev6 ev4 ev1
                exact xQi hfin (congrFun r2 0) rfl
              · exfalso
                exact (by (try clear hQ hfin); (try subst ev21 ev20 ev19 ev6 ev4 ev1); ((try simp only [xb_eq, xb_ne, Int32.lt_iff_toInt_lt, Int32.le_iff_toInt_le] at *) <;> (try simp only [← Int32.toInt_inj, true_and, false_and, or_false, false_or, or_true, true_or, and_true, and_false] at *) <;> omega))
          · refine V2_iconst (v := 1) d_R_would_82 rfl ?_
            refine V2_goto (tgt := 87) d_R_would_83 rfl ?_
            refine V2_istore (i := 5) (l' := [some (.ref 65), some (.int gas), some (.int w), some (.int v6), some (.int v19), some (.int (1 : Int32))]) d_R_would_87 (xst_i (Nat.le_of_ble_eq_true rfl) rfl rfl) ?_
            refine V2_aload_n (i := 0) d_R_would_89 rfl rfl ?_
            refine V2_callV [] d_R_would_90 rfl rfl lk_R_158 mo_R_layBack (by decide) rfl rfl rfl (Nat.le_of_ble_eq_true rfl) (Nat.le_of_ble_eq_true rfl) ?_
            refine c_layB (S := F0 66) (fun j hj => (congrFun (r1 68 (by decide) (by decide) (by decide)) j).trans ((p0 j hj).trans (congrFun e66 j))) (fun j hj => by rw [r2]; exact goM_hi _ _ _ _ (by omega)) (fun G4 b1 b2 => ?_)
            refine V2_iload_n (i := 2) d_R_would_93 rfl rfl ?_
            refine V2_iconst (v := 3) d_R_would_94 rfl ?_
            refine V2_icmp_ge (tgt := 103) d_R_would_95 rfl (fun c26 => ?_) (fun c26 => ?_)
            · refine V2_iload_n (i := 2) d_R_would_103 rfl rfl ?_
              refine V2_iconst (v := 3) d_R_would_104 rfl ?_
              refine V2_icmp_ne (tgt := 115) d_R_would_105 rfl (fun c27 => ?_) (fun c27 => ?_)
              · refine V2_iload (i := 5) d_R_would_115 rfl ?_
                refine V2_if_eq (tgt := 124) d_R_would_117 rfl (fun c => (by first | exact absurd c (by decide) | exact absurd (by decide) c)) (fun _ => ?_)
                refine V2_iconst (v := 1) d_R_would_120 rfl ?_
                refine V2_goto (tgt := 125) d_R_would_121 rfl ?_
                refine V2_ireturn d_R_would_125 rfl ?_
                have hb0 : (0 ≤ gas.toInt ∧ gas.toInt ≤ 9) ∧ 0 ≤ w.toInt ∧ w.toInt ≤ 4 := (by (try clear hQ); (try subst ev21 ev20 ev19 ev6 ev4 ev1); ((try simp only [xb_eq, xb_ne, Int32.lt_iff_toInt_lt, Int32.le_iff_toInt_le] at *) <;> (try simp only [← Int32.toInt_inj, true_and, false_and, or_false, false_or, or_true, true_or, and_true, and_false] at *) <;> omega))
                have e : k_would F0 gas w = (wouldA (F0 66) gas w, F0) := if_pos hb0
                rw [e] at hQ hM
                have hsc : scrM F G4 := fun a h1 h2 h3 => (by
                  by_cases h6 : a = 66
                  · rw [h6, e66]
                    exact b1
                  · rw [b2 a h6, r1 a h6 h2 h3, g0 a h1])
                have hfin := hQ G4 (rel_scr hR hM hsc)
                have hw : w.toInt = 4 := (by (try clear hQ hfin); (try subst ev21 ev20 ev19 ev6 ev4 ev1); ((try simp only [xb_eq, xb_ne, Int32.lt_iff_toInt_lt, Int32.le_iff_toInt_le] at *) <;> (try simp only [← Int32.toInt_inj, true_and, false_and, or_false, false_or, or_true, true_or, and_true, and_false] at *) <;> omega))
                rw [wA4 hw] at hfin
                have h9 := c22
                subst ev21 ev20 ev19 ev6 ev4 ev1
                rw [r2] at h9
                exact xQi hfin (xb_1 (Int32.not_lt.mp h9)).symm rfl
              · refine V2_iload_n (i := 3) d_R_would_108 rfl rfl ?_
                refine V2_if_eq (tgt := 124) d_R_would_109 rfl (fun c28 => ?_) (fun c28 => ?_)
                · refine V2_iconst (v := 0) d_R_would_124 rfl ?_
                  refine V2_ireturn d_R_would_125 rfl ?_
                  have hb0 : (0 ≤ gas.toInt ∧ gas.toInt ≤ 9) ∧ 0 ≤ w.toInt ∧ w.toInt ≤ 4 := (by (try clear hQ); (try subst ev21 ev20 ev19 ev6 ev4 ev1); ((try simp only [xb_eq, xb_ne, Int32.lt_iff_toInt_lt, Int32.le_iff_toInt_le] at *) <;> (try simp only [← Int32.toInt_inj, true_and, false_and, or_false, false_or, or_true, true_or, and_true, and_false] at *) <;> omega))
                  have e : k_would F0 gas w = (wouldA (F0 66) gas w, F0) := if_pos hb0
                  rw [e] at hQ hM
                  have hsc : scrM F G4 := fun a h1 h2 h3 => (by
                    by_cases h6 : a = 66
                    · rw [h6, e66]
                      exact b1
                    · rw [b2 a h6, r1 a h6 h2 h3, g0 a h1])
                  have hfin := hQ G4 (rel_scr hR hM hsc)
                  have hw : w.toInt = 3 := (by (try clear hQ hfin); (try subst ev21 ev20 ev19 ev6 ev4 ev1); ((try simp only [xb_eq, xb_ne, Int32.lt_iff_toInt_lt, Int32.le_iff_toInt_le] at *) <;> (try simp only [← Int32.toInt_inj, true_and, false_and, or_false, false_or, or_true, true_or, and_true, and_false] at *) <;> omega))
                  rw [wA3 hw] at hfin
                  have h9 := c28
                  subst ev21 ev20 ev19 ev6 ev4 ev1
                  exact xQi hfin (xb_0 (xb_eq.mp h9)).symm rfl
                · refine V2_goto (tgt := 120) d_R_would_112 rfl ?_
                  refine V2_iconst (v := 1) d_R_would_120 rfl ?_
                  refine V2_goto (tgt := 125) d_R_would_121 rfl ?_
                  refine V2_ireturn d_R_would_125 rfl ?_
                  have hb0 : (0 ≤ gas.toInt ∧ gas.toInt ≤ 9) ∧ 0 ≤ w.toInt ∧ w.toInt ≤ 4 := (by (try clear hQ); (try subst ev21 ev20 ev19 ev6 ev4 ev1); ((try simp only [xb_eq, xb_ne, Int32.lt_iff_toInt_lt, Int32.le_iff_toInt_le] at *) <;> (try simp only [← Int32.toInt_inj, true_and, false_and, or_false, false_or, or_true, true_or, and_true, and_false] at *) <;> omega))
                  have e : k_would F0 gas w = (wouldA (F0 66) gas w, F0) := if_pos hb0
                  rw [e] at hQ hM
                  have hsc : scrM F G4 := fun a h1 h2 h3 => (by
                    by_cases h6 : a = 66
                    · rw [h6, e66]
                      exact b1
                    · rw [b2 a h6, r1 a h6 h2 h3, g0 a h1])
                  have hfin := hQ G4 (rel_scr hR hM hsc)
                  have hw : w.toInt = 3 := (by (try clear hQ hfin); (try subst ev21 ev20 ev19 ev6 ev4 ev1); ((try simp only [xb_eq, xb_ne, Int32.lt_iff_toInt_lt, Int32.le_iff_toInt_le] at *) <;> (try simp only [← Int32.toInt_inj, true_and, false_and, or_false, false_or, or_true, true_or, and_true, and_false] at *) <;> omega))
                  rw [wA3 hw] at hfin
                  have h9 := c28
                  subst ev21 ev20 ev19 ev6 ev4 ev1
                  exact xQi hfin (xb_1 (xb_ne.mp h9)).symm rfl
            · refine V2_iload (i := 4) d_R_would_98 rfl ?_
              refine V2_goto (tgt := 125) d_R_would_100 rfl ?_
              refine V2_ireturn d_R_would_125 rfl ?_
              have hb0 : (0 ≤ gas.toInt ∧ gas.toInt ≤ 9) ∧ 0 ≤ w.toInt ∧ w.toInt ≤ 4 := (by (try clear hQ); (try subst ev21 ev20 ev19 ev6 ev4 ev1); ((try simp only [xb_eq, xb_ne, Int32.lt_iff_toInt_lt, Int32.le_iff_toInt_le] at *) <;> (try simp only [← Int32.toInt_inj, true_and, false_and, or_false, false_or, or_true, true_or, and_true, and_false] at *) <;> omega))
              have e : k_would F0 gas w = (wouldA (F0 66) gas w, F0) := if_pos hb0
              rw [e] at hQ hM
              have hsc : scrM F G4 := fun a h1 h2 h3 => (by
                by_cases h6 : a = 66
                · rw [h6, e66]
                  exact b1
                · rw [b2 a h6, r1 a h6 h2 h3, g0 a h1])
              have hfin := hQ G4 (rel_scr hR hM hsc)
              by_cases hw : w.toInt = 1
              · rw [wA1 hw] at hfin
                subst ev21 ev20 ev19 ev6 ev4 ev1
                exact xQi hfin (congrFun r2 0) rfl
              · exfalso
                exact (by (try clear hQ hfin); (try subst ev21 ev20 ev19 ev6 ev4 ev1); ((try simp only [xb_eq, xb_ne, Int32.lt_iff_toInt_lt, Int32.le_iff_toInt_le] at *) <;> (try simp only [← Int32.toInt_inj, true_and, false_and, or_false, false_or, or_true, true_or, and_true, and_false] at *) <;> omega))
      · refine V2_aload_n (i := 0) d_R_would_36 rfl rfl ?_
        refine V2_getr (a := 66) d_R_would_37 fl_R_7 (by decide) rfl (by decide) rfl ?_
        refine V2_iconst (v := 2) d_R_would_40 rfl ?_
        refine V2_iaload (v := G2 66 2) d_R_would_41 (by decide) rfl (xixA (n := 2) rfl (by decide) (by decide)) rfl ?_
        refine V2_topi (fun v29 ev29 => ?_)
        refine V2_goto (tgt := 65) d_R_would_42 rfl ?_
        refine V2_istore (i := 4) (l' := [some (.ref 65), some (.int gas), some (.int w), some (.int v6), some (.int v29), none]) d_R_would_65 (xst_i (Nat.le_of_ble_eq_true rfl) rfl rfl) ?_
        refine V2_aload_n (i := 0) d_R_would_67 rfl rfl ?_
        refine V2_getr (a := 66) d_R_would_68 fl_R_7 (by decide) rfl (by decide) rfl ?_
        refine V2_iconst (v := 2) d_R_would_71 rfl ?_
        refine V2_iaload (v := G2 66 2) d_R_would_72 (by decide) rfl (xixA (n := 2) rfl (by decide) (by decide)) rfl ?_
        refine V2_topi (fun v30 ev30 => ?_)
        refine V2_aload_n (i := 0) d_R_would_73 rfl rfl ?_
        refine V2_getr (a := 66) d_R_would_74 fl_R_7 (by decide) rfl (by decide) rfl ?_
        refine V2_iconst (v := 0) d_R_would_77 rfl ?_
        refine V2_iaload (v := G2 66 0) d_R_would_78 (by decide) rfl (xixA (n := 0) rfl (by decide) (by decide)) rfl ?_
        refine V2_topi (fun v31 ev31 => ?_)
        refine V2_icmp_lt (tgt := 86) d_R_would_79 rfl (fun c32 => ?_) (fun c32 => ?_)
        · refine V2_iconst (v := 0) d_R_would_86 rfl ?_
          refine V2_istore (i := 5) (l' := [some (.ref 65), some (.int gas), some (.int w), some (.int v6), some (.int v29), some (.int (0 : Int32))]) d_R_would_87 (xst_i (Nat.le_of_ble_eq_true rfl) rfl rfl) ?_
          refine V2_aload_n (i := 0) d_R_would_89 rfl rfl ?_
          refine V2_callV [] d_R_would_90 rfl rfl lk_R_158 mo_R_layBack (by decide) rfl rfl rfl (Nat.le_of_ble_eq_true rfl) (Nat.le_of_ble_eq_true rfl) ?_
          refine c_layB (S := F0 66) (fun j hj => (congrFun (r1 68 (by decide) (by decide) (by decide)) j).trans ((p0 j hj).trans (congrFun e66 j))) (fun j hj => by rw [r2]; exact goM_hi _ _ _ _ (by omega)) (fun G4 b1 b2 => ?_)
          refine V2_iload_n (i := 2) d_R_would_93 rfl rfl ?_
          refine V2_iconst (v := 3) d_R_would_94 rfl ?_
          refine V2_icmp_ge (tgt := 103) d_R_would_95 rfl (fun c33 => ?_) (fun c33 => ?_)
          · refine V2_iload_n (i := 2) d_R_would_103 rfl rfl ?_
            refine V2_iconst (v := 3) d_R_would_104 rfl ?_
            refine V2_icmp_ne (tgt := 115) d_R_would_105 rfl (fun c34 => ?_) (fun c34 => ?_)
            · refine V2_iload (i := 5) d_R_would_115 rfl ?_
              refine V2_if_eq (tgt := 124) d_R_would_117 rfl (fun _ => ?_) (fun c => (by first | exact absurd c (by decide) | exact absurd (by decide) c))
              refine V2_iconst (v := 0) d_R_would_124 rfl ?_
              refine V2_ireturn d_R_would_125 rfl ?_
              have hb0 : (0 ≤ gas.toInt ∧ gas.toInt ≤ 9) ∧ 0 ≤ w.toInt ∧ w.toInt ≤ 4 := (by (try clear hQ); (try subst ev31 ev30 ev29 ev6 ev4 ev1); ((try simp only [xb_eq, xb_ne, Int32.lt_iff_toInt_lt, Int32.le_iff_toInt_le] at *) <;> (try simp only [← Int32.toInt_inj, true_and, false_and, or_false, false_or, or_true, true_or, and_true, and_false] at *) <;> omega))
              have e : k_would F0 gas w = (wouldA (F0 66) gas w, F0) := if_pos hb0
              rw [e] at hQ hM
              have hsc : scrM F G4 := fun a h1 h2 h3 => (by
                by_cases h6 : a = 66
                · rw [h6, e66]
                  exact b1
                · rw [b2 a h6, r1 a h6 h2 h3, g0 a h1])
              have hfin := hQ G4 (rel_scr hR hM hsc)
              have hw : w.toInt = 4 := (by (try clear hQ hfin); (try subst ev31 ev30 ev29 ev6 ev4 ev1); ((try simp only [xb_eq, xb_ne, Int32.lt_iff_toInt_lt, Int32.le_iff_toInt_le] at *) <;> (try simp only [← Int32.toInt_inj, true_and, false_and, or_false, false_or, or_true, true_or, and_true, and_false] at *) <;> omega))
              rw [wA4 hw] at hfin
              have h9 := c32
              subst ev31 ev30 ev29 ev6 ev4 ev1
              rw [r2] at h9
              exact xQi hfin (xb_0 (Int32.not_le.mpr h9)).symm rfl
            · refine V2_iload_n (i := 3) d_R_would_108 rfl rfl ?_
              refine V2_if_eq (tgt := 124) d_R_would_109 rfl (fun c35 => ?_) (fun c35 => ?_)
              · refine V2_iconst (v := 0) d_R_would_124 rfl ?_
                refine V2_ireturn d_R_would_125 rfl ?_
                have hb0 : (0 ≤ gas.toInt ∧ gas.toInt ≤ 9) ∧ 0 ≤ w.toInt ∧ w.toInt ≤ 4 := (by (try clear hQ); (try subst ev31 ev30 ev29 ev6 ev4 ev1); ((try simp only [xb_eq, xb_ne, Int32.lt_iff_toInt_lt, Int32.le_iff_toInt_le] at *) <;> (try simp only [← Int32.toInt_inj, true_and, false_and, or_false, false_or, or_true, true_or, and_true, and_false] at *) <;> omega))
                have e : k_would F0 gas w = (wouldA (F0 66) gas w, F0) := if_pos hb0
                rw [e] at hQ hM
                have hsc : scrM F G4 := fun a h1 h2 h3 => (by
                  by_cases h6 : a = 66
                  · rw [h6, e66]
                    exact b1
                  · rw [b2 a h6, r1 a h6 h2 h3, g0 a h1])
                have hfin := hQ G4 (rel_scr hR hM hsc)
                have hw : w.toInt = 3 := (by (try clear hQ hfin); (try subst ev31 ev30 ev29 ev6 ev4 ev1); ((try simp only [xb_eq, xb_ne, Int32.lt_iff_toInt_lt, Int32.le_iff_toInt_le] at *) <;> (try simp only [← Int32.toInt_inj, true_and, false_and, or_false, false_or, or_true, true_or, and_true, and_false] at *) <;> omega))
                rw [wA3 hw] at hfin
                have h9 := c35
                subst ev31 ev30 ev29 ev6 ev4 ev1
                exact xQi hfin (xb_0 (xb_eq.mp h9)).symm rfl
              · refine V2_goto (tgt := 120) d_R_would_112 rfl ?_
                refine V2_iconst (v := 1) d_R_would_120 rfl ?_
                refine V2_goto (tgt := 125) d_R_would_121 rfl ?_
                refine V2_ireturn d_R_would_125 rfl ?_
                have hb0 : (0 ≤ gas.toInt ∧ gas.toInt ≤ 9) ∧ 0 ≤ w.toInt ∧ w.toInt ≤ 4 := (by (try clear hQ); (try subst ev31 ev30 ev29 ev6 ev4 ev1); ((try simp only [xb_eq, xb_ne, Int32.lt_iff_toInt_lt, Int32.le_iff_toInt_le] at *) <;> (try simp only [← Int32.toInt_inj, true_and, false_and, or_false, false_or, or_true, true_or, and_true, and_false] at *) <;> omega))
                have e : k_would F0 gas w = (wouldA (F0 66) gas w, F0) := if_pos hb0
                rw [e] at hQ hM
                have hsc : scrM F G4 := fun a h1 h2 h3 => (by
                  by_cases h6 : a = 66
                  · rw [h6, e66]
                    exact b1
                  · rw [b2 a h6, r1 a h6 h2 h3, g0 a h1])
                have hfin := hQ G4 (rel_scr hR hM hsc)
                have hw : w.toInt = 3 := (by (try clear hQ hfin); (try subst ev31 ev30 ev29 ev6 ev4 ev1); ((try simp only [xb_eq, xb_ne, Int32.lt_iff_toInt_lt, Int32.le_iff_toInt_le] at *) <;> (try simp only [← Int32.toInt_inj, true_and, false_and, or_false, false_or, or_true, true_or, and_true, and_false] at *) <;> omega))
                rw [wA3 hw] at hfin
                have h9 := c35
                subst ev31 ev30 ev29 ev6 ev4 ev1
                exact xQi hfin (xb_1 (xb_ne.mp h9)).symm rfl
          · refine V2_iload (i := 4) d_R_would_98 rfl ?_
            refine V2_goto (tgt := 125) d_R_would_100 rfl ?_
            refine V2_ireturn d_R_would_125 rfl ?_
            have hb0 : (0 ≤ gas.toInt ∧ gas.toInt ≤ 9) ∧ 0 ≤ w.toInt ∧ w.toInt ≤ 4 := (by (try clear hQ); (try subst ev31 ev30 ev29 ev6 ev4 ev1); ((try simp only [xb_eq, xb_ne, Int32.lt_iff_toInt_lt, Int32.le_iff_toInt_le] at *) <;> (try simp only [← Int32.toInt_inj, true_and, false_and, or_false, false_or, or_true, true_or, and_true, and_false] at *) <;> omega))
            have e : k_would F0 gas w = (wouldA (F0 66) gas w, F0) := if_pos hb0
            rw [e] at hQ hM
            have hsc : scrM F G4 := fun a h1 h2 h3 => (by
              by_cases h6 : a = 66
              · rw [h6, e66]
                exact b1
              · rw [b2 a h6, r1 a h6 h2 h3, g0 a h1])
            have hfin := hQ G4 (rel_scr hR hM hsc)
            by_cases hw : w.toInt = 0
            · rw [wA0 hw] at hfin
              subst ev31 ev30 ev29 ev6 ev4 ev1
              exact xQi hfin (congrFun r2 2) rfl
            · exfalso
              exact (by (try clear hQ hfin); (try subst ev31 ev30 ev29 ev6 ev4 ev1); ((try simp only [xb_eq, xb_ne, Int32.lt_iff_toInt_lt, Int32.le_iff_toInt_le] at *) <;> (try simp only [← Int32.toInt_inj, true_and, false_and, or_false, false_or, or_true, true_or, and_true, and_false] at *) <;> omega))
        · refine V2_iconst (v := 1) d_R_would_82 rfl ?_
          refine V2_goto (tgt := 87) d_R_would_83 rfl ?_
          refine V2_istore (i := 5) (l' := [some (.ref 65), some (.int gas), some (.int w), some (.int v6), some (.int v29), some (.int (1 : Int32))]) d_R_would_87 (xst_i (Nat.le_of_ble_eq_true rfl) rfl rfl) ?_
          refine V2_aload_n (i := 0) d_R_would_89 rfl rfl ?_
          refine V2_callV [] d_R_would_90 rfl rfl lk_R_158 mo_R_layBack (by decide) rfl rfl rfl (Nat.le_of_ble_eq_true rfl) (Nat.le_of_ble_eq_true rfl) ?_
          refine c_layB (S := F0 66) (fun j hj => (congrFun (r1 68 (by decide) (by decide) (by decide)) j).trans ((p0 j hj).trans (congrFun e66 j))) (fun j hj => by rw [r2]; exact goM_hi _ _ _ _ (by omega)) (fun G4 b1 b2 => ?_)
          refine V2_iload_n (i := 2) d_R_would_93 rfl rfl ?_
          refine V2_iconst (v := 3) d_R_would_94 rfl ?_
          refine V2_icmp_ge (tgt := 103) d_R_would_95 rfl (fun c36 => ?_) (fun c36 => ?_)
          · refine V2_iload_n (i := 2) d_R_would_103 rfl rfl ?_
            refine V2_iconst (v := 3) d_R_would_104 rfl ?_
            refine V2_icmp_ne (tgt := 115) d_R_would_105 rfl (fun c37 => ?_) (fun c37 => ?_)
            · refine V2_iload (i := 5) d_R_would_115 rfl ?_
              refine V2_if_eq (tgt := 124) d_R_would_117 rfl (fun c => (by first | exact absurd c (by decide) | exact absurd (by decide) c)) (fun _ => ?_)
              refine V2_iconst (v := 1) d_R_would_120 rfl ?_
              refine V2_goto (tgt := 125) d_R_would_121 rfl ?_
              refine V2_ireturn d_R_would_125 rfl ?_
              have hb0 : (0 ≤ gas.toInt ∧ gas.toInt ≤ 9) ∧ 0 ≤ w.toInt ∧ w.toInt ≤ 4 := (by (try clear hQ); (try subst ev31 ev30 ev29 ev6 ev4 ev1); ((try simp only [xb_eq, xb_ne, Int32.lt_iff_toInt_lt, Int32.le_iff_toInt_le] at *) <;> (try simp only [← Int32.toInt_inj, true_and, false_and, or_false, false_or, or_true, true_or, and_true, and_false] at *) <;> omega))
              have e : k_would F0 gas w = (wouldA (F0 66) gas w, F0) := if_pos hb0
              rw [e] at hQ hM
              have hsc : scrM F G4 := fun a h1 h2 h3 => (by
                by_cases h6 : a = 66
                · rw [h6, e66]
                  exact b1
                · rw [b2 a h6, r1 a h6 h2 h3, g0 a h1])
              have hfin := hQ G4 (rel_scr hR hM hsc)
              have hw : w.toInt = 4 := (by (try clear hQ hfin); (try subst ev31 ev30 ev29 ev6 ev4 ev1); ((try simp only [xb_eq, xb_ne, Int32.lt_iff_toInt_lt, Int32.le_iff_toInt_le] at *) <;> (try simp only [← Int32.toInt_inj, true_and, false_and, or_false, false_or, or_true, true_or, and_true, and_false] at *) <;> omega))
              rw [wA4 hw] at hfin
              have h9 := c32
              subst ev31 ev30 ev29 ev6 ev4 ev1
              rw [r2] at h9
              exact xQi hfin (xb_1 (Int32.not_lt.mp h9)).symm rfl
            · refine V2_iload_n (i := 3) d_R_would_108 rfl rfl ?_
              refine V2_if_eq (tgt := 124) d_R_would_109 rfl (fun c38 => ?_) (fun c38 => ?_)
              · refine V2_iconst (v := 0) d_R_would_124 rfl ?_
                refine V2_ireturn d_R_would_125 rfl ?_
                have hb0 : (0 ≤ gas.toInt ∧ gas.toInt ≤ 9) ∧ 0 ≤ w.toInt ∧ w.toInt ≤ 4 := (by (try clear hQ); (try subst ev31 ev30 ev29 ev6 ev4 ev1); ((try simp only [xb_eq, xb_ne, Int32.lt_iff_toInt_lt, Int32.le_iff_toInt_le] at *) <;> (try simp only [← Int32.toInt_inj, true_and, false_and, or_false, false_or, or_true, true_or, and_true, and_false] at *) <;> omega))
                have e : k_would F0 gas w = (wouldA (F0 66) gas w, F0) := if_pos hb0
                rw [e] at hQ hM
                have hsc : scrM F G4 := fun a h1 h2 h3 => (by
                  by_cases h6 : a = 66
                  · rw [h6, e66]
                    exact b1
                  · rw [b2 a h6, r1 a h6 h2 h3, g0 a h1])
                have hfin := hQ G4 (rel_scr hR hM hsc)
                have hw : w.toInt = 3 := (by (try clear hQ hfin); (try subst ev31 ev30 ev29 ev6 ev4 ev1); ((try simp only [xb_eq, xb_ne, Int32.lt_iff_toInt_lt, Int32.le_iff_toInt_le] at *) <;> (try simp only [← Int32.toInt_inj, true_and, false_and, or_false, false_or, or_true, true_or, and_true, and_false] at *) <;> omega))
                rw [wA3 hw] at hfin
                have h9 := c38
                subst ev31 ev30 ev29 ev6 ev4 ev1
                exact xQi hfin (xb_0 (xb_eq.mp h9)).symm rfl
              · refine V2_goto (tgt := 120) d_R_would_112 rfl ?_
                refine V2_iconst (v := 1) d_R_would_120 rfl ?_
                refine V2_goto (tgt := 125) d_R_would_121 rfl ?_
                refine V2_ireturn d_R_would_125 rfl ?_
                have hb0 : (0 ≤ gas.toInt ∧ gas.toInt ≤ 9) ∧ 0 ≤ w.toInt ∧ w.toInt ≤ 4 := (by (try clear hQ); (try subst ev31 ev30 ev29 ev6 ev4 ev1); ((try simp only [xb_eq, xb_ne, Int32.lt_iff_toInt_lt, Int32.le_iff_toInt_le] at *) <;> (try simp only [← Int32.toInt_inj, true_and, false_and, or_false, false_or, or_true, true_or, and_true, and_false] at *) <;> omega))
                have e : k_would F0 gas w = (wouldA (F0 66) gas w, F0) := if_pos hb0
                rw [e] at hQ hM
                have hsc : scrM F G4 := fun a h1 h2 h3 => (by
                  by_cases h6 : a = 66
                  · rw [h6, e66]
                    exact b1
                  · rw [b2 a h6, r1 a h6 h2 h3, g0 a h1])
                have hfin := hQ G4 (rel_scr hR hM hsc)
                have hw : w.toInt = 3 := (by (try clear hQ hfin); (try subst ev31 ev30 ev29 ev6 ev4 ev1); ((try simp only [xb_eq, xb_ne, Int32.lt_iff_toInt_lt, Int32.le_iff_toInt_le] at *) <;> (try simp only [← Int32.toInt_inj, true_and, false_and, or_false, false_or, or_true, true_or, and_true, and_false] at *) <;> omega))
                rw [wA3 hw] at hfin
                have h9 := c38
                subst ev31 ev30 ev29 ev6 ev4 ev1
                exact xQi hfin (xb_1 (xb_ne.mp h9)).symm rfl
          · refine V2_iload (i := 4) d_R_would_98 rfl ?_
            refine V2_goto (tgt := 125) d_R_would_100 rfl ?_
            refine V2_ireturn d_R_would_125 rfl ?_
            have hb0 : (0 ≤ gas.toInt ∧ gas.toInt ≤ 9) ∧ 0 ≤ w.toInt ∧ w.toInt ≤ 4 := (by (try clear hQ); (try subst ev31 ev30 ev29 ev6 ev4 ev1); ((try simp only [xb_eq, xb_ne, Int32.lt_iff_toInt_lt, Int32.le_iff_toInt_le] at *) <;> (try simp only [← Int32.toInt_inj, true_and, false_and, or_false, false_or, or_true, true_or, and_true, and_false] at *) <;> omega))
            have e : k_would F0 gas w = (wouldA (F0 66) gas w, F0) := if_pos hb0
            rw [e] at hQ hM
            have hsc : scrM F G4 := fun a h1 h2 h3 => (by
              by_cases h6 : a = 66
              · rw [h6, e66]
                exact b1
              · rw [b2 a h6, r1 a h6 h2 h3, g0 a h1])
            have hfin := hQ G4 (rel_scr hR hM hsc)
            by_cases hw : w.toInt = 0
            · rw [wA0 hw] at hfin
              subst ev31 ev30 ev29 ev6 ev4 ev1
              exact xQi hfin (congrFun r2 2) rfl
            · exfalso
              exact (by (try clear hQ hfin); (try subst ev31 ev30 ev29 ev6 ev4 ev1); ((try simp only [xb_eq, xb_ne, Int32.lt_iff_toInt_lt, Int32.le_iff_toInt_le] at *) <;> (try simp only [← Int32.toInt_inj, true_and, false_and, or_false, false_or, or_true, true_or, and_true, and_false] at *) <;> omega))
    · refine V2_aload_n (i := 0) d_R_would_16 rfl rfl ?_
      refine V2_iconst (v := 1) d_R_would_17 rfl ?_
      refine V2_callV [.int (1 : Int32)] d_R_would_18 rfl rfl lk_R_55 mo_R_error (by decide) rfl rfl rfl (Nat.le_of_ble_eq_true rfl) (Nat.le_of_ble_eq_true rfl) ?_
      refine c_R_error1 ?_
      refine V2_topi (fun v39 ev39 => ?_)
      refine V2_ireturn d_R_would_21 rfl ?_
      have hb0 : ¬ ((0 ≤ gas.toInt ∧ gas.toInt ≤ 9) ∧ 0 ≤ w.toInt ∧ w.toInt ≤ 4) := (by (try clear hQ); (try subst ev39 ev4 ev1); ((try simp only [xb_eq, xb_ne, Int32.lt_iff_toInt_lt, Int32.le_iff_toInt_le] at *) <;> (try simp only [← Int32.toInt_inj, true_and, false_and, or_false, false_or, or_true, true_or, and_true, and_false] at *) <;> omega))
      have e : k_would F0 gas w = (-1000000000 - 1, errF F0 1) := if_neg hb0
      rw [e] at hQ hM
      subst ev39 ev4 ev1
      exact xQi (hQ _ (rel_err hR hM)) rfl rfl
