/-! the class reads: a leaf, all of a part -/
theorem nm_lt {T : Nat → Int32} {N a use : Nat} (h : nmT use (sgT T N a)) : a < N := by
  rcases Nat.lt_or_ge a N with h1 | h1
  · exact h1
  · rw [sg_m1 h1] at h
    unfold nmT isName at h
    split at h <;> simp at h
theorem leafT_eq {T : Nat → Int32} {N use : Nat} (r : Nat) : ∃ o1 o2, leafT T N use r = leafG T N use o1 o2 := by
  cases r with
  | zero => exact ⟨_, _, rfl⟩
  | succ r => exact ⟨_, _, rfl⟩
theorem leaf_dg {T : Nat → Int32} {N use : Nat} {o1 o2 : PS → Bool × PS} {s : PS} (h : dgT (sgT T N s.at_)) : leafG T N use o1 o2 s = (true, (s.to_ (numT T N 4 s.at_ 0).1).add 0 (numT T N 4 s.at_ 0).2) := if_pos h
theorem leaf_33 {T : Nat → Int32} {N use : Nat} {o1 o2 : PS → Bool × PS} {s : PS} (h1 : ¬ dgT (sgT T N s.at_)) (h : sgT T N s.at_ = 33) : leafG T N use o1 o2 s = o1 s := (if_neg h1).trans (if_pos h)
theorem leaf_40 {T : Nat → Int32} {N use : Nat} {o1 o2 : PS → Bool × PS} {s : PS} (h1 : ¬ dgT (sgT T N s.at_)) (h2 : ¬ sgT T N s.at_ = 33) (h : sgT T N s.at_ = 40) : leafG T N use o1 o2 s = o2 s := (if_neg h1).trans ((if_neg h2).trans (if_pos h))
theorem leaf_nm {T : Nat → Int32} {N use : Nat} {o1 o2 : PS → Bool × PS} {s : PS} (h1 : ¬ dgT (sgT T N s.at_)) (h2 : ¬ sgT T N s.at_ = 33) (h3 : ¬ sgT T N s.at_ = 40) (h : nmT use (sgT T N s.at_)) : leafG T N use o1 o2 s = (true, s.go.add 1 (sgT T N s.at_)) := (if_neg h1).trans ((if_neg h2).trans ((if_neg h3).trans (if_pos h)))
theorem leaf_no {T : Nat → Int32} {N use : Nat} {o1 o2 : PS → Bool × PS} {s : PS} (h1 : ¬ dgT (sgT T N s.at_)) (h2 : ¬ sgT T N s.at_ = 33) (h3 : ¬ sgT T N s.at_ = 40) (h : ¬ nmT use (sgT T N s.at_)) : leafG T N use o1 o2 s = (false, s) := (if_neg h1).trans ((if_neg h2).trans ((if_neg h3).trans (if_neg h)))
theorem c_Read_leaf_0 {L : Nat} {xs : Nat → Int32} {d : Nat} {Q : Option Value → xF → Prop} {F : xF} {B : xF} {T : Nat → Int32} {N use : Nat} {s : PS} (hB : TPc B T N) (hu : use ≤ 1) (hR : CR B use s F) (hK : okR use s) (ha : s.at_ ≤ N) (ho : s.n + 5 ≤ s.at_) (hQ : ∀ r1 F1, RESc B use 5 (leafT T N use 0 s) r1 F1 → Q (some (.int r1)) F1) : V2 L xs (d + 8) m_Read_readsLeaf 0 (xEntry [.ref 47, .int (5 : Int32)] 4) [] F Q := by
  refine V2.to (l' := [some (.ref 47), some (.int (5 : Int32)), none, none]) ?_ rfl rfl rfl rfl
  refine V2_aload_n (i := 0) d_Read_readsLeaf_0 rfl rfl ?_
  refine V2_callV [] d_Read_readsLeaf_1 rfl rfl lk_Read_52 mo_Read_sign (by decide) rfl rfl rfl (Nat.le_of_ble_eq_true rfl) (Nat.le_of_ble_eq_true rfl) ?_
  have hN60 := hB.2.1
  refine c_Read_sign (T := T) (N := N) (a := s.at_) ((congrFun (cr_48 hR) 1).trans hB.1) hB.2.1 (fun i hi => (congrFun (cr_49 hR) i).trans (hB.2.2 i hi)) (hR).2.2.1 (by omega) ?_
  refine V2_topi (fun v1 ev1 => ?_)
  refine V2_istore_n (i := 2) (l' := [some (.ref 47), some (.int (5 : Int32)), some (.int v1), none]) d_Read_readsLeaf_4 rfl (xst_i (Nat.le_of_ble_eq_true rfl) rfl rfl) ?_
  refine V2_iload_n (i := 2) d_Read_readsLeaf_5 rfl rfl ?_
  refine V2_callS [.int v1] d_Read_readsLeaf_6 rfl rfl lk_Read_62 mo_Read_isDigit (Nat.le_of_ble_eq_true rfl) (Nat.le_of_ble_eq_true rfl) ?_
  refine c_Read_isDigit ?_
  refine V2_topi (fun v2 ev2 => ?_)
  refine V2_if_eq (tgt := 18) d_Read_readsLeaf_9 rfl (fun c3 => ?_) (fun c3 => ?_)
  · refine V2_iload_n (i := 2) d_Read_readsLeaf_18 rfl rfl ?_
    refine V2_bipush (v := 33) d_Read_readsLeaf_19 rfl ?_
    refine V2_icmp_eq (tgt := 30) d_Read_readsLeaf_21 rfl (fun c4 => ?_) (fun c4 => ?_)
    · refine V2_iload_n (i := 1) d_Read_readsLeaf_30 rfl rfl ?_
      refine V2_iconst (v := 5) d_Read_readsLeaf_31 rfl ?_
      refine V2_icmp_ge (tgt := 50) d_Read_readsLeaf_32 rfl (fun _ => ?_) (fun c => (by first | exact absurd c (by decide) | exact absurd (by decide) c))
      refine V2_iconst (v := 0) d_Read_readsLeaf_50 rfl ?_
      refine V2_zreturn d_Read_readsLeaf_51 rfl (by decide) ?_
      have n1 : ¬ dgT (sgT T N s.at_) := by
        have h9 := c3
        subst ev2 ev1
        rw [← dg_xb]
        exact xb_eq.mp h9
      have n2 : sgT T N s.at_ = 33 := by
        have h9 := c4
        subst ev2 ev1
        exact h9
      have lf : leafT T N use 0 s = (false, s) := leaf_33 n1 n2
      exact xQi (hQ 0 F (Or.inr ⟨rfl, by rw [lf], by rw [lf]; exact cr_fail hR ho⟩)) rfl rfl
    · refine V2_iload_n (i := 2) d_Read_readsLeaf_24 rfl rfl ?_
      refine V2_bipush (v := 40) d_Read_readsLeaf_25 rfl ?_
      refine V2_icmp_ne (tgt := 52) d_Read_readsLeaf_27 rfl (fun c5 => ?_) (fun c5 => ?_)
      · refine V2_aload_n (i := 0) d_Read_readsLeaf_52 rfl rfl ?_
        refine V2_iload_n (i := 2) d_Read_readsLeaf_53 rfl rfl ?_
        refine V2_callV [.int v1] d_Read_readsLeaf_54 rfl rfl lk_Read_71 mo_Read_nameOf (by decide) rfl rfl rfl (Nat.le_of_ble_eq_true rfl) (Nat.le_of_ble_eq_true rfl) ?_
        refine c_Read_nameOf ?_
        refine V2_topi (fun v6 ev6 => ?_)
        refine V2_istore_n (i := 3) (l' := [some (.ref 47), some (.int (5 : Int32)), some (.int v1), some (.int v6)]) d_Read_readsLeaf_57 rfl (xst_i (Nat.le_of_ble_eq_true rfl) rfl rfl) ?_
        refine V2_iload_n (i := 3) d_Read_readsLeaf_58 rfl rfl ?_
        refine V2_if_ne (tgt := 64) d_Read_readsLeaf_59 rfl (fun c7 => ?_) (fun c7 => ?_)
        · refine V2_aload_n (i := 0) d_Read_readsLeaf_64 rfl rfl ?_
          refine V2_dup d_Read_readsLeaf_65 rfl ?_
          refine V2_get (v := F 47 3) d_Read_readsLeaf_66 fl_Read_27 (by decide) rfl (by decide) rfl rfl ?_
          refine V2_topi (fun v8 ev8 => ?_)
          refine V2_iconst (v := 1) d_Read_readsLeaf_69 rfl ?_
          refine V2_iadd d_Read_readsLeaf_70 ?_
          refine V2_topi (fun v9 ev9 => ?_)
          refine V2_put d_Read_readsLeaf_71 fl_Read_27 (by decide) rfl (by decide) rfl ?_
          refine V2_aload_n (i := 0) d_Read_readsLeaf_74 rfl rfl ?_
          refine V2_getr (a := 50) d_Read_readsLeaf_75 fl_Read_20 (by decide) rfl (by decide) rfl ?_
          refine V2_iload_n (i := 3) d_Read_readsLeaf_78 rfl rfl ?_
          refine V2_ineg d_Read_readsLeaf_79 ?_
          refine V2_topi (fun v10 ev10 => ?_)
          refine V2_callV [.int v10] d_Read_readsLeaf_80 rfl rfl lk_Read_59 mo_Nums_add (by decide) rfl rfl rfl (Nat.le_of_ble_eq_true rfl) (Nat.le_of_ble_eq_true rfl) ?_
          have n1 : ¬ dgT (sgT T N s.at_) := by
            have h9 := c3
            subst ev10 ev9 ev8 ev6 ev2 ev1
            rw [← dg_xb]
            exact xb_eq.mp h9
          have n2 : ¬ sgT T N s.at_ = 33 := by
            have h9 := c4
            subst ev10 ev9 ev8 ev6 ev2 ev1
            exact h9
          have n3 : ¬ sgT T N s.at_ = 40 := by
            have h9 := c5
            subst ev10 ev9 ev8 ev6 ev2 ev1
            exact h9
          have n4 : nmT use (sgT T N s.at_) := by
            have h9 := c7
            subst ev10 ev9 ev8 ev6 ev2 ev1
            rw [hR.2.1] at h9
            exact Classical.byContradiction (fun hh => h9 ((nmI_0 hu).mpr hh))
          have lf : leafT T N use 0 s = (true, s.go.add 1 (sgT T N s.at_)) := leaf_nm n1 n2 n3 n4
          have enc : v10 = encT 1 (sgT T N s.at_) := by
            subst ev10 ev9 ev8 ev6 ev2 ev1
            rw [hR.2.1]
            exact nmI_enc hu n4
          have cr8 : CR B use s.go (xp F 47 3 v9) := by
            subst ev10 ev9 ev8 ev6 ev2 ev1
            exact cr_go hR
          have crB := cr_add cr8 enc
          have hlt := nm_lt n4
          refine c_Nums_add_50 (P := s.n) hR.2.2.2.1 (by omega) ?_
          refine V2_iconst (v := 1) d_Read_readsLeaf_83 rfl ?_
          refine V2_zreturn d_Read_readsLeaf_84 rfl (by decide) ?_
          exact xQi (hQ 1 _ (Or.inl ⟨rfl, by rw [lf], by rw [lf]; exact crB⟩)) rfl rfl
        · refine V2_iconst (v := 0) d_Read_readsLeaf_62 rfl ?_
          refine V2_zreturn d_Read_readsLeaf_63 rfl (by decide) ?_
          have n1 : ¬ dgT (sgT T N s.at_) := by
            have h9 := c3
            subst ev6 ev2 ev1
            rw [← dg_xb]
            exact xb_eq.mp h9
          have n2 : ¬ sgT T N s.at_ = 33 := by
            have h9 := c4
            subst ev6 ev2 ev1
            exact h9
          have n3 : ¬ sgT T N s.at_ = 40 := by
            have h9 := c5
            subst ev6 ev2 ev1
            exact h9
          have n4 : ¬ nmT use (sgT T N s.at_) := by
            have h9 := c7
            subst ev6 ev2 ev1
            rw [hR.2.1] at h9
            exact (nmI_0 hu).mp h9
          have lf : leafT T N use 0 s = (false, s) := leaf_no n1 n2 n3 n4
          exact xQi (hQ 0 F (Or.inr ⟨rfl, by rw [lf], by rw [lf]; exact cr_fail hR ho⟩)) rfl rfl
      · refine V2_iload_n (i := 1) d_Read_readsLeaf_30 rfl rfl ?_
        refine V2_iconst (v := 5) d_Read_readsLeaf_31 rfl ?_
        refine V2_icmp_ge (tgt := 50) d_Read_readsLeaf_32 rfl (fun _ => ?_) (fun c => (by first | exact absurd c (by decide) | exact absurd (by decide) c))
        refine V2_iconst (v := 0) d_Read_readsLeaf_50 rfl ?_
        refine V2_zreturn d_Read_readsLeaf_51 rfl (by decide) ?_
        have n1 : ¬ dgT (sgT T N s.at_) := by
          have h9 := c3
          subst ev2 ev1
          rw [← dg_xb]
          exact xb_eq.mp h9
        have n2 : ¬ sgT T N s.at_ = 33 := by
          have h9 := c4
          subst ev2 ev1
          exact h9
        have n3 : sgT T N s.at_ = 40 := by
          have h9 := c5
          subst ev2 ev1
          exact h9
        have lf : leafT T N use 0 s = (false, s) := leaf_40 n1 n2 n3
        exact xQi (hQ 0 F (Or.inr ⟨rfl, by rw [lf], by rw [lf]; exact cr_fail hR ho⟩)) rfl rfl
  · refine V2_aload_n (i := 0) d_Read_readsLeaf_12 rfl rfl ?_
    refine V2_callV [] d_Read_readsLeaf_13 rfl rfl lk_Read_65 mo_Read_readNumber (by decide) rfl rfl rfl (Nat.le_of_ble_eq_true rfl) (Nat.le_of_ble_eq_true rfl) ?_
    have n1 : dgT (sgT T N s.at_) := by
      have h9 := c3
      subst ev2 ev1
      rw [← dg_xb]
      exact Decidable.not_not.mp (fun hh => h9 (xb_eq.mpr hh))
    have hlt := dg_lt n1
    refine c_Read_number hB (by omega) hR ha (fun GN hN => ?_)
    refine V2_iconst (v := 1) d_Read_readsLeaf_16 rfl ?_
    refine V2_zreturn d_Read_readsLeaf_17 rfl (by decide) ?_
    have lf : leafT T N use 0 s = _ := leaf_dg n1
    exact xQi (hQ 1 GN (Or.inl ⟨rfl, by rw [lf], by rw [lf]; exact hN⟩)) rfl rfl
theorem c_Read_leaf_1 {L : Nat} {xs : Nat → Int32} {d : Nat} {Q : Option Value → xF → Prop} {F : xF} {B : xF} {T : Nat → Int32} {N use o r : Nat} {s : PS} (hB : TPc B T N) (hu : use ≤ 1) (hor : o + (r + 1) = 5) (hp1 : CKleaf L xs B N use (o + 1) (leafT T N use r) (d + 6)) (hp2 : CKpart L xs B N use (o + 1) (wholeT T N (leafT T N use r)) (d + 6) (0 : Int32)) (hR : CR B use s F) (hK : okR use s) (ha : s.at_ ≤ N) (ho : s.n + o ≤ s.at_) (hQ : ∀ r1 F1, RESc B use o (leafT T N use (r + 1) s) r1 F1 → Q (some (.int r1)) F1) : V2 L xs (d + 8) m_Read_readsLeaf 0 (xEntry [.ref 47, .int (nI o)] 4) [] F Q := by
  refine V2.to (l' := [some (.ref 47), some (.int (nI o)), none, none]) ?_ rfl rfl rfl rfl
  refine V2_aload_n (i := 0) d_Read_readsLeaf_0 rfl rfl ?_
  refine V2_callV [] d_Read_readsLeaf_1 rfl rfl lk_Read_52 mo_Read_sign (by decide) rfl rfl rfl (Nat.le_of_ble_eq_true rfl) (Nat.le_of_ble_eq_true rfl) ?_
  have hN60 := hB.2.1
  refine c_Read_sign (T := T) (N := N) (a := s.at_) ((congrFun (cr_48 hR) 1).trans hB.1) hB.2.1 (fun i hi => (congrFun (cr_49 hR) i).trans (hB.2.2 i hi)) (hR).2.2.1 (by omega) ?_
  refine V2_topi (fun v1 ev1 => ?_)
  refine V2_istore_n (i := 2) (l' := [some (.ref 47), some (.int (nI o)), some (.int v1), none]) d_Read_readsLeaf_4 rfl (xst_i (Nat.le_of_ble_eq_true rfl) rfl rfl) ?_
  refine V2_iload_n (i := 2) d_Read_readsLeaf_5 rfl rfl ?_
  refine V2_callS [.int v1] d_Read_readsLeaf_6 rfl rfl lk_Read_62 mo_Read_isDigit (Nat.le_of_ble_eq_true rfl) (Nat.le_of_ble_eq_true rfl) ?_
  refine c_Read_isDigit ?_
  refine V2_topi (fun v2 ev2 => ?_)
  refine V2_if_eq (tgt := 18) d_Read_readsLeaf_9 rfl (fun c3 => ?_) (fun c3 => ?_)
  · refine V2_iload_n (i := 2) d_Read_readsLeaf_18 rfl rfl ?_
    refine V2_bipush (v := 33) d_Read_readsLeaf_19 rfl ?_
    refine V2_icmp_eq (tgt := 30) d_Read_readsLeaf_21 rfl (fun c4 => ?_) (fun c4 => ?_)
    · refine V2_iload_n (i := 1) d_Read_readsLeaf_30 rfl rfl ?_
      refine V2_iconst (v := 5) d_Read_readsLeaf_31 rfl ?_
      refine V2_icmp_ge (tgt := 50) d_Read_readsLeaf_32 rfl (fun c5 => (by first | exact absurd c5 (fun h9 => absurd ((nI_leI (a := 5) (by omega) (by omega)).mp h9) (by omega)) | exact absurd (fun h9 => absurd ((nI_leI (a := 5) (by omega) (by omega)).mp h9) (by omega)) c5)) (fun c5 => ?_)
      refine V2_aload_n (i := 0) d_Read_readsLeaf_35 rfl rfl ?_
      refine V2_iload_n (i := 2) d_Read_readsLeaf_36 rfl rfl ?_
      refine V2_iload_n (i := 1) d_Read_readsLeaf_37 rfl rfl ?_
      refine V2_iconst (v := 1) d_Read_readsLeaf_38 rfl ?_
      refine V2_iadd d_Read_readsLeaf_39 ?_
      refine V2_topi (fun v6 ev6 => ?_)
      obtain rfl : v6 = nI (o + 1) := by
        rw [ev6, nI_1]
      refine V2_callV [.int v1, .int (nI (o + 1))] d_Read_readsLeaf_40 rfl rfl lk_Read_68 mo_Read_readsOpened (by decide) rfl rfl rfl (Nat.le_of_ble_eq_true rfl) (Nat.le_of_ble_eq_true rfl) ?_
      refine V2.to (l' := [some (.ref 47), some (.int v1), some (.int (nI (o + 1))), none]) ?_ rfl rfl rfl rfl
      refine V2_aload_n (i := 0) d_Read_readsOpened_0 rfl rfl ?_
      refine V2_dup d_Read_readsOpened_1 rfl ?_
      refine V2_get (v := F 47 3) d_Read_readsOpened_2 fl_Read_27 (by decide) rfl (by decide) rfl rfl ?_
      refine V2_topi (fun v7 ev7 => ?_)
      refine V2_iconst (v := 1) d_Read_readsOpened_5 rfl ?_
      refine V2_iadd d_Read_readsOpened_6 ?_
      refine V2_topi (fun v8 ev8 => ?_)
      refine V2_put d_Read_readsOpened_7 fl_Read_27 (by decide) rfl (by decide) rfl ?_
      refine V2_iload_n (i := 1) d_Read_readsOpened_10 rfl rfl ?_
      refine V2_bipush (v := 33) d_Read_readsOpened_11 rfl ?_
      refine V2_icmp_ne (tgt := 33) d_Read_readsOpened_13 rfl (fun c9 => (by first | exact absurd c9 c4 | exact absurd c4 c9)) (fun c9 => ?_)
      refine V2_aload_n (i := 0) d_Read_readsOpened_16 rfl rfl ?_
      refine V2_iload_n (i := 2) d_Read_readsOpened_17 rfl rfl ?_
      refine V2_callV [.int (nI (o + 1))] d_Read_readsOpened_18 rfl rfl lk_Read_45 mo_Read_readsLeaf (by decide) rfl rfl rfl (Nat.le_of_ble_eq_true rfl) (Nat.le_of_ble_eq_true rfl) ?_
      have n1 : ¬ dgT (sgT T N s.at_) := by
        have h9 := c3
        subst ev8 ev7 ev2 ev1
        rw [← dg_xb]
        exact xb_eq.mp h9
      have n2 : sgT T N s.at_ = 33 := by
        have h9 := c4
        subst ev8 ev7 ev2 ev1
        exact h9
      have lf : leafT T N use (r + 1) s = notT (leafT T N use r) s := leaf_33 n1 n2
      unfold notT at lf
      have cr8 : CR B use s.go (xp F 47 3 v8) := by
        subst ev8 ev7 ev2 ev1
        exact cr_go hR
      have hlt := sg_lt n2 (by decide)
      have gg := good_T (T := T) (N := N) r s.go hK (show s.at_ + 1 ≤ N from hlt)
      have eg1 : s.go.at_ = s.at_ + 1 := rfl
      have eg2 : s.go.n = s.n := rfl
      refine hp1 _ _ s.go cr8 hK (by omega) (by omega) (fun rA GA hA => ?_)
      rcases hA with ⟨rfl, okA, crA⟩ | ⟨rfl, okA, crA⟩
      · refine V2_istore_n (i := 3) (l' := [some (.ref 47), some (.int v1), some (.int (nI (o + 1))), some (.int (1 : Int32))]) d_Read_readsOpened_21 rfl (xst_i (Nat.le_of_ble_eq_true rfl) rfl rfl) ?_
        refine V2_aload_n (i := 0) d_Read_readsOpened_22 rfl rfl ?_
        refine V2_getr (a := 50) d_Read_readsOpened_23 fl_Read_20 (by decide) rfl (by decide) rfl ?_
        refine V2_bipush (v := -33) d_Read_readsOpened_26 rfl ?_
        refine V2_callV [.int (-33 : Int32)] d_Read_readsOpened_28 rfl rfl lk_Read_59 mo_Nums_add (by decide) rfl rfl rfl (Nat.le_of_ble_eq_true rfl) (Nat.le_of_ble_eq_true rfl) ?_
        have gA := gg.2.1
        have gB := gg.2.2 okA
        have cr9 := cr_add (w := 2) (v := 0) (x := -33) crA (encT_2 rfl).symm
        refine c_Nums_add_50 (P := (leafT T N use r s.go).2.n) crA.2.2.2.1 (by omega) ?_
        refine V2_iload_n (i := 3) d_Read_readsOpened_31 rfl rfl ?_
        refine V2_zreturn d_Read_readsOpened_32 rfl (by decide) ?_
        refine V2.to (st' := [.int (1 : Int32)]) ?_ rfl rfl rfl rfl
        refine V2_if_eq (tgt := 50) d_Read_readsLeaf_43 rfl (fun c => (by first | exact absurd c (by decide) | exact absurd (by decide) c)) (fun _ => ?_)
        refine V2_iconst (v := 1) d_Read_readsLeaf_46 rfl ?_
        refine V2_goto (tgt := 51) d_Read_readsLeaf_47 rfl ?_
        refine V2_zreturn d_Read_readsLeaf_51 rfl (by decide) ?_
        exact xQi (hQ 1 _ (Or.inl ⟨rfl, by rw [lf, andT_t okA], by rw [lf, andT_t okA]; exact cr9⟩)) rfl rfl
      · refine V2_istore_n (i := 3) (l' := [some (.ref 47), some (.int v1), some (.int (nI (o + 1))), some (.int (0 : Int32))]) d_Read_readsOpened_21 rfl (xst_i (Nat.le_of_ble_eq_true rfl) rfl rfl) ?_
        refine V2_aload_n (i := 0) d_Read_readsOpened_22 rfl rfl ?_
        refine V2_getr (a := 50) d_Read_readsOpened_23 fl_Read_20 (by decide) rfl (by decide) rfl ?_
        refine V2_bipush (v := -33) d_Read_readsOpened_26 rfl ?_
        refine V2_callV [.int (-33 : Int32)] d_Read_readsOpened_28 rfl rfl lk_Read_59 mo_Nums_add (by decide) rfl rfl rfl (Nat.le_of_ble_eq_true rfl) (Nat.le_of_ble_eq_true rfl) ?_
        have gA := gg.2.1
        obtain ⟨j1, j2, m, jm, j3⟩ := crA
        have cr9 := crf_add (x := -33) (m := m) ⟨j1, j2, m, jm, j3⟩ jm
        refine c_Nums_add_50 (P := m) j3 (by omega) ?_
        refine V2_iload_n (i := 3) d_Read_readsOpened_31 rfl rfl ?_
        refine V2_zreturn d_Read_readsOpened_32 rfl (by decide) ?_
        refine V2.to (st' := [.int (0 : Int32)]) ?_ rfl rfl rfl rfl
        refine V2_if_eq (tgt := 50) d_Read_readsLeaf_43 rfl (fun _ => ?_) (fun c => (by first | exact absurd c (by decide) | exact absurd (by decide) c))
        refine V2_iconst (v := 0) d_Read_readsLeaf_50 rfl ?_
        refine V2_zreturn d_Read_readsLeaf_51 rfl (by decide) ?_
        exact xQi (hQ 0 _ (Or.inr ⟨rfl, by rw [lf, andT_f okA]; exact okA, by rw [lf, andT_f okA]; exact cr9⟩)) rfl rfl
    · refine V2_iload_n (i := 2) d_Read_readsLeaf_24 rfl rfl ?_
      refine V2_bipush (v := 40) d_Read_readsLeaf_25 rfl ?_
      refine V2_icmp_ne (tgt := 52) d_Read_readsLeaf_27 rfl (fun c10 => ?_) (fun c10 => ?_)
      · refine V2_aload_n (i := 0) d_Read_readsLeaf_52 rfl rfl ?_
        refine V2_iload_n (i := 2) d_Read_readsLeaf_53 rfl rfl ?_
        refine V2_callV [.int v1] d_Read_readsLeaf_54 rfl rfl lk_Read_71 mo_Read_nameOf (by decide) rfl rfl rfl (Nat.le_of_ble_eq_true rfl) (Nat.le_of_ble_eq_true rfl) ?_
        refine c_Read_nameOf ?_
        refine V2_topi (fun v11 ev11 => ?_)
        refine V2_istore_n (i := 3) (l' := [some (.ref 47), some (.int (nI o)), some (.int v1), some (.int v11)]) d_Read_readsLeaf_57 rfl (xst_i (Nat.le_of_ble_eq_true rfl) rfl rfl) ?_
        refine V2_iload_n (i := 3) d_Read_readsLeaf_58 rfl rfl ?_
        refine V2_if_ne (tgt := 64) d_Read_readsLeaf_59 rfl (fun c12 => ?_) (fun c12 => ?_)
        · refine V2_aload_n (i := 0) d_Read_readsLeaf_64 rfl rfl ?_
          refine V2_dup d_Read_readsLeaf_65 rfl ?_
          refine V2_get (v := F 47 3) d_Read_readsLeaf_66 fl_Read_27 (by decide) rfl (by decide) rfl rfl ?_
          refine V2_topi (fun v13 ev13 => ?_)
          refine V2_iconst (v := 1) d_Read_readsLeaf_69 rfl ?_
          refine V2_iadd d_Read_readsLeaf_70 ?_
          refine V2_topi (fun v14 ev14 => ?_)
          refine V2_put d_Read_readsLeaf_71 fl_Read_27 (by decide) rfl (by decide) rfl ?_
          refine V2_aload_n (i := 0) d_Read_readsLeaf_74 rfl rfl ?_
          refine V2_getr (a := 50) d_Read_readsLeaf_75 fl_Read_20 (by decide) rfl (by decide) rfl ?_
          refine V2_iload_n (i := 3) d_Read_readsLeaf_78 rfl rfl ?_
          refine V2_ineg d_Read_readsLeaf_79 ?_
          refine V2_topi (fun v15 ev15 => ?_)
          refine V2_callV [.int v15] d_Read_readsLeaf_80 rfl rfl lk_Read_59 mo_Nums_add (by decide) rfl rfl rfl (Nat.le_of_ble_eq_true rfl) (Nat.le_of_ble_eq_true rfl) ?_
          have n1 : ¬ dgT (sgT T N s.at_) := by
            have h9 := c3
            subst ev15 ev14 ev13 ev11 ev2 ev1
            rw [← dg_xb]
            exact xb_eq.mp h9
          have n2 : ¬ sgT T N s.at_ = 33 := by
            have h9 := c4
            subst ev15 ev14 ev13 ev11 ev2 ev1
            exact h9
          have n3 : ¬ sgT T N s.at_ = 40 := by
            have h9 := c10
            subst ev15 ev14 ev13 ev11 ev2 ev1
            exact h9
          have n4 : nmT use (sgT T N s.at_) := by
            have h9 := c12
            subst ev15 ev14 ev13 ev11 ev2 ev1
            rw [hR.2.1] at h9
            exact Classical.byContradiction (fun hh => h9 ((nmI_0 hu).mpr hh))
          have lf : leafT T N use (r + 1) s = (true, s.go.add 1 (sgT T N s.at_)) := leaf_nm n1 n2 n3 n4
          have enc : v15 = encT 1 (sgT T N s.at_) := by
            subst ev15 ev14 ev13 ev11 ev2 ev1
            rw [hR.2.1]
            exact nmI_enc hu n4
          have cr8 : CR B use s.go (xp F 47 3 v14) := by
            subst ev15 ev14 ev13 ev11 ev2 ev1
            exact cr_go hR
          have crB := cr_add cr8 enc
          have hlt := nm_lt n4
          refine c_Nums_add_50 (P := s.n) hR.2.2.2.1 (by omega) ?_
          refine V2_iconst (v := 1) d_Read_readsLeaf_83 rfl ?_
          refine V2_zreturn d_Read_readsLeaf_84 rfl (by decide) ?_
          exact xQi (hQ 1 _ (Or.inl ⟨rfl, by rw [lf], by rw [lf]; exact crB⟩)) rfl rfl
        · refine V2_iconst (v := 0) d_Read_readsLeaf_62 rfl ?_
          refine V2_zreturn d_Read_readsLeaf_63 rfl (by decide) ?_
          have n1 : ¬ dgT (sgT T N s.at_) := by
            have h9 := c3
            subst ev11 ev2 ev1
            rw [← dg_xb]
            exact xb_eq.mp h9
          have n2 : ¬ sgT T N s.at_ = 33 := by
            have h9 := c4
            subst ev11 ev2 ev1
            exact h9
          have n3 : ¬ sgT T N s.at_ = 40 := by
            have h9 := c10
            subst ev11 ev2 ev1
            exact h9
          have n4 : ¬ nmT use (sgT T N s.at_) := by
            have h9 := c12
            subst ev11 ev2 ev1
            rw [hR.2.1] at h9
            exact (nmI_0 hu).mp h9
          have lf : leafT T N use (r + 1) s = (false, s) := leaf_no n1 n2 n3 n4
          exact xQi (hQ 0 F (Or.inr ⟨rfl, by rw [lf], by rw [lf]; exact cr_fail hR ho⟩)) rfl rfl
      · refine V2_iload_n (i := 1) d_Read_readsLeaf_30 rfl rfl ?_
        refine V2_iconst (v := 5) d_Read_readsLeaf_31 rfl ?_
        refine V2_icmp_ge (tgt := 50) d_Read_readsLeaf_32 rfl (fun c16 => (by first | exact absurd c16 (fun h9 => absurd ((nI_leI (a := 5) (by omega) (by omega)).mp h9) (by omega)) | exact absurd (fun h9 => absurd ((nI_leI (a := 5) (by omega) (by omega)).mp h9) (by omega)) c16)) (fun c16 => ?_)
        refine V2_aload_n (i := 0) d_Read_readsLeaf_35 rfl rfl ?_
        refine V2_iload_n (i := 2) d_Read_readsLeaf_36 rfl rfl ?_
        refine V2_iload_n (i := 1) d_Read_readsLeaf_37 rfl rfl ?_
        refine V2_iconst (v := 1) d_Read_readsLeaf_38 rfl ?_
        refine V2_iadd d_Read_readsLeaf_39 ?_
        refine V2_topi (fun v17 ev17 => ?_)
        obtain rfl : v17 = nI (o + 1) := by
          rw [ev17, nI_1]
        refine V2_callV [.int v1, .int (nI (o + 1))] d_Read_readsLeaf_40 rfl rfl lk_Read_68 mo_Read_readsOpened (by decide) rfl rfl rfl (Nat.le_of_ble_eq_true rfl) (Nat.le_of_ble_eq_true rfl) ?_
        refine V2.to (l' := [some (.ref 47), some (.int v1), some (.int (nI (o + 1))), none]) ?_ rfl rfl rfl rfl
        refine V2_aload_n (i := 0) d_Read_readsOpened_0 rfl rfl ?_
        refine V2_dup d_Read_readsOpened_1 rfl ?_
        refine V2_get (v := F 47 3) d_Read_readsOpened_2 fl_Read_27 (by decide) rfl (by decide) rfl rfl ?_
        refine V2_topi (fun v18 ev18 => ?_)
        refine V2_iconst (v := 1) d_Read_readsOpened_5 rfl ?_
        refine V2_iadd d_Read_readsOpened_6 ?_
        refine V2_topi (fun v19 ev19 => ?_)
        refine V2_put d_Read_readsOpened_7 fl_Read_27 (by decide) rfl (by decide) rfl ?_
        refine V2_iload_n (i := 1) d_Read_readsOpened_10 rfl rfl ?_
        refine V2_bipush (v := 33) d_Read_readsOpened_11 rfl ?_
        refine V2_icmp_ne (tgt := 33) d_Read_readsOpened_13 rfl (fun c20 => ?_) (fun c20 => (by first | exact absurd c4 c20 | exact absurd c20 c4))
        refine V2_aload_n (i := 0) d_Read_readsOpened_33 rfl rfl ?_
        refine V2_iconst (v := 0) d_Read_readsOpened_34 rfl ?_
        refine V2_iload_n (i := 2) d_Read_readsOpened_35 rfl rfl ?_
        refine V2_callV [.int (0 : Int32), .int (nI (o + 1))] d_Read_readsOpened_36 rfl rfl lk_Read_37 mo_Read_readsPart (by decide) rfl rfl rfl (Nat.le_of_ble_eq_true rfl) (Nat.le_of_ble_eq_true rfl) ?_
        have n1 : ¬ dgT (sgT T N s.at_) := by
          have h9 := c3
          subst ev19 ev18 ev2 ev1
          rw [← dg_xb]
          exact xb_eq.mp h9
        have n2 : ¬ sgT T N s.at_ = 33 := by
          have h9 := c4
          subst ev19 ev18 ev2 ev1
          exact h9
        have n3 : sgT T N s.at_ = 40 := by
          have h9 := c10
          subst ev19 ev18 ev2 ev1
          exact h9
        have lf : leafT T N use (r + 1) s = parT T N (wholeT T N (leafT T N use r)) s := leaf_40 n1 n2 n3
        have lf0 : parT T N (wholeT T N (leafT T N use r)) s = andT (wholeT T N (leafT T N use r) s.go) (fun s1 => if sgT T N s1.at_ = 41 then (true, s1.go) else (false, s1)) := rfl
        rw [lf0] at lf
        have cr8 : CR B use s.go (xp F 47 3 v19) := by
          subst ev19 ev18 ev2 ev1
          exact cr_go hR
        have hlt := sg_lt n3 (by decide)
        have gg := good_whole (T := T) (N := N) (good_T (T := T) (N := N) r) s.go hK (show s.at_ + 1 ≤ N from hlt)
        have eg1 : s.go.at_ = s.at_ + 1 := rfl
        have eg2 : s.go.n = s.n := rfl
        refine hp2 _ _ s.go cr8 hK (by omega) (by omega) (fun rA GA hA => ?_)
        rcases hA with ⟨rfl, okA, crA⟩ | ⟨rfl, okA, crA⟩
        · refine V2_if_eq (tgt := 51) d_Read_readsOpened_39 rfl (fun c => (by first | exact absurd c (by decide) | exact absurd (by decide) c)) (fun _ => ?_)
          refine V2_aload_n (i := 0) d_Read_readsOpened_42 rfl rfl ?_
          refine V2_callV [] d_Read_readsOpened_43 rfl rfl lk_Read_52 mo_Read_sign (by decide) rfl rfl rfl (Nat.le_of_ble_eq_true rfl) (Nat.le_of_ble_eq_true rfl) ?_
          have gA := gg.2.1
          have gB := gg.2.2 okA
          refine c_Read_sign (T := T) (N := N) (a := (wholeT T N (leafT T N use r) s.go).2.at_) ((congrFun (cr_48 crA) 1).trans hB.1) hB.2.1 (fun i hi => (congrFun (cr_49 crA) i).trans (hB.2.2 i hi)) (crA).2.2.1 (by omega) ?_
          refine V2_topi (fun v21 ev21 => ?_)
          refine V2_bipush (v := 41) d_Read_readsOpened_46 rfl ?_
          refine V2_icmp_eq (tgt := 53) d_Read_readsOpened_48 rfl (fun c22 => ?_) (fun c22 => ?_)
          · refine V2_aload_n (i := 0) d_Read_readsOpened_53 rfl rfl ?_
            refine V2_dup d_Read_readsOpened_54 rfl ?_
            refine V2_get (v := GA 47 3) d_Read_readsOpened_55 fl_Read_27 (by decide) rfl (by decide) rfl rfl ?_
            refine V2_topi (fun v23 ev23 => ?_)
            refine V2_iconst (v := 1) d_Read_readsOpened_58 rfl ?_
            refine V2_iadd d_Read_readsOpened_59 ?_
            refine V2_topi (fun v24 ev24 => ?_)
            refine V2_put d_Read_readsOpened_60 fl_Read_27 (by decide) rfl (by decide) rfl ?_
            refine V2_iconst (v := 1) d_Read_readsOpened_63 rfl ?_
            refine V2_zreturn d_Read_readsOpened_64 rfl (by decide) ?_
            refine V2.to (st' := [.int (1 : Int32)]) ?_ rfl rfl rfl rfl
            refine V2_if_eq (tgt := 50) d_Read_readsLeaf_43 rfl (fun c => (by first | exact absurd c (by decide) | exact absurd (by decide) c)) (fun _ => ?_)
            refine V2_iconst (v := 1) d_Read_readsLeaf_46 rfl ?_
            refine V2_goto (tgt := 51) d_Read_readsLeaf_47 rfl ?_
            refine V2_zreturn d_Read_readsLeaf_51 rfl (by decide) ?_
            have nB : sgT T N (wholeT T N (leafT T N use r) s.go).2.at_ = 41 := by
              have h9 := c22
              subst ev24 ev23 ev21 ev19 ev18 ev2 ev1
              exact h9
            have lf2 : parT T N (wholeT T N (leafT T N use r)) s = (true, (wholeT T N (leafT T N use r) s.go).2.go) := (andT_t okA).trans (if_pos nB)
            rw [← lf0, lf2] at lf
            have cr9 := cr_go crA
            exact xQi (hQ 1 _ (Or.inl ⟨rfl, by rw [lf], by rw [lf]; exact cr9⟩)) rfl (by subst ev24 ev23 ev21 ev19 ev18 ev2 ev1; rfl)
          · refine V2_iconst (v := 0) d_Read_readsOpened_51 rfl ?_
            refine V2_zreturn d_Read_readsOpened_52 rfl (by decide) ?_
            refine V2.to (st' := [.int (0 : Int32)]) ?_ rfl rfl rfl rfl
            refine V2_if_eq (tgt := 50) d_Read_readsLeaf_43 rfl (fun _ => ?_) (fun c => (by first | exact absurd c (by decide) | exact absurd (by decide) c))
            refine V2_iconst (v := 0) d_Read_readsLeaf_50 rfl ?_
            refine V2_zreturn d_Read_readsLeaf_51 rfl (by decide) ?_
            have nB : ¬ sgT T N (wholeT T N (leafT T N use r) s.go).2.at_ = 41 := by
              have h9 := c22
              subst ev21 ev19 ev18 ev2 ev1
              exact h9
            have lf2 : parT T N (wholeT T N (leafT T N use r)) s = (false, (wholeT T N (leafT T N use r) s.go).2) := (andT_t okA).trans (if_neg nB)
            rw [← lf0, lf2] at lf
            exact xQi (hQ 0 _ (Or.inr ⟨rfl, by rw [lf], by rw [lf]; exact cr_fail (s := (wholeT T N (leafT T N use r) s.go).2) crA (by omega)⟩)) rfl rfl
        · refine V2_if_eq (tgt := 51) d_Read_readsOpened_39 rfl (fun _ => ?_) (fun c => (by first | exact absurd c (by decide) | exact absurd (by decide) c))
          refine V2_iconst (v := 0) d_Read_readsOpened_51 rfl ?_
          refine V2_zreturn d_Read_readsOpened_52 rfl (by decide) ?_
          refine V2.to (st' := [.int (0 : Int32)]) ?_ rfl rfl rfl rfl
          refine V2_if_eq (tgt := 50) d_Read_readsLeaf_43 rfl (fun _ => ?_) (fun c => (by first | exact absurd c (by decide) | exact absurd (by decide) c))
          refine V2_iconst (v := 0) d_Read_readsLeaf_50 rfl ?_
          refine V2_zreturn d_Read_readsLeaf_51 rfl (by decide) ?_
          exact xQi (hQ 0 _ (Or.inr ⟨rfl, by rw [lf, andT_f okA]; exact okA, by rw [lf, andT_f okA]; exact crf_down crA⟩)) rfl rfl
  · refine V2_aload_n (i := 0) d_Read_readsLeaf_12 rfl rfl ?_
    refine V2_callV [] d_Read_readsLeaf_13 rfl rfl lk_Read_65 mo_Read_readNumber (by decide) rfl rfl rfl (Nat.le_of_ble_eq_true rfl) (Nat.le_of_ble_eq_true rfl) ?_
    have n1 : dgT (sgT T N s.at_) := by
      have h9 := c3
      subst ev2 ev1
      rw [← dg_xb]
      exact Decidable.not_not.mp (fun hh => h9 (xb_eq.mpr hh))
    have hlt := dg_lt n1
    refine c_Read_number hB (by omega) hR ha (fun GN hN => ?_)
    refine V2_iconst (v := 1) d_Read_readsLeaf_16 rfl ?_
    refine V2_zreturn d_Read_readsLeaf_17 rfl (by decide) ?_
    have lf : leafT T N use (r + 1) s = _ := leaf_dg n1
    exact xQi (hQ 1 GN (Or.inl ⟨rfl, by rw [lf], by rw [lf]; exact hN⟩)) rfl rfl
theorem ck_part {L : Nat} {xs : Nat → Int32} {B : xF} {T : Nat → Int32} {N use o d : Nat} {p : PS → Bool × PS} (hB : TPc B T N) (hg : goodT N use p) (hp : CKleaf L xs B N use o p (d + 3)) : CKpart L xs B N use o (wholeT T N p) (d + 14) (0 : Int32) := by
  have g4 := good_lv (T := T) (lev := 4) (most := 60) hg (by decide)
  have g3 := good_lv (T := T) (lev := 3) (most := 60) g4 (by decide)
  have g2 := good_lv (T := T) (lev := 2) (most := 1) g3 (by decide)
  have g1 := good_lv (T := T) (lev := 1) (most := 60) g2 (by decide)
  have k5 : CKpart L xs B N use o p (d + 4) (5 : Int32) := fun Q F s h1 h2 h3 h4 hQ => c_Read_part_5 (T := T) hp h1 h2 h3 h4 hQ
  have l4 : CKlev L xs B N use o _ (d + 5) (4 : Int32) := fun Q F s h1 h2 h3 h4 hQ => c_Read_level_4 (d := d + 1) hB hg k5 h1 h2 h3 h4 hQ
  have k4 : CKpart L xs B N use o _ (d + 6) (4 : Int32) := fun Q F s h1 h2 h3 h4 hQ => c_Read_part_4 (T := T) (d := d + 2) l4 h1 h2 h3 h4 hQ
  have l3 : CKlev L xs B N use o _ (d + 7) (3 : Int32) := fun Q F s h1 h2 h3 h4 hQ => c_Read_level_3 (d := d + 3) hB g4 k4 h1 h2 h3 h4 hQ
  have k3 : CKpart L xs B N use o _ (d + 8) (3 : Int32) := fun Q F s h1 h2 h3 h4 hQ => c_Read_part_3 (T := T) (d := d + 4) l3 h1 h2 h3 h4 hQ
  have l2 : CKlev L xs B N use o _ (d + 9) (2 : Int32) := fun Q F s h1 h2 h3 h4 hQ => c_Read_level_2 (d := d + 5) hB g3 k3 h1 h2 h3 h4 hQ
  have k2 : CKpart L xs B N use o _ (d + 10) (2 : Int32) := fun Q F s h1 h2 h3 h4 hQ => c_Read_part_2 (T := T) (d := d + 6) l2 h1 h2 h3 h4 hQ
  have l1 : CKlev L xs B N use o _ (d + 11) (1 : Int32) := fun Q F s h1 h2 h3 h4 hQ => c_Read_level_1 (d := d + 7) hB g2 k2 h1 h2 h3 h4 hQ
  have k1 : CKpart L xs B N use o _ (d + 12) (1 : Int32) := fun Q F s h1 h2 h3 h4 hQ => c_Read_part_1 (T := T) (d := d + 8) l1 h1 h2 h3 h4 hQ
  have l0 : CKlev L xs B N use o _ (d + 13) (0 : Int32) := fun Q F s h1 h2 h3 h4 hQ => c_Read_level_0 (d := d + 9) hB g1 k1 h1 h2 h3 h4 hQ
  exact fun Q F s h1 h2 h3 h4 hQ => c_Read_part_0 (T := T) (d := d + 10) l0 h1 h2 h3 h4 hQ
theorem ck_leaf {L : Nat} {xs : Nat → Int32} {B : xF} {T : Nat → Int32} {N use : Nat} (hB : TPc B T N) (hu : use ≤ 1) : ∀ r o d, o + r = 5 → CKleaf L xs B N use o (leafT T N use r) (d + 8 + 13 * r) := by
  intro r
  induction r with
  | zero =>
    intro o d e Q F s h1 h2 h3 h4 hQ
    obtain rfl : o = 5 := by omega
    exact V2.to (c_Read_leaf_0 (d := d) hB hu h1 h2 h3 h4 hQ) rfl rfl rfl rfl
  | succ r ih =>
    intro o d e
    have a1 : CKleaf L xs B N use (o + 1) (leafT T N use r) (d + 13 * r + 13 + 6) := by
      have := ih (o + 1) (d + 11) (by omega)
      rwa [show d + 11 + 8 + 13 * r = d + 13 * r + 13 + 6 from by omega] at this
    have a2 : CKpart L xs B N use (o + 1) (wholeT T N (leafT T N use r)) (d + 13 * r + 13 + 6) (0 : Int32) := by
      have := ih (o + 1) d (by omega)
      rw [show d + 8 + 13 * r = (d + 13 * r + 5) + 3 from by omega] at this
      exact ck_part hB (good_T r) this
    rw [show d + 8 + 13 * (r + 1) = d + 13 * r + 13 + 8 from by omega]
    exact fun Q F s h1 h2 h3 h4 hQ => c_Read_leaf_1 hB hu e a1 a2 h1 h2 h3 h4 hQ
