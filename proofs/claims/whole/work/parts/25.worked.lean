/-! both sides' texts worked out, row by row -/
def whS (u : Nat) (S : Nat → Int32) (k : Nat) : Int32 := S (24 + 125 * u + 1 + 2 * k)
def vlS (u : Nat) (S : Nat → Int32) (k : Nat) : Int32 := S (24 + 125 * u + 2 + 2 * k)
theorem depT_0 {wh : Nat → Int32} {k : Nat} (h : wh k = 0) : depT wh (k + 1) = depT wh k + 1 := if_pos (Or.inl h)
theorem depT_1 {wh : Nat → Int32} {k : Nat} (h : wh k = 1) : depT wh (k + 1) = depT wh k + 1 := if_pos (Or.inr h)
theorem depT_2 {wh : Nat → Int32} {k : Nat} (h : wh k = 2) : depT wh (k + 1) = depT wh k := by
  show (if _ then _ else _) = _
  rw [if_neg (by rw [h]; decide), if_pos h]
theorem depT_3 {wh : Nat → Int32} {k : Nat} (h : wh k = 3) : depT wh (k + 1) = depT wh k - 1 := by
  show (if _ then _ else _) = _
  rw [if_neg (by rw [h]; decide), if_neg (by rw [h]; decide)]
theorem runT_s {nm : Int32 → Int32} {wh vl : Nat → Int32} {p0 : Nat → Int32} {k : Nat} : runT nm wh vl p0 (k + 1) = stepT nm (wh k) (vl k) (runT nm wh vl p0 k) (depT wh k) := rfl
theorem stepT_0 {nm : Int32 → Int32} {w v : Int32} {p : Nat → Int32} {d : Nat} (h : w = 0) : stepT nm w v p d = upd p d v := if_pos h
theorem stepT_1 {nm : Int32 → Int32} {w v : Int32} {p : Nat → Int32} {d : Nat} (h : w = 1) : stepT nm w v p d = upd p d (nm v) := by
  unfold stepT
  rw [if_neg (by rw [h]; decide), if_pos h]
theorem stepT_2 {nm : Int32 → Int32} {w v : Int32} {p : Nat → Int32} {d : Nat} (h : w = 2) : stepT nm w v p d = upd p (d - 1) (if p (d - 1) = 0 then 1 else 0) := by
  unfold stepT
  rw [if_neg (by rw [h]; decide), if_neg (by rw [h]; decide), if_pos h]
theorem stepT_3 {nm : Int32 → Int32} {w v : Int32} {p : Nat → Int32} {d : Nat} (h : w = 3) : stepT nm w v p d = upd p (d - 2) (joinS v (p (d - 2)) (p (d - 1))) := by
  unfold stepT
  rw [if_neg (by rw [h]; decide), if_neg (by rw [h]; decide), if_neg (by rw [h]; decide)]
theorem nI_sub1 {n : Nat} (h : 1 ≤ n) : nI n - 1 = nI (n - 1) := by
  obtain ⟨m, rfl⟩ : ∃ m, n = m + 1 := ⟨n - 1, by omega⟩
  rw [nI_pred, Nat.add_sub_cancel]
theorem nI_add_m1 {n : Nat} (h : 1 ≤ n) : nI n + -1 = nI (n - 1) := by
  obtain ⟨m, rfl⟩ : ∃ m, n = m + 1 := ⟨n - 1, by omega⟩
  rw [pk_m1, Nat.add_sub_cancel]
theorem c_R_worked0_loop {L : Nat} {xs : Nat → Int32} {d : Nat} {Q : Option Value → xF → Prop} {F : xF} {n : Nat} {nm : Int32 → Int32} (hT : F 66 24 = nI n) (hok : okText 0 n (whS 0 (F 66)) (vlS 0 (F 66))) (hnm : ∀ v, isName 0 v → F 71 v.toNatClampNeg = nm v) (hQ : Q (some (.int (runT nm (whS 0 (F 66)) (vlS 0 (F 66)) (F 72) n 0))) (xrw F 72 (runT nm (whS 0 (F 66)) (vlS 0 (F 66)) (F 72) n))) : ∀ (n_ : Nat) (k : Nat), k ≤ n → n < n_ + k → V2 L xs (d + 1) m_R_worked 13 [some (.ref 65), some (.int (0 : Int32)), some (.int (24 : Int32)), some (.int (nI (depT (whS 0 (F 66)) k))), some (.int (nI k)), none, none] [] (xrw F 72 (runT nm (whS 0 (F 66)) (vlS 0 (F 66)) (F 72) k)) Q := by
  intro n_
  induction n_ with
  | zero => exact fun k h1 h2 => absurd h2 (by omega)
  | succ n_ ih =>
    intro k h1 h2
    have h60 : n ≤ 60 := hok.1
    refine V2_iload (i := 4) d_R_worked_13 rfl ?_
    refine V2_aload_n (i := 0) d_R_worked_15 rfl rfl ?_
    refine V2_getr (a := 66) d_R_worked_16 fl_R_7 (by decide) rfl (by decide) rfl ?_
    refine V2_iload_n (i := 2) d_R_worked_19 rfl rfl ?_
    refine V2_iaload (v := F 66 (24)) d_R_worked_20 (by decide) rfl (xixA (n := 24) rfl (by decide) (by decide)) rfl ?_
    refine V2_topi (fun v1 ev1 => ?_)
    refine V2_icmp_ge (tgt := 163) d_R_worked_21 rfl (fun c2 => ?_) (fun c2 => ?_)
    · refine V2_aload_n (i := 0) d_R_worked_163 rfl rfl ?_
      refine V2_getr (a := 72) d_R_worked_164 fl_R_32 (by decide) rfl (by decide) rfl ?_
      refine V2_iconst (v := 0) d_R_worked_167 rfl ?_
      refine V2_iaload (v := (runT nm (whS 0 (F 66)) (vlS 0 (F 66)) (F 72) k) (0)) d_R_worked_168 (by decide) rfl (xixA (n := 0) rfl (by decide) (by decide)) rfl ?_
      refine V2_topi (fun v3 ev3 => ?_)
      refine V2_ireturn d_R_worked_169 rfl ?_
      have hkn : k = n := by
        subst ev3 ev1
        rw [hT] at c2
        exact Nat.le_antisymm h1 ((nI_leI (by omega) (by omega)).mp c2)
      subst hkn
      exact xQi hQ (by subst ev3 ev1; rfl) rfl
    · have hlt : k < n := Nat.not_le.mp (fun hh => c2 (by subst ev1; rw [hT]; exact (nI_leI (by omega) (by omega)).mpr hh))
      have hokk := hok.2.1 k hlt
      have hdk := depT_le (whS 0 (F 66)) k
      refine V2_aload_n (i := 0) d_R_worked_24 rfl rfl ?_
      refine V2_getr (a := 66) d_R_worked_25 fl_R_7 (by decide) rfl (by decide) rfl ?_
      refine V2_iload_n (i := 2) d_R_worked_28 rfl rfl ?_
      refine V2_iconst (v := 1) d_R_worked_29 rfl ?_
      refine V2_iadd d_R_worked_30 ?_
      refine V2_topi (fun v4 ev4 => ?_)
      refine V2_iconst (v := 2) d_R_worked_31 rfl ?_
      refine V2_iload (i := 4) d_R_worked_32 rfl ?_
      refine V2_imul d_R_worked_34 ?_
      refine V2_topi (fun v5 ev5 => ?_)
      refine V2_iadd d_R_worked_35 ?_
      refine V2_topi (fun v6 ev6 => ?_)
      refine V2_ialoadJ (v := F 66 ((24 + 1 + 2 * k))) (24 + 1 + 2 * k) d_R_worked_36 (by decide) rfl (xixA (n := 24 + 1 + 2 * k) (by subst ev6 ev5 ev4 ev1; simp only [nI, Int32.ofNat_add, Int32.ofNat_mul]; rfl) (by omega) (by decide)) (xixB (n := 24 + 1 + 2 * k) (by subst ev6 ev5 ev4 ev1; simp only [nI, Int32.ofNat_add, Int32.ofNat_mul]; rfl) (by omega)) rfl ?_
      refine V2_topi (fun v7 ev7 => ?_)
      refine V2_istore (i := 5) (l' := [some (.ref 65), some (.int (0 : Int32)), some (.int (24 : Int32)), some (.int (nI (depT (whS 0 (F 66)) k))), some (.int (nI k)), some (.int v7), none]) d_R_worked_37 (xst_i (Nat.le_of_ble_eq_true rfl) rfl rfl) ?_
      refine V2_aload_n (i := 0) d_R_worked_39 rfl rfl ?_
      refine V2_getr (a := 66) d_R_worked_40 fl_R_7 (by decide) rfl (by decide) rfl ?_
      refine V2_iload_n (i := 2) d_R_worked_43 rfl rfl ?_
      refine V2_iconst (v := 2) d_R_worked_44 rfl ?_
      refine V2_iadd d_R_worked_45 ?_
      refine V2_topi (fun v8 ev8 => ?_)
      refine V2_iconst (v := 2) d_R_worked_46 rfl ?_
      refine V2_iload (i := 4) d_R_worked_47 rfl ?_
      refine V2_imul d_R_worked_49 ?_
      refine V2_topi (fun v9 ev9 => ?_)
      refine V2_iadd d_R_worked_50 ?_
      refine V2_topi (fun v10 ev10 => ?_)
      refine V2_ialoadJ (v := F 66 ((24 + 2 + 2 * k))) (24 + 2 + 2 * k) d_R_worked_51 (by decide) rfl (xixA (n := 24 + 2 + 2 * k) (by subst ev10 ev9 ev8 ev7 ev6 ev5 ev4 ev1; simp only [nI, Int32.ofNat_add, Int32.ofNat_mul]; rfl) (by omega) (by decide)) (xixB (n := 24 + 2 + 2 * k) (by subst ev10 ev9 ev8 ev7 ev6 ev5 ev4 ev1; simp only [nI, Int32.ofNat_add, Int32.ofNat_mul]; rfl) (by omega)) rfl ?_
      refine V2_topi (fun v11 ev11 => ?_)
      refine V2_istore (i := 6) (l' := [some (.ref 65), some (.int (0 : Int32)), some (.int (24 : Int32)), some (.int (nI (depT (whS 0 (F 66)) k))), some (.int (nI k)), some (.int v7), some (.int v11)]) d_R_worked_52 (xst_i (Nat.le_of_ble_eq_true rfl) rfl rfl) ?_
      refine V2_iload (i := 5) d_R_worked_54 rfl ?_
      refine V2_if_eq (tgt := 65) d_R_worked_56 rfl (fun c12 => ?_) (fun c12 => ?_)
      · have hwk : whS 0 (F 66) k = 0 := by subst ev11 ev10 ev9 ev8 ev7 ev6 ev5 ev4 ev1; exact c12
        refine V2_aload_n (i := 0) d_R_worked_65 rfl rfl ?_
        refine V2_getr (a := 72) d_R_worked_66 fl_R_32 (by decide) rfl (by decide) rfl ?_
        refine V2_iload_n (i := 3) d_R_worked_69 rfl rfl ?_
        refine V2_iload (i := 5) d_R_worked_70 rfl ?_
        refine V2_if_ne (tgt := 80) d_R_worked_72 rfl (fun c13 => (by first | exact absurd c13 (fun hh => hh c12) | exact absurd (fun hh => hh c12) c13)) (fun c13 => ?_)
        refine V2_iload (i := 6) d_R_worked_75 rfl ?_
        refine V2_goto (tgt := 87) d_R_worked_77 rfl ?_
        refine V2_iastore (j := (depT (whS 0 (F 66)) k)) d_R_worked_87 (by decide) rfl (xixA (n := depT (whS 0 (F 66)) k) (by subst ev11 ev10 ev9 ev8 ev7 ev6 ev5 ev4 ev1; rfl) (by omega) (by decide)) (xixB (n := depT (whS 0 (F 66)) k) (by subst ev11 ev10 ev9 ev8 ev7 ev6 ev5 ev4 ev1; rfl) (by omega)) ?_
        obtain ⟨v14, ev14⟩ : ∃ y : Int32, y = nI (depT (whS 0 (F 66)) k) + 1 := ⟨_, rfl⟩
        refine V2_iinc (i := 3) (v := v14) (l' := [some (.ref 65), some (.int (0 : Int32)), some (.int (24 : Int32)), some (.int v14), some (.int (nI k)), some (.int v7), some (.int v11)]) d_R_worked_88 rfl (by rw [ev14]; rfl) (xst_i (Nat.le_of_ble_eq_true rfl) rfl rfl) ?_
        refine V2_goto (tgt := 157) d_R_worked_91 rfl ?_
        obtain ⟨v15, ev15⟩ : ∃ y : Int32, y = nI k + 1 := ⟨_, rfl⟩
        refine V2_iinc (i := 4) (v := v15) (l' := [some (.ref 65), some (.int (0 : Int32)), some (.int (24 : Int32)), some (.int v14), some (.int v15), some (.int v7), some (.int v11)]) d_R_worked_157 rfl (by rw [ev15]; rfl) (xst_i (Nat.le_of_ble_eq_true rfl) rfl rfl) ?_
        refine V2_goto (tgt := 13) d_R_worked_160 rfl ?_
        have hn' : v14 = nI (depT (whS 0 (F 66)) (k + 1)) := by rw [depT_0 hwk]; subst ev15 ev14 ev11 ev10 ev9 ev8 ev7 ev6 ev5 ev4 ev1; exact nI_1 _
        have hk' : v15 = nI (k + 1) := by subst ev15 ev14 ev11 ev10 ev9 ev8 ev7 ev6 ev5 ev4 ev1; exact nI_1 _
        rw [hn', hk']
        refine V2.weak (l' := [some (.ref 65), some (.int 0), some (.int 24), some (.int (nI (depT (whS 0 (F 66)) (k + 1)))), some (.int (nI (k + 1))), none, none]) ?_ ⟨rfl, rfl, rfl, rfl, rfl, trivial⟩
        exact V2.to (ih (k + 1) (by omega) (by omega)) rfl rfl rfl (by rw [xp_xrw, runT_s, stepT_0 hwk]; subst ev15 ev14 ev11 ev10 ev9 ev8 ev7 ev6 ev5 ev4 ev1; rfl)
      · refine V2_iload (i := 5) d_R_worked_59 rfl ?_
        refine V2_iconst (v := 1) d_R_worked_61 rfl ?_
        refine V2_icmp_ne (tgt := 94) d_R_worked_62 rfl (fun c16 => ?_) (fun c16 => ?_)
        · refine V2_iload (i := 5) d_R_worked_94 rfl ?_
          refine V2_iconst (v := 2) d_R_worked_96 rfl ?_
          refine V2_icmp_ne (tgt := 127) d_R_worked_97 rfl (fun c17 => ?_) (fun c17 => ?_)
          · have hw3 := ok_3 hokk (by intro hh; subst ev11 ev10 ev9 ev8 ev7 ev6 ev5 ev4 ev1; exact c12 hh) (by intro hh; subst ev11 ev10 ev9 ev8 ev7 ev6 ev5 ev4 ev1; exact c16 hh) (by intro hh; subst ev11 ev10 ev9 ev8 ev7 ev6 ev5 ev4 ev1; exact c17 hh)
            have hwk := hw3.1
            have hd2 := hw3.2.1
            obtain ⟨v18, ev18⟩ : ∃ y : Int32, y = nI (depT (whS 0 (F 66)) k) + -1 := ⟨_, rfl⟩
            refine V2_iinc (i := 3) (v := v18) (l' := [some (.ref 65), some (.int (0 : Int32)), some (.int (24 : Int32)), some (.int v18), some (.int (nI k)), some (.int v7), some (.int v11)]) d_R_worked_127 rfl (by rw [ev18]; rfl) (xst_i (Nat.le_of_ble_eq_true rfl) rfl rfl) ?_
            refine V2_aload_n (i := 0) d_R_worked_130 rfl rfl ?_
            refine V2_getr (a := 72) d_R_worked_131 fl_R_32 (by decide) rfl (by decide) rfl ?_
            refine V2_iload_n (i := 3) d_R_worked_134 rfl rfl ?_
            refine V2_iconst (v := 1) d_R_worked_135 rfl ?_
            refine V2_isub d_R_worked_136 ?_
            refine V2_topi (fun v19 ev19 => ?_)
            refine V2_iload (i := 6) d_R_worked_137 rfl ?_
            refine V2_aload_n (i := 0) d_R_worked_139 rfl rfl ?_
            refine V2_getr (a := 72) d_R_worked_140 fl_R_32 (by decide) rfl (by decide) rfl ?_
            refine V2_iload_n (i := 3) d_R_worked_143 rfl rfl ?_
            refine V2_iconst (v := 1) d_R_worked_144 rfl ?_
            refine V2_isub d_R_worked_145 ?_
            refine V2_topi (fun v20 ev20 => ?_)
            refine V2_ialoadJ (v := (runT nm (whS 0 (F 66)) (vlS 0 (F 66)) (F 72) k) ((depT (whS 0 (F 66)) k - 2))) (depT (whS 0 (F 66)) k - 2) d_R_worked_146 (by decide) rfl (xixA (n := depT (whS 0 (F 66)) k - 2) (by subst ev20 ev19 ev18 ev11 ev10 ev9 ev8 ev7 ev6 ev5 ev4 ev1; rw [nI_add_m1 (by omega), nI_sub1 (by omega)]; rfl) (by omega) (by decide)) (xixB (n := depT (whS 0 (F 66)) k - 2) (by subst ev20 ev19 ev18 ev11 ev10 ev9 ev8 ev7 ev6 ev5 ev4 ev1; rw [nI_add_m1 (by omega), nI_sub1 (by omega)]; rfl) (by omega)) rfl ?_
            refine V2_topi (fun v21 ev21 => ?_)
            refine V2_aload_n (i := 0) d_R_worked_147 rfl rfl ?_
            refine V2_getr (a := 72) d_R_worked_148 fl_R_32 (by decide) rfl (by decide) rfl ?_
            refine V2_iload_n (i := 3) d_R_worked_151 rfl rfl ?_
            refine V2_ialoadJ (v := (runT nm (whS 0 (F 66)) (vlS 0 (F 66)) (F 72) k) ((depT (whS 0 (F 66)) k - 1))) (depT (whS 0 (F 66)) k - 1) d_R_worked_152 (by decide) rfl (xixA (n := depT (whS 0 (F 66)) k - 1) (by subst ev21 ev20 ev19 ev18 ev11 ev10 ev9 ev8 ev7 ev6 ev5 ev4 ev1; exact nI_add_m1 (by omega)) (by omega) (by decide)) (xixB (n := depT (whS 0 (F 66)) k - 1) (by subst ev21 ev20 ev19 ev18 ev11 ev10 ev9 ev8 ev7 ev6 ev5 ev4 ev1; exact nI_add_m1 (by omega)) (by omega)) rfl ?_
            refine V2_topi (fun v22 ev22 => ?_)
            refine V2_callS [.int v11, .int v21, .int v22] d_R_worked_153 rfl rfl lk_R_110 mo_R_joined (Nat.le_of_ble_eq_true rfl) (Nat.le_of_ble_eq_true rfl) ?_
            refine c_R_joined ?_
            refine V2_topi (fun v23 ev23 => ?_)
            refine V2_iastore (j := (depT (whS 0 (F 66)) k - 2)) d_R_worked_156 (by decide) rfl (xixA (n := depT (whS 0 (F 66)) k - 2) (by subst ev23 ev22 ev21 ev20 ev19 ev18 ev11 ev10 ev9 ev8 ev7 ev6 ev5 ev4 ev1; rw [nI_add_m1 (by omega), nI_sub1 (by omega)]; rfl) (by omega) (by decide)) (xixB (n := depT (whS 0 (F 66)) k - 2) (by subst ev23 ev22 ev21 ev20 ev19 ev18 ev11 ev10 ev9 ev8 ev7 ev6 ev5 ev4 ev1; rw [nI_add_m1 (by omega), nI_sub1 (by omega)]; rfl) (by omega)) ?_
            obtain ⟨v24, ev24⟩ : ∃ y : Int32, y = nI k + 1 := ⟨_, rfl⟩
            refine V2_iinc (i := 4) (v := v24) (l' := [some (.ref 65), some (.int (0 : Int32)), some (.int (24 : Int32)), some (.int v18), some (.int v24), some (.int v7), some (.int v11)]) d_R_worked_157 rfl (by rw [ev24]; rfl) (xst_i (Nat.le_of_ble_eq_true rfl) rfl rfl) ?_
            refine V2_goto (tgt := 13) d_R_worked_160 rfl ?_
            have hn' : v18 = nI (depT (whS 0 (F 66)) (k + 1)) := by rw [depT_3 hwk]; subst ev24 ev23 ev22 ev21 ev20 ev19 ev18 ev11 ev10 ev9 ev8 ev7 ev6 ev5 ev4 ev1; exact nI_add_m1 (by omega)
            have hk' : v24 = nI (k + 1) := by subst ev24 ev23 ev22 ev21 ev20 ev19 ev18 ev11 ev10 ev9 ev8 ev7 ev6 ev5 ev4 ev1; exact nI_1 _
            rw [hn', hk']
            refine V2.weak (l' := [some (.ref 65), some (.int 0), some (.int 24), some (.int (nI (depT (whS 0 (F 66)) (k + 1)))), some (.int (nI (k + 1))), none, none]) ?_ ⟨rfl, rfl, rfl, rfl, rfl, trivial⟩
            exact V2.to (ih (k + 1) (by omega) (by omega)) rfl rfl rfl (by rw [xp_xrw, runT_s, stepT_3 hwk]; subst ev24 ev23 ev22 ev21 ev20 ev19 ev18 ev11 ev10 ev9 ev8 ev7 ev6 ev5 ev4 ev1; rfl)
          · have hwk : whS 0 (F 66) k = 2 := by subst ev11 ev10 ev9 ev8 ev7 ev6 ev5 ev4 ev1; exact c17
            have hd1 := ok_2 hokk hwk
            refine V2_aload_n (i := 0) d_R_worked_100 rfl rfl ?_
            refine V2_getr (a := 72) d_R_worked_101 fl_R_32 (by decide) rfl (by decide) rfl ?_
            refine V2_iload_n (i := 3) d_R_worked_104 rfl rfl ?_
            refine V2_iconst (v := 1) d_R_worked_105 rfl ?_
            refine V2_isub d_R_worked_106 ?_
            refine V2_topi (fun v25 ev25 => ?_)
            refine V2_aload_n (i := 0) d_R_worked_107 rfl rfl ?_
            refine V2_getr (a := 72) d_R_worked_108 fl_R_32 (by decide) rfl (by decide) rfl ?_
            refine V2_iload_n (i := 3) d_R_worked_111 rfl rfl ?_
            refine V2_iconst (v := 1) d_R_worked_112 rfl ?_
            refine V2_isub d_R_worked_113 ?_
            refine V2_topi (fun v26 ev26 => ?_)
            refine V2_ialoadJ (v := (runT nm (whS 0 (F 66)) (vlS 0 (F 66)) (F 72) k) ((depT (whS 0 (F 66)) k - 1))) (depT (whS 0 (F 66)) k - 1) d_R_worked_114 (by decide) rfl (xixA (n := depT (whS 0 (F 66)) k - 1) (by subst ev26 ev25 ev11 ev10 ev9 ev8 ev7 ev6 ev5 ev4 ev1; exact nI_sub1 (by omega)) (by omega) (by decide)) (xixB (n := depT (whS 0 (F 66)) k - 1) (by subst ev26 ev25 ev11 ev10 ev9 ev8 ev7 ev6 ev5 ev4 ev1; exact nI_sub1 (by omega)) (by omega)) rfl ?_
            refine V2_topi (fun v27 ev27 => ?_)
            refine V2_if_ne (tgt := 122) d_R_worked_115 rfl (fun c28 => ?_) (fun c28 => ?_)
            · refine V2_iconst (v := 0) d_R_worked_122 rfl ?_
              refine V2_iastore (j := (depT (whS 0 (F 66)) k - 1)) d_R_worked_123 (by decide) rfl (xixA (n := depT (whS 0 (F 66)) k - 1) (by subst ev27 ev26 ev25 ev11 ev10 ev9 ev8 ev7 ev6 ev5 ev4 ev1; exact nI_sub1 (by omega)) (by omega) (by decide)) (xixB (n := depT (whS 0 (F 66)) k - 1) (by subst ev27 ev26 ev25 ev11 ev10 ev9 ev8 ev7 ev6 ev5 ev4 ev1; exact nI_sub1 (by omega)) (by omega)) ?_
              refine V2_goto (tgt := 157) d_R_worked_124 rfl ?_
              obtain ⟨v29, ev29⟩ : ∃ y : Int32, y = nI k + 1 := ⟨_, rfl⟩
              refine V2_iinc (i := 4) (v := v29) (l' := [some (.ref 65), some (.int (0 : Int32)), some (.int (24 : Int32)), some (.int (nI (depT (whS 0 (F 66)) k))), some (.int v29), some (.int v7), some (.int v11)]) d_R_worked_157 rfl (by rw [ev29]; rfl) (xst_i (Nat.le_of_ble_eq_true rfl) rfl rfl) ?_
              refine V2_goto (tgt := 13) d_R_worked_160 rfl ?_
              have hn' : nI (depT (whS 0 (F 66)) k) = nI (depT (whS 0 (F 66)) (k + 1)) := by rw [depT_2 hwk]
              have hk' : v29 = nI (k + 1) := by subst ev29 ev27 ev26 ev25 ev11 ev10 ev9 ev8 ev7 ev6 ev5 ev4 ev1; exact nI_1 _
              rw [hn', hk']
              refine V2.weak (l' := [some (.ref 65), some (.int 0), some (.int 24), some (.int (nI (depT (whS 0 (F 66)) (k + 1)))), some (.int (nI (k + 1))), none, none]) ?_ ⟨rfl, rfl, rfl, rfl, rfl, trivial⟩
              exact V2.to (ih (k + 1) (by omega) (by omega)) rfl rfl rfl (by rw [xp_xrw, runT_s, stepT_2 hwk]; subst ev29 ev27 ev26 ev25 ev11 ev10 ev9 ev8 ev7 ev6 ev5 ev4 ev1; simp_all)
            · refine V2_iconst (v := 1) d_R_worked_118 rfl ?_
              refine V2_goto (tgt := 123) d_R_worked_119 rfl ?_
              refine V2_iastore (j := (depT (whS 0 (F 66)) k - 1)) d_R_worked_123 (by decide) rfl (xixA (n := depT (whS 0 (F 66)) k - 1) (by subst ev27 ev26 ev25 ev11 ev10 ev9 ev8 ev7 ev6 ev5 ev4 ev1; exact nI_sub1 (by omega)) (by omega) (by decide)) (xixB (n := depT (whS 0 (F 66)) k - 1) (by subst ev27 ev26 ev25 ev11 ev10 ev9 ev8 ev7 ev6 ev5 ev4 ev1; exact nI_sub1 (by omega)) (by omega)) ?_
              refine V2_goto (tgt := 157) d_R_worked_124 rfl ?_
              obtain ⟨v30, ev30⟩ : ∃ y : Int32, y = nI k + 1 := ⟨_, rfl⟩
              refine V2_iinc (i := 4) (v := v30) (l' := [some (.ref 65), some (.int (0 : Int32)), some (.int (24 : Int32)), some (.int (nI (depT (whS 0 (F 66)) k))), some (.int v30), some (.int v7), some (.int v11)]) d_R_worked_157 rfl (by rw [ev30]; rfl) (xst_i (Nat.le_of_ble_eq_true rfl) rfl rfl) ?_
              refine V2_goto (tgt := 13) d_R_worked_160 rfl ?_
              have hn' : nI (depT (whS 0 (F 66)) k) = nI (depT (whS 0 (F 66)) (k + 1)) := by rw [depT_2 hwk]
              have hk' : v30 = nI (k + 1) := by subst ev30 ev27 ev26 ev25 ev11 ev10 ev9 ev8 ev7 ev6 ev5 ev4 ev1; exact nI_1 _
              rw [hn', hk']
              refine V2.weak (l' := [some (.ref 65), some (.int 0), some (.int 24), some (.int (nI (depT (whS 0 (F 66)) (k + 1)))), some (.int (nI (k + 1))), none, none]) ?_ ⟨rfl, rfl, rfl, rfl, rfl, trivial⟩
              exact V2.to (ih (k + 1) (by omega) (by omega)) rfl rfl rfl (by rw [xp_xrw, runT_s, stepT_2 hwk]; subst ev30 ev27 ev26 ev25 ev11 ev10 ev9 ev8 ev7 ev6 ev5 ev4 ev1; simp_all)
        · have hwk : whS 0 (F 66) k = 1 := by subst ev11 ev10 ev9 ev8 ev7 ev6 ev5 ev4 ev1; exact c16
          have hnmk := ok_1 hokk hwk
          have hnmv := hnm _ hnmk
          refine V2_aload_n (i := 0) d_R_worked_65 rfl rfl ?_
          refine V2_getr (a := 72) d_R_worked_66 fl_R_32 (by decide) rfl (by decide) rfl ?_
          refine V2_iload_n (i := 3) d_R_worked_69 rfl rfl ?_
          refine V2_iload (i := 5) d_R_worked_70 rfl ?_
          refine V2_if_ne (tgt := 80) d_R_worked_72 rfl (fun c31 => ?_) (fun c31 => (by first | exact absurd c12 c31 | exact absurd c31 c12))
          refine V2_aload_n (i := 0) d_R_worked_80 rfl rfl ?_
          refine V2_getr (a := 71) d_R_worked_81 fl_R_29 (by decide) rfl (by decide) rfl ?_
          refine V2_iload (i := 6) d_R_worked_84 rfl ?_
          refine V2_ialoadJ (v := F 71 (v11.toNatClampNeg)) v11.toNatClampNeg d_R_worked_86 (by decide) rfl (by subst ev11 ev10 ev9 ev8 ev7 ev6 ev5 ev4 ev1; exact isName_lt hnmk) rfl rfl ?_
          refine V2_topi (fun v32 ev32 => ?_)
          refine V2_iastore (j := (depT (whS 0 (F 66)) k)) d_R_worked_87 (by decide) rfl (xixA (n := depT (whS 0 (F 66)) k) (by subst ev32 ev11 ev10 ev9 ev8 ev7 ev6 ev5 ev4 ev1; rfl) (by omega) (by decide)) (xixB (n := depT (whS 0 (F 66)) k) (by subst ev32 ev11 ev10 ev9 ev8 ev7 ev6 ev5 ev4 ev1; rfl) (by omega)) ?_
          obtain ⟨v33, ev33⟩ : ∃ y : Int32, y = nI (depT (whS 0 (F 66)) k) + 1 := ⟨_, rfl⟩
          refine V2_iinc (i := 3) (v := v33) (l' := [some (.ref 65), some (.int (0 : Int32)), some (.int (24 : Int32)), some (.int v33), some (.int (nI k)), some (.int v7), some (.int v11)]) d_R_worked_88 rfl (by rw [ev33]; rfl) (xst_i (Nat.le_of_ble_eq_true rfl) rfl rfl) ?_
          refine V2_goto (tgt := 157) d_R_worked_91 rfl ?_
          obtain ⟨v34, ev34⟩ : ∃ y : Int32, y = nI k + 1 := ⟨_, rfl⟩
          refine V2_iinc (i := 4) (v := v34) (l' := [some (.ref 65), some (.int (0 : Int32)), some (.int (24 : Int32)), some (.int v33), some (.int v34), some (.int v7), some (.int v11)]) d_R_worked_157 rfl (by rw [ev34]; rfl) (xst_i (Nat.le_of_ble_eq_true rfl) rfl rfl) ?_
          refine V2_goto (tgt := 13) d_R_worked_160 rfl ?_
          have hn' : v33 = nI (depT (whS 0 (F 66)) (k + 1)) := by rw [depT_1 hwk]; subst ev34 ev33 ev32 ev11 ev10 ev9 ev8 ev7 ev6 ev5 ev4 ev1; exact nI_1 _
          have hk' : v34 = nI (k + 1) := by subst ev34 ev33 ev32 ev11 ev10 ev9 ev8 ev7 ev6 ev5 ev4 ev1; exact nI_1 _
          rw [hn', hk']
          refine V2.weak (l' := [some (.ref 65), some (.int 0), some (.int 24), some (.int (nI (depT (whS 0 (F 66)) (k + 1)))), some (.int (nI (k + 1))), none, none]) ?_ ⟨rfl, rfl, rfl, rfl, rfl, trivial⟩
          exact V2.to (ih (k + 1) (by omega) (by omega)) rfl rfl rfl (by rw [xp_xrw, runT_s, stepT_1 hwk]; rw [show v32 = nm (vlS 0 (F 66) k) from by subst ev34 ev33 ev32 ev11 ev10 ev9 ev8 ev7 ev6 ev5 ev4 ev1; exact hnmv])
theorem c_R_worked1_loop {L : Nat} {xs : Nat → Int32} {d : Nat} {Q : Option Value → xF → Prop} {F : xF} {n : Nat} {nm : Int32 → Int32} (hT : F 66 149 = nI n) (hok : okText 1 n (whS 1 (F 66)) (vlS 1 (F 66))) (hnm : ∀ v, isName 1 v → F 71 v.toNatClampNeg = nm v) (hQ : Q (some (.int (runT nm (whS 1 (F 66)) (vlS 1 (F 66)) (F 72) n 0))) (xrw F 72 (runT nm (whS 1 (F 66)) (vlS 1 (F 66)) (F 72) n))) : ∀ (n_ : Nat) (k : Nat), k ≤ n → n < n_ + k → V2 L xs (d + 1) m_R_worked 13 [some (.ref 65), some (.int (1 : Int32)), some (.int (149 : Int32)), some (.int (nI (depT (whS 1 (F 66)) k))), some (.int (nI k)), none, none] [] (xrw F 72 (runT nm (whS 1 (F 66)) (vlS 1 (F 66)) (F 72) k)) Q := by
  intro n_
  induction n_ with
  | zero => exact fun k h1 h2 => absurd h2 (by omega)
  | succ n_ ih =>
    intro k h1 h2
    have h60 : n ≤ 60 := hok.1
    refine V2_iload (i := 4) d_R_worked_13 rfl ?_
    refine V2_aload_n (i := 0) d_R_worked_15 rfl rfl ?_
    refine V2_getr (a := 66) d_R_worked_16 fl_R_7 (by decide) rfl (by decide) rfl ?_
    refine V2_iload_n (i := 2) d_R_worked_19 rfl rfl ?_
    refine V2_iaload (v := F 66 (149)) d_R_worked_20 (by decide) rfl (xixA (n := 149) rfl (by decide) (by decide)) rfl ?_
    refine V2_topi (fun v1 ev1 => ?_)
    refine V2_icmp_ge (tgt := 163) d_R_worked_21 rfl (fun c2 => ?_) (fun c2 => ?_)
    · refine V2_aload_n (i := 0) d_R_worked_163 rfl rfl ?_
      refine V2_getr (a := 72) d_R_worked_164 fl_R_32 (by decide) rfl (by decide) rfl ?_
      refine V2_iconst (v := 0) d_R_worked_167 rfl ?_
      refine V2_iaload (v := (runT nm (whS 1 (F 66)) (vlS 1 (F 66)) (F 72) k) (0)) d_R_worked_168 (by decide) rfl (xixA (n := 0) rfl (by decide) (by decide)) rfl ?_
      refine V2_topi (fun v3 ev3 => ?_)
      refine V2_ireturn d_R_worked_169 rfl ?_
      have hkn : k = n := by
        subst ev3 ev1
        rw [hT] at c2
        exact Nat.le_antisymm h1 ((nI_leI (by omega) (by omega)).mp c2)
      subst hkn
      exact xQi hQ (by subst ev3 ev1; rfl) rfl
    · have hlt : k < n := Nat.not_le.mp (fun hh => c2 (by subst ev1; rw [hT]; exact (nI_leI (by omega) (by omega)).mpr hh))
      have hokk := hok.2.1 k hlt
      have hdk := depT_le (whS 1 (F 66)) k
      refine V2_aload_n (i := 0) d_R_worked_24 rfl rfl ?_
      refine V2_getr (a := 66) d_R_worked_25 fl_R_7 (by decide) rfl (by decide) rfl ?_
      refine V2_iload_n (i := 2) d_R_worked_28 rfl rfl ?_
      refine V2_iconst (v := 1) d_R_worked_29 rfl ?_
      refine V2_iadd d_R_worked_30 ?_
      refine V2_topi (fun v4 ev4 => ?_)
      refine V2_iconst (v := 2) d_R_worked_31 rfl ?_
      refine V2_iload (i := 4) d_R_worked_32 rfl ?_
      refine V2_imul d_R_worked_34 ?_
      refine V2_topi (fun v5 ev5 => ?_)
      refine V2_iadd d_R_worked_35 ?_
      refine V2_topi (fun v6 ev6 => ?_)
      refine V2_ialoadJ (v := F 66 ((149 + 1 + 2 * k))) (149 + 1 + 2 * k) d_R_worked_36 (by decide) rfl (xixA (n := 149 + 1 + 2 * k) (by subst ev6 ev5 ev4 ev1; simp only [nI, Int32.ofNat_add, Int32.ofNat_mul]; rfl) (by omega) (by decide)) (xixB (n := 149 + 1 + 2 * k) (by subst ev6 ev5 ev4 ev1; simp only [nI, Int32.ofNat_add, Int32.ofNat_mul]; rfl) (by omega)) rfl ?_
      refine V2_topi (fun v7 ev7 => ?_)
      refine V2_istore (i := 5) (l' := [some (.ref 65), some (.int (1 : Int32)), some (.int (149 : Int32)), some (.int (nI (depT (whS 1 (F 66)) k))), some (.int (nI k)), some (.int v7), none]) d_R_worked_37 (xst_i (Nat.le_of_ble_eq_true rfl) rfl rfl) ?_
      refine V2_aload_n (i := 0) d_R_worked_39 rfl rfl ?_
      refine V2_getr (a := 66) d_R_worked_40 fl_R_7 (by decide) rfl (by decide) rfl ?_
      refine V2_iload_n (i := 2) d_R_worked_43 rfl rfl ?_
      refine V2_iconst (v := 2) d_R_worked_44 rfl ?_
      refine V2_iadd d_R_worked_45 ?_
      refine V2_topi (fun v8 ev8 => ?_)
      refine V2_iconst (v := 2) d_R_worked_46 rfl ?_
      refine V2_iload (i := 4) d_R_worked_47 rfl ?_
      refine V2_imul d_R_worked_49 ?_
      refine V2_topi (fun v9 ev9 => ?_)
      refine V2_iadd d_R_worked_50 ?_
      refine V2_topi (fun v10 ev10 => ?_)
      refine V2_ialoadJ (v := F 66 ((149 + 2 + 2 * k))) (149 + 2 + 2 * k) d_R_worked_51 (by decide) rfl (xixA (n := 149 + 2 + 2 * k) (by subst ev10 ev9 ev8 ev7 ev6 ev5 ev4 ev1; simp only [nI, Int32.ofNat_add, Int32.ofNat_mul]; rfl) (by omega) (by decide)) (xixB (n := 149 + 2 + 2 * k) (by subst ev10 ev9 ev8 ev7 ev6 ev5 ev4 ev1; simp only [nI, Int32.ofNat_add, Int32.ofNat_mul]; rfl) (by omega)) rfl ?_
      refine V2_topi (fun v11 ev11 => ?_)
      refine V2_istore (i := 6) (l' := [some (.ref 65), some (.int (1 : Int32)), some (.int (149 : Int32)), some (.int (nI (depT (whS 1 (F 66)) k))), some (.int (nI k)), some (.int v7), some (.int v11)]) d_R_worked_52 (xst_i (Nat.le_of_ble_eq_true rfl) rfl rfl) ?_
      refine V2_iload (i := 5) d_R_worked_54 rfl ?_
      refine V2_if_eq (tgt := 65) d_R_worked_56 rfl (fun c12 => ?_) (fun c12 => ?_)
      · have hwk : whS 1 (F 66) k = 0 := by subst ev11 ev10 ev9 ev8 ev7 ev6 ev5 ev4 ev1; exact c12
        refine V2_aload_n (i := 0) d_R_worked_65 rfl rfl ?_
        refine V2_getr (a := 72) d_R_worked_66 fl_R_32 (by decide) rfl (by decide) rfl ?_
        refine V2_iload_n (i := 3) d_R_worked_69 rfl rfl ?_
        refine V2_iload (i := 5) d_R_worked_70 rfl ?_
        refine V2_if_ne (tgt := 80) d_R_worked_72 rfl (fun c13 => (by first | exact absurd c13 (fun hh => hh c12) | exact absurd (fun hh => hh c12) c13)) (fun c13 => ?_)
        refine V2_iload (i := 6) d_R_worked_75 rfl ?_
        refine V2_goto (tgt := 87) d_R_worked_77 rfl ?_
        refine V2_iastore (j := (depT (whS 1 (F 66)) k)) d_R_worked_87 (by decide) rfl (xixA (n := depT (whS 1 (F 66)) k) (by subst ev11 ev10 ev9 ev8 ev7 ev6 ev5 ev4 ev1; rfl) (by omega) (by decide)) (xixB (n := depT (whS 1 (F 66)) k) (by subst ev11 ev10 ev9 ev8 ev7 ev6 ev5 ev4 ev1; rfl) (by omega)) ?_
        obtain ⟨v14, ev14⟩ : ∃ y : Int32, y = nI (depT (whS 1 (F 66)) k) + 1 := ⟨_, rfl⟩
        refine V2_iinc (i := 3) (v := v14) (l' := [some (.ref 65), some (.int (1 : Int32)), some (.int (149 : Int32)), some (.int v14), some (.int (nI k)), some (.int v7), some (.int v11)]) d_R_worked_88 rfl (by rw [ev14]; rfl) (xst_i (Nat.le_of_ble_eq_true rfl) rfl rfl) ?_
        refine V2_goto (tgt := 157) d_R_worked_91 rfl ?_
        obtain ⟨v15, ev15⟩ : ∃ y : Int32, y = nI k + 1 := ⟨_, rfl⟩
        refine V2_iinc (i := 4) (v := v15) (l' := [some (.ref 65), some (.int (1 : Int32)), some (.int (149 : Int32)), some (.int v14), some (.int v15), some (.int v7), some (.int v11)]) d_R_worked_157 rfl (by rw [ev15]; rfl) (xst_i (Nat.le_of_ble_eq_true rfl) rfl rfl) ?_
        refine V2_goto (tgt := 13) d_R_worked_160 rfl ?_
        have hn' : v14 = nI (depT (whS 1 (F 66)) (k + 1)) := by rw [depT_0 hwk]; subst ev15 ev14 ev11 ev10 ev9 ev8 ev7 ev6 ev5 ev4 ev1; exact nI_1 _
        have hk' : v15 = nI (k + 1) := by subst ev15 ev14 ev11 ev10 ev9 ev8 ev7 ev6 ev5 ev4 ev1; exact nI_1 _
        rw [hn', hk']
        refine V2.weak (l' := [some (.ref 65), some (.int 1), some (.int 149), some (.int (nI (depT (whS 1 (F 66)) (k + 1)))), some (.int (nI (k + 1))), none, none]) ?_ ⟨rfl, rfl, rfl, rfl, rfl, trivial⟩
        exact V2.to (ih (k + 1) (by omega) (by omega)) rfl rfl rfl (by rw [xp_xrw, runT_s, stepT_0 hwk]; subst ev15 ev14 ev11 ev10 ev9 ev8 ev7 ev6 ev5 ev4 ev1; rfl)
      · refine V2_iload (i := 5) d_R_worked_59 rfl ?_
        refine V2_iconst (v := 1) d_R_worked_61 rfl ?_
        refine V2_icmp_ne (tgt := 94) d_R_worked_62 rfl (fun c16 => ?_) (fun c16 => ?_)
        · refine V2_iload (i := 5) d_R_worked_94 rfl ?_
          refine V2_iconst (v := 2) d_R_worked_96 rfl ?_
          refine V2_icmp_ne (tgt := 127) d_R_worked_97 rfl (fun c17 => ?_) (fun c17 => ?_)
          · have hw3 := ok_3 hokk (by intro hh; subst ev11 ev10 ev9 ev8 ev7 ev6 ev5 ev4 ev1; exact c12 hh) (by intro hh; subst ev11 ev10 ev9 ev8 ev7 ev6 ev5 ev4 ev1; exact c16 hh) (by intro hh; subst ev11 ev10 ev9 ev8 ev7 ev6 ev5 ev4 ev1; exact c17 hh)
            have hwk := hw3.1
            have hd2 := hw3.2.1
            obtain ⟨v18, ev18⟩ : ∃ y : Int32, y = nI (depT (whS 1 (F 66)) k) + -1 := ⟨_, rfl⟩
            refine V2_iinc (i := 3) (v := v18) (l' := [some (.ref 65), some (.int (1 : Int32)), some (.int (149 : Int32)), some (.int v18), some (.int (nI k)), some (.int v7), some (.int v11)]) d_R_worked_127 rfl (by rw [ev18]; rfl) (xst_i (Nat.le_of_ble_eq_true rfl) rfl rfl) ?_
            refine V2_aload_n (i := 0) d_R_worked_130 rfl rfl ?_
            refine V2_getr (a := 72) d_R_worked_131 fl_R_32 (by decide) rfl (by decide) rfl ?_
            refine V2_iload_n (i := 3) d_R_worked_134 rfl rfl ?_
            refine V2_iconst (v := 1) d_R_worked_135 rfl ?_
            refine V2_isub d_R_worked_136 ?_
            refine V2_topi (fun v19 ev19 => ?_)
            refine V2_iload (i := 6) d_R_worked_137 rfl ?_
            refine V2_aload_n (i := 0) d_R_worked_139 rfl rfl ?_
            refine V2_getr (a := 72) d_R_worked_140 fl_R_32 (by decide) rfl (by decide) rfl ?_
            refine V2_iload_n (i := 3) d_R_worked_143 rfl rfl ?_
            refine V2_iconst (v := 1) d_R_worked_144 rfl ?_
            refine V2_isub d_R_worked_145 ?_
            refine V2_topi (fun v20 ev20 => ?_)
            refine V2_ialoadJ (v := (runT nm (whS 1 (F 66)) (vlS 1 (F 66)) (F 72) k) ((depT (whS 1 (F 66)) k - 2))) (depT (whS 1 (F 66)) k - 2) d_R_worked_146 (by decide) rfl (xixA (n := depT (whS 1 (F 66)) k - 2) (by subst ev20 ev19 ev18 ev11 ev10 ev9 ev8 ev7 ev6 ev5 ev4 ev1; rw [nI_add_m1 (by omega), nI_sub1 (by omega)]; rfl) (by omega) (by decide)) (xixB (n := depT (whS 1 (F 66)) k - 2) (by subst ev20 ev19 ev18 ev11 ev10 ev9 ev8 ev7 ev6 ev5 ev4 ev1; rw [nI_add_m1 (by omega), nI_sub1 (by omega)]; rfl) (by omega)) rfl ?_
            refine V2_topi (fun v21 ev21 => ?_)
            refine V2_aload_n (i := 0) d_R_worked_147 rfl rfl ?_
            refine V2_getr (a := 72) d_R_worked_148 fl_R_32 (by decide) rfl (by decide) rfl ?_
            refine V2_iload_n (i := 3) d_R_worked_151 rfl rfl ?_
            refine V2_ialoadJ (v := (runT nm (whS 1 (F 66)) (vlS 1 (F 66)) (F 72) k) ((depT (whS 1 (F 66)) k - 1))) (depT (whS 1 (F 66)) k - 1) d_R_worked_152 (by decide) rfl (xixA (n := depT (whS 1 (F 66)) k - 1) (by subst ev21 ev20 ev19 ev18 ev11 ev10 ev9 ev8 ev7 ev6 ev5 ev4 ev1; exact nI_add_m1 (by omega)) (by omega) (by decide)) (xixB (n := depT (whS 1 (F 66)) k - 1) (by subst ev21 ev20 ev19 ev18 ev11 ev10 ev9 ev8 ev7 ev6 ev5 ev4 ev1; exact nI_add_m1 (by omega)) (by omega)) rfl ?_
            refine V2_topi (fun v22 ev22 => ?_)
            refine V2_callS [.int v11, .int v21, .int v22] d_R_worked_153 rfl rfl lk_R_110 mo_R_joined (Nat.le_of_ble_eq_true rfl) (Nat.le_of_ble_eq_true rfl) ?_
            refine c_R_joined ?_
            refine V2_topi (fun v23 ev23 => ?_)
            refine V2_iastore (j := (depT (whS 1 (F 66)) k - 2)) d_R_worked_156 (by decide) rfl (xixA (n := depT (whS 1 (F 66)) k - 2) (by subst ev23 ev22 ev21 ev20 ev19 ev18 ev11 ev10 ev9 ev8 ev7 ev6 ev5 ev4 ev1; rw [nI_add_m1 (by omega), nI_sub1 (by omega)]; rfl) (by omega) (by decide)) (xixB (n := depT (whS 1 (F 66)) k - 2) (by subst ev23 ev22 ev21 ev20 ev19 ev18 ev11 ev10 ev9 ev8 ev7 ev6 ev5 ev4 ev1; rw [nI_add_m1 (by omega), nI_sub1 (by omega)]; rfl) (by omega)) ?_
            obtain ⟨v24, ev24⟩ : ∃ y : Int32, y = nI k + 1 := ⟨_, rfl⟩
            refine V2_iinc (i := 4) (v := v24) (l' := [some (.ref 65), some (.int (1 : Int32)), some (.int (149 : Int32)), some (.int v18), some (.int v24), some (.int v7), some (.int v11)]) d_R_worked_157 rfl (by rw [ev24]; rfl) (xst_i (Nat.le_of_ble_eq_true rfl) rfl rfl) ?_
            refine V2_goto (tgt := 13) d_R_worked_160 rfl ?_
            have hn' : v18 = nI (depT (whS 1 (F 66)) (k + 1)) := by rw [depT_3 hwk]; subst ev24 ev23 ev22 ev21 ev20 ev19 ev18 ev11 ev10 ev9 ev8 ev7 ev6 ev5 ev4 ev1; exact nI_add_m1 (by omega)
            have hk' : v24 = nI (k + 1) := by subst ev24 ev23 ev22 ev21 ev20 ev19 ev18 ev11 ev10 ev9 ev8 ev7 ev6 ev5 ev4 ev1; exact nI_1 _
            rw [hn', hk']
            refine V2.weak (l' := [some (.ref 65), some (.int 1), some (.int 149), some (.int (nI (depT (whS 1 (F 66)) (k + 1)))), some (.int (nI (k + 1))), none, none]) ?_ ⟨rfl, rfl, rfl, rfl, rfl, trivial⟩
            exact V2.to (ih (k + 1) (by omega) (by omega)) rfl rfl rfl (by rw [xp_xrw, runT_s, stepT_3 hwk]; subst ev24 ev23 ev22 ev21 ev20 ev19 ev18 ev11 ev10 ev9 ev8 ev7 ev6 ev5 ev4 ev1; rfl)
          · have hwk : whS 1 (F 66) k = 2 := by subst ev11 ev10 ev9 ev8 ev7 ev6 ev5 ev4 ev1; exact c17
            have hd1 := ok_2 hokk hwk
            refine V2_aload_n (i := 0) d_R_worked_100 rfl rfl ?_
            refine V2_getr (a := 72) d_R_worked_101 fl_R_32 (by decide) rfl (by decide) rfl ?_
            refine V2_iload_n (i := 3) d_R_worked_104 rfl rfl ?_
            refine V2_iconst (v := 1) d_R_worked_105 rfl ?_
            refine V2_isub d_R_worked_106 ?_
            refine V2_topi (fun v25 ev25 => ?_)
            refine V2_aload_n (i := 0) d_R_worked_107 rfl rfl ?_
            refine V2_getr (a := 72) d_R_worked_108 fl_R_32 (by decide) rfl (by decide) rfl ?_
            refine V2_iload_n (i := 3) d_R_worked_111 rfl rfl ?_
            refine V2_iconst (v := 1) d_R_worked_112 rfl ?_
            refine V2_isub d_R_worked_113 ?_
            refine V2_topi (fun v26 ev26 => ?_)
            refine V2_ialoadJ (v := (runT nm (whS 1 (F 66)) (vlS 1 (F 66)) (F 72) k) ((depT (whS 1 (F 66)) k - 1))) (depT (whS 1 (F 66)) k - 1) d_R_worked_114 (by decide) rfl (xixA (n := depT (whS 1 (F 66)) k - 1) (by subst ev26 ev25 ev11 ev10 ev9 ev8 ev7 ev6 ev5 ev4 ev1; exact nI_sub1 (by omega)) (by omega) (by decide)) (xixB (n := depT (whS 1 (F 66)) k - 1) (by subst ev26 ev25 ev11 ev10 ev9 ev8 ev7 ev6 ev5 ev4 ev1; exact nI_sub1 (by omega)) (by omega)) rfl ?_
            refine V2_topi (fun v27 ev27 => ?_)
            refine V2_if_ne (tgt := 122) d_R_worked_115 rfl (fun c28 => ?_) (fun c28 => ?_)
            · refine V2_iconst (v := 0) d_R_worked_122 rfl ?_
              refine V2_iastore (j := (depT (whS 1 (F 66)) k - 1)) d_R_worked_123 (by decide) rfl (xixA (n := depT (whS 1 (F 66)) k - 1) (by subst ev27 ev26 ev25 ev11 ev10 ev9 ev8 ev7 ev6 ev5 ev4 ev1; exact nI_sub1 (by omega)) (by omega) (by decide)) (xixB (n := depT (whS 1 (F 66)) k - 1) (by subst ev27 ev26 ev25 ev11 ev10 ev9 ev8 ev7 ev6 ev5 ev4 ev1; exact nI_sub1 (by omega)) (by omega)) ?_
              refine V2_goto (tgt := 157) d_R_worked_124 rfl ?_
              obtain ⟨v29, ev29⟩ : ∃ y : Int32, y = nI k + 1 := ⟨_, rfl⟩
              refine V2_iinc (i := 4) (v := v29) (l' := [some (.ref 65), some (.int (1 : Int32)), some (.int (149 : Int32)), some (.int (nI (depT (whS 1 (F 66)) k))), some (.int v29), some (.int v7), some (.int v11)]) d_R_worked_157 rfl (by rw [ev29]; rfl) (xst_i (Nat.le_of_ble_eq_true rfl) rfl rfl) ?_
              refine V2_goto (tgt := 13) d_R_worked_160 rfl ?_
              have hn' : nI (depT (whS 1 (F 66)) k) = nI (depT (whS 1 (F 66)) (k + 1)) := by rw [depT_2 hwk]
              have hk' : v29 = nI (k + 1) := by subst ev29 ev27 ev26 ev25 ev11 ev10 ev9 ev8 ev7 ev6 ev5 ev4 ev1; exact nI_1 _
              rw [hn', hk']
              refine V2.weak (l' := [some (.ref 65), some (.int 1), some (.int 149), some (.int (nI (depT (whS 1 (F 66)) (k + 1)))), some (.int (nI (k + 1))), none, none]) ?_ ⟨rfl, rfl, rfl, rfl, rfl, trivial⟩
              exact V2.to (ih (k + 1) (by omega) (by omega)) rfl rfl rfl (by rw [xp_xrw, runT_s, stepT_2 hwk]; subst ev29 ev27 ev26 ev25 ev11 ev10 ev9 ev8 ev7 ev6 ev5 ev4 ev1; simp_all)
            · refine V2_iconst (v := 1) d_R_worked_118 rfl ?_
              refine V2_goto (tgt := 123) d_R_worked_119 rfl ?_
              refine V2_iastore (j := (depT (whS 1 (F 66)) k - 1)) d_R_worked_123 (by decide) rfl (xixA (n := depT (whS 1 (F 66)) k - 1) (by subst ev27 ev26 ev25 ev11 ev10 ev9 ev8 ev7 ev6 ev5 ev4 ev1; exact nI_sub1 (by omega)) (by omega) (by decide)) (xixB (n := depT (whS 1 (F 66)) k - 1) (by subst ev27 ev26 ev25 ev11 ev10 ev9 ev8 ev7 ev6 ev5 ev4 ev1; exact nI_sub1 (by omega)) (by omega)) ?_
              refine V2_goto (tgt := 157) d_R_worked_124 rfl ?_
              obtain ⟨v30, ev30⟩ : ∃ y : Int32, y = nI k + 1 := ⟨_, rfl⟩
              refine V2_iinc (i := 4) (v := v30) (l' := [some (.ref 65), some (.int (1 : Int32)), some (.int (149 : Int32)), some (.int (nI (depT (whS 1 (F 66)) k))), some (.int v30), some (.int v7), some (.int v11)]) d_R_worked_157 rfl (by rw [ev30]; rfl) (xst_i (Nat.le_of_ble_eq_true rfl) rfl rfl) ?_
              refine V2_goto (tgt := 13) d_R_worked_160 rfl ?_
              have hn' : nI (depT (whS 1 (F 66)) k) = nI (depT (whS 1 (F 66)) (k + 1)) := by rw [depT_2 hwk]
              have hk' : v30 = nI (k + 1) := by subst ev30 ev27 ev26 ev25 ev11 ev10 ev9 ev8 ev7 ev6 ev5 ev4 ev1; exact nI_1 _
              rw [hn', hk']
              refine V2.weak (l' := [some (.ref 65), some (.int 1), some (.int 149), some (.int (nI (depT (whS 1 (F 66)) (k + 1)))), some (.int (nI (k + 1))), none, none]) ?_ ⟨rfl, rfl, rfl, rfl, rfl, trivial⟩
              exact V2.to (ih (k + 1) (by omega) (by omega)) rfl rfl rfl (by rw [xp_xrw, runT_s, stepT_2 hwk]; subst ev30 ev27 ev26 ev25 ev11 ev10 ev9 ev8 ev7 ev6 ev5 ev4 ev1; simp_all)
        · have hwk : whS 1 (F 66) k = 1 := by subst ev11 ev10 ev9 ev8 ev7 ev6 ev5 ev4 ev1; exact c16
          have hnmk := ok_1 hokk hwk
          have hnmv := hnm _ hnmk
          refine V2_aload_n (i := 0) d_R_worked_65 rfl rfl ?_
          refine V2_getr (a := 72) d_R_worked_66 fl_R_32 (by decide) rfl (by decide) rfl ?_
          refine V2_iload_n (i := 3) d_R_worked_69 rfl rfl ?_
          refine V2_iload (i := 5) d_R_worked_70 rfl ?_
          refine V2_if_ne (tgt := 80) d_R_worked_72 rfl (fun c31 => ?_) (fun c31 => (by first | exact absurd c12 c31 | exact absurd c31 c12))
          refine V2_aload_n (i := 0) d_R_worked_80 rfl rfl ?_
          refine V2_getr (a := 71) d_R_worked_81 fl_R_29 (by decide) rfl (by decide) rfl ?_
          refine V2_iload (i := 6) d_R_worked_84 rfl ?_
          refine V2_ialoadJ (v := F 71 (v11.toNatClampNeg)) v11.toNatClampNeg d_R_worked_86 (by decide) rfl (by subst ev11 ev10 ev9 ev8 ev7 ev6 ev5 ev4 ev1; exact isName_lt hnmk) rfl rfl ?_
          refine V2_topi (fun v32 ev32 => ?_)
          refine V2_iastore (j := (depT (whS 1 (F 66)) k)) d_R_worked_87 (by decide) rfl (xixA (n := depT (whS 1 (F 66)) k) (by subst ev32 ev11 ev10 ev9 ev8 ev7 ev6 ev5 ev4 ev1; rfl) (by omega) (by decide)) (xixB (n := depT (whS 1 (F 66)) k) (by subst ev32 ev11 ev10 ev9 ev8 ev7 ev6 ev5 ev4 ev1; rfl) (by omega)) ?_
          obtain ⟨v33, ev33⟩ : ∃ y : Int32, y = nI (depT (whS 1 (F 66)) k) + 1 := ⟨_, rfl⟩
          refine V2_iinc (i := 3) (v := v33) (l' := [some (.ref 65), some (.int (1 : Int32)), some (.int (149 : Int32)), some (.int v33), some (.int (nI k)), some (.int v7), some (.int v11)]) d_R_worked_88 rfl (by rw [ev33]; rfl) (xst_i (Nat.le_of_ble_eq_true rfl) rfl rfl) ?_
          refine V2_goto (tgt := 157) d_R_worked_91 rfl ?_
          obtain ⟨v34, ev34⟩ : ∃ y : Int32, y = nI k + 1 := ⟨_, rfl⟩
          refine V2_iinc (i := 4) (v := v34) (l' := [some (.ref 65), some (.int (1 : Int32)), some (.int (149 : Int32)), some (.int v33), some (.int v34), some (.int v7), some (.int v11)]) d_R_worked_157 rfl (by rw [ev34]; rfl) (xst_i (Nat.le_of_ble_eq_true rfl) rfl rfl) ?_
          refine V2_goto (tgt := 13) d_R_worked_160 rfl ?_
          have hn' : v33 = nI (depT (whS 1 (F 66)) (k + 1)) := by rw [depT_1 hwk]; subst ev34 ev33 ev32 ev11 ev10 ev9 ev8 ev7 ev6 ev5 ev4 ev1; exact nI_1 _
          have hk' : v34 = nI (k + 1) := by subst ev34 ev33 ev32 ev11 ev10 ev9 ev8 ev7 ev6 ev5 ev4 ev1; exact nI_1 _
          rw [hn', hk']
          refine V2.weak (l' := [some (.ref 65), some (.int 1), some (.int 149), some (.int (nI (depT (whS 1 (F 66)) (k + 1)))), some (.int (nI (k + 1))), none, none]) ?_ ⟨rfl, rfl, rfl, rfl, rfl, trivial⟩
          exact V2.to (ih (k + 1) (by omega) (by omega)) rfl rfl rfl (by rw [xp_xrw, runT_s, stepT_1 hwk]; rw [show v32 = nm (vlS 1 (F 66) k) from by subst ev34 ev33 ev32 ev11 ev10 ev9 ev8 ev7 ev6 ev5 ev4 ev1; exact hnmv])
