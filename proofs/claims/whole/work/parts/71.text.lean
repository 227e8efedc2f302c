/-! the class: reads, takes, text -/
def ps0 : PS := (0, 0, fun _ => 0, fun _ => 0)
/-- a text read: T the bytes, N how many -/
noncomputable def readT (T : Nat → Int32) (N use : Nat) : Bool × PS := wholeT T N (leafT T N use 5) ps0
def fullT (T : Nat → Int32) (N use : Nat) : Prop := (readT T N use).1 = true ∧ (readT T N use).2.at_ = N
theorem ok_ps0 (use : Nat) : okR use ps0 := fun k hk => absurd (show k < 0 from hk) (Nat.not_lt_zero k)
theorem read_in {T : Nat → Int32} {N use : Nat} : (readT T N use).2.at_ ≤ N := (good_whole (good_T (T := T) (N := N) 5) ps0 (ok_ps0 use) (Nat.zero_le N)).2.1
theorem read_ok {T : Nat → Int32} {N use : Nat} (h : fullT T N use) (hN : N ≤ 60) : okText use (readT T N use).2.n (readT T N use).2.wh (readT T N use).2.vl ∧ 1 ≤ (readT T N use).2.n := by
  obtain ⟨g1, g2, g3⟩ := good_whole (good_T (T := T) (N := N) 5) ps0 (ok_ps0 use) (Nat.zero_le N)
  obtain ⟨k1, k2, k3, k4⟩ := g3 h.1
  have e0 : ps0.at_ = 0 := rfl
  have e1 : ps0.n = 0 := rfl
  have e2 : ps0.dep = 0 := rfl
  have hd : 1 ≤ (readT T N use).2.dep := by
    show 1 ≤ (wholeT T N (leafT T N use 5) ps0).2.dep
    omega
  have hn : (readT T N use).2.n ≤ N := by
    show (wholeT T N (leafT T N use 5) ps0).2.n ≤ N
    omega
  have hdn : (readT T N use).2.dep ≤ (readT T N use).2.n := depT_le _ _
  exact ⟨⟨by omega, k3, hd⟩, by omega⟩
theorem c_Read_go {L : Nat} {xs : Nat → Int32} {d : Nat} {Q : Option Value → xF → Prop} {F : xF} {T : Nat → Int32} {N use : Nat} (hN : N ≤ 60) (hu : use ≤ 1) (h48 : F 48 1 = nI N) (h49 : ∀ i, i < N → F 49 i = T i) (h2 : F 47 2 = nI use) (h3 : F 47 3 = nI 0) (h50 : F 50 1 = nI 0) (hQ : ∀ r F1, RESc F use 0 (readT T N use) r F1 → Q (some (.int r)) F1) : V2 L xs (d + 84) m_Read_readsPart 0 (xEntry [.ref 47, .int 0, .int 0] 3) [] F Q := by
  have hp := ck_leaf (L := L) (xs := xs) (B := F) (T := T) (N := N) (use := use) ⟨h48, hN, h49⟩ hu 5 0 d rfl
  rw [show d + 8 + 13 * 5 = (d + 70) + 3 from by omega] at hp
  have hw := ck_part (o := 0) (d := d + 70) (p := leafT T N use 5) ⟨h48, hN, h49⟩ (good_T 5) hp
  exact V2.to (hw Q F ps0 ⟨fun a _ _ _ => rfl, h2, h3, h50, fun i hi => absurd (show i < 0 from hi) (Nat.not_lt_zero i)⟩ (ok_ps0 use) (Nat.zero_le N) (Nat.le_refl 0) hQ) rfl rfl rfl rfl
/-- behind a reading -/
def RDc (B : xF) (T : Nat → Int32) (N use : Nat) (r : Int32) (G : xF) : Prop := (∀ a, (a < 47 ∨ 51 < a) → G a = B a) ∧ ((r = 1 ∧ fullT T N use ∧ G 50 1 = nI (readT T N use).2.n ∧ ∀ i, i < (readT T N use).2.n → G 51 i = encT ((readT T N use).2.wh i) ((readT T N use).2.vl i)) ∨ (r = 0 ∧ ¬ fullT T N use ∧ G 47 3 = nI (readT T N use).2.at_))
theorem c_Read_reads {L : Nat} {xs : Nat → Int32} {d : Nat} {Q : Option Value → xF → Prop} {F : xF} {T : Nat → Int32} {N use : Nat} (hT : F 14 1 = nI N) (hN : N ≤ 60) (hTi : ∀ i, i < N → F 15 i = T i) (hu : use ≤ 1) (hQ : ∀ r G, RDc F T N use r G → Q (some (.int r)) G) : V2 L xs (d + 85) m_Read_reads 0 (xEntry [.ref 47, .ref 14, .int (nI use)] 3) [] F Q := by
  refine V2.to (l' := [some (.ref 47), some (.ref 14), some (.int (nI use))]) ?_ rfl rfl rfl rfl
  refine V2_aload_n (i := 0) d_Read_reads_0 rfl rfl ?_
  refine V2_getr (a := 48) d_Read_reads_1 fl_Read_14 (by decide) rfl (by decide) rfl ?_
  refine V2_aload_n (i := 1) d_Read_reads_4 rfl rfl ?_
  refine V2_callV [.ref 14] d_Read_reads_5 rfl rfl lk_Read_30 mo_Nums_copyFrom (by decide) rfl rfl rfl (Nat.le_of_ble_eq_true rfl) (Nat.le_of_ble_eq_true rfl) ?_
  refine c_Nums_copy_48_14 hT hN ?_
  refine V2_aload_n (i := 0) d_Read_reads_8 rfl rfl ?_
  refine V2_getr (a := 50) d_Read_reads_9 fl_Read_20 (by decide) rfl (by decide) rfl ?_
  refine V2_callV [] d_Read_reads_12 rfl rfl lk_Read_34 mo_Nums_empty (by decide) rfl rfl rfl (Nat.le_of_ble_eq_true rfl) (Nat.le_of_ble_eq_true rfl) ?_
  refine c_Nums_empty_50 ?_
  refine V2_aload_n (i := 0) d_Read_reads_15 rfl rfl ?_
  refine V2_iload_n (i := 2) d_Read_reads_16 rfl rfl ?_
  refine V2_put d_Read_reads_17 fl_Read_23 (by decide) rfl (by decide) rfl ?_
  refine V2_aload_n (i := 0) d_Read_reads_20 rfl rfl ?_
  refine V2_iconst (v := 0) d_Read_reads_21 rfl ?_
  refine V2_put d_Read_reads_22 fl_Read_27 (by decide) rfl (by decide) rfl ?_
  refine V2_aload_n (i := 0) d_Read_reads_25 rfl rfl ?_
  refine V2_iconst (v := 0) d_Read_reads_26 rfl ?_
  refine V2_iconst (v := 0) d_Read_reads_27 rfl ?_
  refine V2_callV [.int (0 : Int32), .int (0 : Int32)] d_Read_reads_28 rfl rfl lk_Read_37 mo_Read_readsPart (by decide) rfl rfl rfl (Nat.le_of_ble_eq_true rfl) (Nat.le_of_ble_eq_true rfl) ?_
  refine c_Read_go (T := T) (N := N) hN hu rfl (fun i hi => (sb_cpy0 hi).trans (hTi i hi)) rfl rfl rfl (fun rA GA hA => ?_)
  rcases hA with ⟨rfl, okA, crA⟩ | ⟨rfl, okA, crA⟩
  · refine V2_if_eq (tgt := 52) d_Read_reads_31 rfl (fun c => (by first | exact absurd c (by decide) | exact absurd (by decide) c)) (fun _ => ?_)
    refine V2_aload_n (i := 0) d_Read_reads_34 rfl rfl ?_
    refine V2_get (v := GA 47 3) d_Read_reads_35 fl_Read_27 (by decide) rfl (by decide) rfl rfl ?_
    refine V2_topi (fun v1 ev1 => ?_)
    refine V2_aload_n (i := 0) d_Read_reads_38 rfl rfl ?_
    refine V2_getr (a := 48) d_Read_reads_39 fl_Read_14 (by decide) rfl (by decide) rfl ?_
    refine V2_callV [] d_Read_reads_42 rfl rfl lk_Read_41 mo_Nums_size (by decide) rfl rfl rfl (Nat.le_of_ble_eq_true rfl) (Nat.le_of_ble_eq_true rfl) ?_
    refine V2.to (l' := [some (.ref 48)]) ?_ rfl rfl rfl rfl
    refine V2_aload_n (i := 0) d_Nums_size_0 rfl rfl ?_
    refine V2_get (v := GA 48 1) d_Nums_size_1 fl_Nums_7 (by decide) rfl (by decide) rfl rfl ?_
    refine V2_topi (fun v2 ev2 => ?_)
    refine V2_ireturn d_Nums_size_4 rfl ?_
    refine V2.to (st' := [.int v2, .int v1]) ?_ rfl rfl rfl rfl
    refine V2_icmp_ne (tgt := 52) d_Read_reads_45 rfl (fun c3 => ?_) (fun c3 => ?_)
    · refine V2_iconst (v := 0) d_Read_reads_52 rfl ?_
      refine V2_zreturn d_Read_reads_53 rfl (by decide) ?_
      have e48 : v2 = nI N := by
        subst ev2 ev1
        exact congrFun (cr_48 crA) 1
      have h9 := c3
      rw [e48, show v1 = nI (readT T N use).2.at_ from (by subst ev2 ev1; exact crA.2.2.1)] at h9
      refine xQi (hQ 0 GA ⟨(fun a ha => (crA.1 a (by omega) (by omega) (by omega)).trans ((xp_row_ne (by omega)).trans ((xp_row_ne (by omega)).trans ((xp_row_ne (by omega)).trans ((xrw_ne (by omega)).trans (xp_row_ne (by omega))))))), Or.inr ⟨rfl, fun h8 => h9 (congrArg nI h8.2), crA.2.2.1⟩⟩) rfl rfl
    · refine V2_iconst (v := 1) d_Read_reads_48 rfl ?_
      refine V2_goto (tgt := 53) d_Read_reads_49 rfl ?_
      refine V2_zreturn d_Read_reads_53 rfl (by decide) ?_
      have e48 : v2 = nI N := by
        subst ev2 ev1
        exact congrFun (cr_48 crA) 1
      have h9 := c3
      rw [e48, show v1 = nI (readT T N use).2.at_ from (by subst ev2 ev1; exact crA.2.2.1)] at h9
      have e8 : (readT T N use).2.at_ = N := by
        have := read_in (T := T) (N := N) (use := use)
        have q1 := nI_toInt (n := (readT T N use).2.at_) (by omega)
        have q2 := nI_toInt (n := N) (by omega)
        rw [h9] at q1
        omega
      refine xQi (hQ 1 GA ⟨(fun a ha => (crA.1 a (by omega) (by omega) (by omega)).trans ((xp_row_ne (by omega)).trans ((xp_row_ne (by omega)).trans ((xp_row_ne (by omega)).trans ((xrw_ne (by omega)).trans (xp_row_ne (by omega))))))), Or.inl ⟨rfl, ⟨okA, e8⟩, crA.2.2.2.1, crA.2.2.2.2⟩⟩) rfl rfl
  · refine V2_if_eq (tgt := 52) d_Read_reads_31 rfl (fun _ => ?_) (fun c => (by first | exact absurd c (by decide) | exact absurd (by decide) c))
    refine V2_iconst (v := 0) d_Read_reads_52 rfl ?_
    refine V2_zreturn d_Read_reads_53 rfl (by decide) ?_
    exact xQi (hQ 0 GA ⟨(fun a ha => (crA.1 a (by omega) (by omega) (by omega)).trans ((xp_row_ne (by omega)).trans ((xp_row_ne (by omega)).trans ((xp_row_ne (by omega)).trans ((xrw_ne (by omega)).trans (xp_row_ne (by omega))))))), Or.inr ⟨rfl, fun h9 => absurd (okA.symm.trans h9.1) (by decide), crA.2.1⟩⟩) rfl rfl
theorem c_Law_takes_8_loop {L : Nat} {xs : Nat → Int32} {d : Nat} {Q : Option Value → xF → Prop} {B : xF} {m : Nat} (h50 : B 50 1 = nI m) (hm : m ≤ 60) (hQ : ∀ G : xF, (∀ a, ¬ a = 8 → ¬ a = 9 → G a = B a) → (∀ j, ¬ j = 3 → ¬ j = 4 → G 8 j = B 8 j) → G 8 3 = nI m → G 8 4 = 1 → (∀ i, i < m → G 9 i = B 51 i) → Q none G) : ∀ (n : Nat) (k : Nat) (G : xF), (∀ a, ¬ a = 8 → ¬ a = 9 → G a = B a) → (∀ j, ¬ j = 3 → ¬ j = 4 → G 8 j = B 8 j) → G 8 3 = nI m → (∀ i, i < k → G 9 i = B 51 i) → k ≤ m → m < n + k → V2 L xs (d + 2) m_Law_takes 18 [some (.ref 8), some (.ref 50), some (.int (nI k))] [] G Q := by
  intro n
  induction n with
  | zero => exact fun k G g1 g2 g3 g4 h1 h2 => absurd h2 (by omega)
  | succ n ih =>
    intro k G g1 g2 g3 g4 h1 h2
    refine V2_iload_n (i := 2) d_Law_takes_18 rfl rfl ?_
    refine V2_aload_n (i := 0) d_Law_takes_19 rfl rfl ?_
    refine V2_get (v := G 8 3) d_Law_takes_20 fl_Law_16 (by decide) rfl (by decide) rfl rfl ?_
    refine V2_topi (fun v1 ev1 => ?_)
    refine V2_icmp_ge (tgt := 43) d_Law_takes_23 rfl (fun c2 => ?_) (fun c2 => ?_)
    · refine V2_aload_n (i := 0) d_Law_takes_43 rfl rfl ?_
      refine V2_iconst (v := 1) d_Law_takes_44 rfl ?_
      refine V2_putz d_Law_takes_45 fl_Law_20 (by decide) rfl (by decide) rfl (by decide) ?_
      refine V2_return d_Law_takes_48 rfl ?_
      have hk : k = m := by
        have h9 := c2
        subst ev1
        rw [g3] at h9
        exact Nat.le_antisymm h1 ((nI_leI (by omega) (by omega)).mp h9)
      subst hk
      exact xQv (hQ (xp G 8 4 1) (fun a x y => (xp_row_ne x).trans (g1 a x y)) (fun j x y => (xp_ne (Or.inr y)).trans (g2 j x y)) ((xp_ne (Or.inr (by decide))).trans g3) (xp_same _ _ _ _) (fun i hi => (congrFun (xp_row_ne (by decide)) i).trans (g4 i hi))) rfl
    · have hk : k < m := by
        have h9 := c2
        subst ev1
        rw [g3] at h9
        exact Nat.not_le.mp (fun hh => h9 ((nI_leI (by omega) (by omega)).mpr hh))
      refine V2_aload_n (i := 0) d_Law_takes_26 rfl rfl ?_
      refine V2_getr (a := 9) d_Law_takes_27 fl_Law_9 (by decide) rfl (by decide) rfl ?_
      refine V2_iload_n (i := 2) d_Law_takes_30 rfl rfl ?_
      refine V2_aload_n (i := 1) d_Law_takes_31 rfl rfl ?_
      refine V2_iload_n (i := 2) d_Law_takes_32 rfl rfl ?_
      refine V2_callV [.int (nI k)] d_Law_takes_33 rfl rfl lk_Law_39 mo_Nums_at (by decide) rfl rfl rfl (Nat.le_of_ble_eq_true rfl) (Nat.le_of_ble_eq_true rfl) ?_
      refine c_Nums_at_50 (p := k) (P := m) ((congrFun (g1 50 (by decide) (by decide)) 1).trans h50) hm hk ?_
      refine V2_topi (fun v3 ev3 => ?_)
      refine V2_iastore (j := (k)) d_Law_takes_36 (by decide) rfl (xixA (n := k) rfl (by omega) (by decide)) (xixB (n := k) rfl (by omega)) ?_
      obtain ⟨v4, ev4⟩ : ∃ y : Int32, y = nI k + 1 := ⟨_, rfl⟩
      refine V2_iinc (i := 2) (v := v4) (l' := [some (.ref 8), some (.ref 50), some (.int v4)]) d_Law_takes_37 rfl (by rw [ev4]; rfl) (xst_r (Nat.le_of_ble_eq_true rfl) rfl rfl) ?_
      refine V2_goto (tgt := 18) d_Law_takes_40 rfl ?_
      refine V2.to (ih (k + 1) _ (fun a x y => (xp_row_ne y).trans (g1 a x y)) (fun j x y => (congrFun (xp_row_ne (by decide)) j).trans (g2 j x y)) ((congrFun (xp_row_ne (by decide)) 3).trans g3) (fun i hi => ?_) (by omega) (by omega)) rfl ?_ rfl rfl
      · by_cases ei : i = k
        · subst ei
          rw [xp_same]
          subst ev4 ev3 ev1
          exact congrFun (g1 51 (by decide) (by decide)) i
        · rw [xp_ne (Or.inr ei)]
          exact g4 i (by omega)
      · rw [ev4, nI_1]
theorem c_Law_takes_8 {L : Nat} {xs : Nat → Int32} {d : Nat} {Q : Option Value → xF → Prop} {F : xF} {m : Nat} (h50 : F 50 1 = nI m) (hm : m ≤ 60) (hQ : ∀ G : xF, (∀ a, ¬ a = 8 → ¬ a = 9 → G a = F a) → (∀ j, ¬ j = 3 → ¬ j = 4 → G 8 j = F 8 j) → G 8 3 = nI m → G 8 4 = 1 → (∀ i, i < m → G 9 i = F 51 i) → Q none G) : V2 L xs (d + 2) m_Law_takes 0 (xEntry [.ref 8, .ref 50] 3) [] F Q := by
  refine V2.to (l' := [some (.ref 8), some (.ref 50), none]) ?_ rfl rfl rfl rfl
  refine V2_aload_n (i := 0) d_Law_takes_0 rfl rfl ?_
  refine V2_aload_n (i := 1) d_Law_takes_1 rfl rfl ?_
  refine V2_callV [] d_Law_takes_2 rfl rfl lk_Law_27 mo_Nums_size (by decide) rfl rfl rfl (Nat.le_of_ble_eq_true rfl) (Nat.le_of_ble_eq_true rfl) ?_
  refine V2.to (l' := [some (.ref 50)]) ?_ rfl rfl rfl rfl
  refine V2_aload_n (i := 0) d_Nums_size_0 rfl rfl ?_
  refine V2_get (v := F 50 1) d_Nums_size_1 fl_Nums_7 (by decide) rfl (by decide) rfl rfl ?_
  refine V2_topi (fun v1 ev1 => ?_)
  refine V2_ireturn d_Nums_size_4 rfl ?_
  refine V2.to (st' := [.int v1, .ref 8]) ?_ rfl rfl rfl rfl
  refine V2_aload_n (i := 0) d_Law_takes_5 rfl rfl ?_
  refine V2_getr (a := 9) d_Law_takes_6 fl_Law_9 (by decide) rfl (by decide) rfl ?_
  refine V2_alen (t := 0) (v := 60) d_Law_takes_9 (by decide) rfl (by decide) rfl ?_
  refine V2_mmin d_Law_takes_10 lz_Law_33 (Nat.le_of_ble_eq_true rfl) ?_
  refine V2_topi (fun v2 ev2 => ?_)
  refine V2_put d_Law_takes_13 fl_Law_16 (by decide) rfl (by decide) rfl ?_
  refine V2_iconst (v := 0) d_Law_takes_16 rfl ?_
  refine V2_istore_n (i := 2) (l' := [some (.ref 8), some (.ref 50), some (.int (0 : Int32))]) d_Law_takes_17 rfl (xst_r (Nat.le_of_ble_eq_true rfl) rfl rfl) ?_
  have em : v2 = nI m := by
    subst ev2 ev1
    rw [h50]
    have q60 : (60 : Int32).toInt = 60 := by decide
    have q1 := nI_toInt (n := m) (by omega)
    exact if_neg (by rw [Int32.lt_iff_toInt_lt, q1, q60]; omega)
  rw [em]
  refine V2.to (c_Law_takes_8_loop (B := xp F 8 3 (nI m)) ((congrFun (xp_row_ne (by decide)) 1).trans h50) hm (fun G g1 g2 g3 g4 g5 => hQ G (fun a x y => (g1 a x y).trans (xp_row_ne x)) (fun j x y => (g2 j x y).trans (xp_ne (Or.inr x))) g3 g4 (fun i hi => (g5 i hi).trans (congrFun (xp_row_ne (by decide)) i))) (m + 1) 0 _ (fun a _ _ => rfl) (fun j _ _ => rfl) (xp_same _ _ _ _) (fun i hi => absurd hi (Nat.not_lt_zero i)) (Nat.zero_le m) (by omega)) rfl rfl rfl rfl
theorem c_Law_takes_11_loop {L : Nat} {xs : Nat → Int32} {d : Nat} {Q : Option Value → xF → Prop} {B : xF} {m : Nat} (h50 : B 50 1 = nI m) (hm : m ≤ 60) (hQ : ∀ G : xF, (∀ a, ¬ a = 11 → ¬ a = 12 → G a = B a) → (∀ j, ¬ j = 3 → ¬ j = 4 → G 11 j = B 11 j) → G 11 3 = nI m → G 11 4 = 1 → (∀ i, i < m → G 12 i = B 51 i) → Q none G) : ∀ (n : Nat) (k : Nat) (G : xF), (∀ a, ¬ a = 11 → ¬ a = 12 → G a = B a) → (∀ j, ¬ j = 3 → ¬ j = 4 → G 11 j = B 11 j) → G 11 3 = nI m → (∀ i, i < k → G 12 i = B 51 i) → k ≤ m → m < n + k → V2 L xs (d + 2) m_Law_takes 18 [some (.ref 11), some (.ref 50), some (.int (nI k))] [] G Q := by
  intro n
  induction n with
  | zero => exact fun k G g1 g2 g3 g4 h1 h2 => absurd h2 (by omega)
  | succ n ih =>
    intro k G g1 g2 g3 g4 h1 h2
    refine V2_iload_n (i := 2) d_Law_takes_18 rfl rfl ?_
    refine V2_aload_n (i := 0) d_Law_takes_19 rfl rfl ?_
    refine V2_get (v := G 11 3) d_Law_takes_20 fl_Law_16 (by decide) rfl (by decide) rfl rfl ?_
    refine V2_topi (fun v1 ev1 => ?_)
    refine V2_icmp_ge (tgt := 43) d_Law_takes_23 rfl (fun c2 => ?_) (fun c2 => ?_)
    · refine V2_aload_n (i := 0) d_Law_takes_43 rfl rfl ?_
      refine V2_iconst (v := 1) d_Law_takes_44 rfl ?_
      refine V2_putz d_Law_takes_45 fl_Law_20 (by decide) rfl (by decide) rfl (by decide) ?_
      refine V2_return d_Law_takes_48 rfl ?_
      have hk : k = m := by
        have h9 := c2
        subst ev1
        rw [g3] at h9
        exact Nat.le_antisymm h1 ((nI_leI (by omega) (by omega)).mp h9)
      subst hk
      exact xQv (hQ (xp G 11 4 1) (fun a x y => (xp_row_ne x).trans (g1 a x y)) (fun j x y => (xp_ne (Or.inr y)).trans (g2 j x y)) ((xp_ne (Or.inr (by decide))).trans g3) (xp_same _ _ _ _) (fun i hi => (congrFun (xp_row_ne (by decide)) i).trans (g4 i hi))) rfl
    · have hk : k < m := by
        have h9 := c2
        subst ev1
        rw [g3] at h9
        exact Nat.not_le.mp (fun hh => h9 ((nI_leI (by omega) (by omega)).mpr hh))
      refine V2_aload_n (i := 0) d_Law_takes_26 rfl rfl ?_
      refine V2_getr (a := 12) d_Law_takes_27 fl_Law_9 (by decide) rfl (by decide) rfl ?_
      refine V2_iload_n (i := 2) d_Law_takes_30 rfl rfl ?_
      refine V2_aload_n (i := 1) d_Law_takes_31 rfl rfl ?_
      refine V2_iload_n (i := 2) d_Law_takes_32 rfl rfl ?_
      refine V2_callV [.int (nI k)] d_Law_takes_33 rfl rfl lk_Law_39 mo_Nums_at (by decide) rfl rfl rfl (Nat.le_of_ble_eq_true rfl) (Nat.le_of_ble_eq_true rfl) ?_
      refine c_Nums_at_50 (p := k) (P := m) ((congrFun (g1 50 (by decide) (by decide)) 1).trans h50) hm hk ?_
      refine V2_topi (fun v3 ev3 => ?_)
      refine V2_iastore (j := (k)) d_Law_takes_36 (by decide) rfl (xixA (n := k) rfl (by omega) (by decide)) (xixB (n := k) rfl (by omega)) ?_
      obtain ⟨v4, ev4⟩ : ∃ y : Int32, y = nI k + 1 := ⟨_, rfl⟩
      refine V2_iinc (i := 2) (v := v4) (l' := [some (.ref 11), some (.ref 50), some (.int v4)]) d_Law_takes_37 rfl (by rw [ev4]; rfl) (xst_r (Nat.le_of_ble_eq_true rfl) rfl rfl) ?_
      refine V2_goto (tgt := 18) d_Law_takes_40 rfl ?_
      refine V2.to (ih (k + 1) _ (fun a x y => (xp_row_ne y).trans (g1 a x y)) (fun j x y => (congrFun (xp_row_ne (by decide)) j).trans (g2 j x y)) ((congrFun (xp_row_ne (by decide)) 3).trans g3) (fun i hi => ?_) (by omega) (by omega)) rfl ?_ rfl rfl
      · by_cases ei : i = k
        · subst ei
          rw [xp_same]
          subst ev4 ev3 ev1
          exact congrFun (g1 51 (by decide) (by decide)) i
        · rw [xp_ne (Or.inr ei)]
          exact g4 i (by omega)
      · rw [ev4, nI_1]
theorem c_Law_takes_11 {L : Nat} {xs : Nat → Int32} {d : Nat} {Q : Option Value → xF → Prop} {F : xF} {m : Nat} (h50 : F 50 1 = nI m) (hm : m ≤ 60) (hQ : ∀ G : xF, (∀ a, ¬ a = 11 → ¬ a = 12 → G a = F a) → (∀ j, ¬ j = 3 → ¬ j = 4 → G 11 j = F 11 j) → G 11 3 = nI m → G 11 4 = 1 → (∀ i, i < m → G 12 i = F 51 i) → Q none G) : V2 L xs (d + 2) m_Law_takes 0 (xEntry [.ref 11, .ref 50] 3) [] F Q := by
  refine V2.to (l' := [some (.ref 11), some (.ref 50), none]) ?_ rfl rfl rfl rfl
  refine V2_aload_n (i := 0) d_Law_takes_0 rfl rfl ?_
  refine V2_aload_n (i := 1) d_Law_takes_1 rfl rfl ?_
  refine V2_callV [] d_Law_takes_2 rfl rfl lk_Law_27 mo_Nums_size (by decide) rfl rfl rfl (Nat.le_of_ble_eq_true rfl) (Nat.le_of_ble_eq_true rfl) ?_
  refine V2.to (l' := [some (.ref 50)]) ?_ rfl rfl rfl rfl
  refine V2_aload_n (i := 0) d_Nums_size_0 rfl rfl ?_
  refine V2_get (v := F 50 1) d_Nums_size_1 fl_Nums_7 (by decide) rfl (by decide) rfl rfl ?_
  refine V2_topi (fun v1 ev1 => ?_)
  refine V2_ireturn d_Nums_size_4 rfl ?_
  refine V2.to (st' := [.int v1, .ref 11]) ?_ rfl rfl rfl rfl
  refine V2_aload_n (i := 0) d_Law_takes_5 rfl rfl ?_
  refine V2_getr (a := 12) d_Law_takes_6 fl_Law_9 (by decide) rfl (by decide) rfl ?_
  refine V2_alen (t := 0) (v := 60) d_Law_takes_9 (by decide) rfl (by decide) rfl ?_
  refine V2_mmin d_Law_takes_10 lz_Law_33 (Nat.le_of_ble_eq_true rfl) ?_
  refine V2_topi (fun v2 ev2 => ?_)
  refine V2_put d_Law_takes_13 fl_Law_16 (by decide) rfl (by decide) rfl ?_
  refine V2_iconst (v := 0) d_Law_takes_16 rfl ?_
  refine V2_istore_n (i := 2) (l' := [some (.ref 11), some (.ref 50), some (.int (0 : Int32))]) d_Law_takes_17 rfl (xst_r (Nat.le_of_ble_eq_true rfl) rfl rfl) ?_
  have em : v2 = nI m := by
    subst ev2 ev1
    rw [h50]
    have q60 : (60 : Int32).toInt = 60 := by decide
    have q1 := nI_toInt (n := m) (by omega)
    exact if_neg (by rw [Int32.lt_iff_toInt_lt, q1, q60]; omega)
  rw [em]
  refine V2.to (c_Law_takes_11_loop (B := xp F 11 3 (nI m)) ((congrFun (xp_row_ne (by decide)) 1).trans h50) hm (fun G g1 g2 g3 g4 g5 => hQ G (fun a x y => (g1 a x y).trans (xp_row_ne x)) (fun j x y => (g2 j x y).trans (xp_ne (Or.inr x))) g3 g4 (fun i hi => (g5 i hi).trans (congrFun (xp_row_ne (by decide)) i))) (m + 1) 0 _ (fun a _ _ => rfl) (fun j _ _ => rfl) (xp_same _ _ _ _) (fun i hi => absurd hi (Nat.not_lt_zero i)) (Nat.zero_le m) (by omega)) rfl rfl rfl rfl
def stepRow (x : PS) (k : Nat) : Int32 := if k % 2 = 0 then x.wh (k / 2) else x.vl (k / 2)
def textS (S : Nat → Int32) (u : Nat) (x : PS) : Nat → (Nat → Int32)
  | 0 => upd (upd S 9 0) (24 + 125 * u) (nI x.n)
  | k + 1 => upd (textS S u x k) (24 + 125 * u + 1 + k) (stepRow x k)
theorem textS_o {S : Nat → Int32} {u : Nat} {x : PS} (k : Nat) {j : Nat} (h9 : ¬ j = 9) (h1 : j < 24 + 125 * u ∨ 24 + 125 * u + k < j) : textS S u x k j = S j := by
  induction k with
  | zero =>
    unfold textS
    rw [upd_ne (by omega), upd_ne h9]
  | succ k ih =>
    unfold textS
    rw [upd_ne (by omega)]
    exact ih (by omega)
theorem textS_n {S : Nat → Int32} {u : Nat} {x : PS} (k : Nat) : textS S u x k (24 + 125 * u) = nI x.n := by
  induction k with
  | zero => exact upd_same
  | succ k ih =>
    unfold textS
    rw [upd_ne (by omega)]
    exact ih
theorem textS_9 {S : Nat → Int32} {u : Nat} {x : PS} (k : Nat) : textS S u x k 9 = 0 := by
  induction k with
  | zero =>
    unfold textS
    rw [upd_ne (by omega)]
    exact upd_same
  | succ k ih =>
    unfold textS
    rw [upd_ne (by omega)]
    exact ih
theorem textS_k {S : Nat → Int32} {u : Nat} {x : PS} (k : Nat) {i : Nat} (hi : i < k) : textS S u x k (24 + 125 * u + 1 + i) = stepRow x i := by
  induction k with
  | zero => omega
  | succ k ih =>
    unfold textS
    by_cases e : i = k
    · subst e
      exact upd_same
    · rw [upd_ne (by omega)]
      exact ih (by omega)
theorem textS_wh {S : Nat → Int32} {u : Nat} {x : PS} {i : Nat} (hi : i < x.n) : whS u (textS S u x (2 * x.n)) i = x.wh i := by
  unfold whS
  rw [textS_k (2 * x.n) (i := 2 * i) (by omega)]
  unfold stepRow
  rw [if_pos (by omega), show 2 * i / 2 = i from by omega]
theorem textS_vl {S : Nat → Int32} {u : Nat} {x : PS} {i : Nat} (hi : i < x.n) : vlS u (textS S u x (2 * x.n)) i = x.vl i := by
  unfold vlS
  rw [show 24 + 125 * u + 2 + 2 * i = 24 + 125 * u + 1 + (2 * i + 1) from by omega, textS_k (2 * x.n) (i := 2 * i + 1) (by omega)]
  unfold stepRow
  rw [if_neg (by omega), show (2 * i + 1) / 2 = i from by omega]
theorem okT_text {S : Nat → Int32} {u : Nat} {x : PS} (h : okText u x.n x.wh x.vl) : okT u (textS S u x (2 * x.n)) :=
  ⟨x.n, textS_n _, Or.inr (okText_congr h (fun i hi => textS_wh hi) (fun i hi => textS_vl hi))⟩
noncomputable def kt (F : xF) (u : Nat) : Int32 × xF := @ite _ (fullT (fun i => F 66 (274 + i)) (TN (F 66)) u) (Classical.propDecidable _) (1, xrw F 66 (textS (F 66) u (readT (fun i => F 66 (274 + i)) (TN (F 66)) u).2 (2 * (readT (fun i => F 66 (274 + i)) (TN (F 66)) u).2.n))) (-10 - nI (readT (fun i => F 66 (274 + i)) (TN (F 66)) u).2.at_, xrw F 66 (upd (F 66) 9 0))
noncomputable def k_text (F : xF) (u : Int32) : Int32 × xF := if u = 0 then kt F 0 else if u = 1 then kt F 1 else (-1000000000 - 1, errF F 1)
theorem relW_17 {F F' : xF} {S : Nat → Int32} (h : relW F 1 S) (he : ∀ k, k < 18 → F' k = F k) : relW F' 1 S := by
  have e : ∀ {a : Nat}, a < 18 → F' a = F a := fun ha => he _ ha
  unfold relW relPw relTape relWait relL at *
  rw [e (a := 1 + 1) (by decide), e (a := 1 + 2) (by decide), e (a := 1 + 4) (by decide), e (a := 1 + 6) (by decide), e (a := 1 + 7) (by decide), e (a := 1 + 7 + 1) (by decide), e (a := 1 + 10) (by decide), e (a := 1 + 10 + 1) (by decide), e (a := 1 + 13) (by decide), e (a := 1 + 14) (by decide), e (a := 1 + 15) (by decide), e (a := 1 + 16) (by decide), e (a := 1) (by decide)]
  exact h
theorem mid_Ws {F F1 : xF} {S' : Nat → Int32} (h : Rel F) (hF : ∀ k, k = 0 ∨ 18 ≤ k → (k < 35 ∨ 52 < k) → F1 k = F k) (hw : relW F1 1 S') : Mid F F1 (xrw F 66 S') := by
  refine ⟨fun k hk => hF k (by omega) (by omega), ?_⟩
  have h1 : relC (fun a => if a = 0 ∨ 18 ≤ a then F1 a else F a) F := relC_scr h.1 (fun a h1 h2 h3 h4 => by
    by_cases e : a = 0 ∨ 18 ≤ a
    · exact (if_pos e).trans (hF a e h4)
    · exact if_neg e)
  exact relC_W h1 (by rw [xrw_same]; exact hw) (fun k hk _ => (if_pos hk).symm) (fun k hk => xrw_ne hk)
theorem invTape_0 {S : Nat → Int32} (h : S 9 = 0) : invTape S := ⟨0, Nat.zero_le _, h, fun i hi => absurd hi (Nat.not_lt_zero i)⟩
theorem relTape_0 {F : xF} {S : Nat → Int32} (h : F 14 1 = 0) (h9 : S 9 = 0) : relTape F 1 S := ⟨h.trans h9.symm, fun i hi => by
  rw [h9] at hi
  exact absurd hi (Nat.not_lt_zero i)⟩
/-- the tape emptied, else only scratch -/
theorem relW_read {F G : xF} (hR : Rel F) (hf : ∀ a, (a < 47 ∨ 51 < a) → G a = F a) : relW (xp G 14 1 0) 1 (upd (F 66) 9 0) := by
  refine relW_17 (F := xp F 14 1 0) ?_ (fun k hk => ?_)
  · exact relW_tape hR.1.1 hR.2.1 (relTape_0 (xp_same _ _ _ _) upd_same) (fun k a b => xp_row_ne a) (fun j a b => upd_ne a)
  · rw [xp_row, xp_row, hf 14 (by decide)]
    unfold xrw
    funext b
    show (if k = 14 then _ else _) = (if k = 14 then _ else _)
    by_cases e : k = 14
    · rw [if_pos e, if_pos e]
    · rw [if_neg e, if_neg e, hf k (by omega)]
theorem relL_told {G : xF} {S : Nat → Int32} {u l : Nat} {x : PS} (h0 : G l 0 = nI u) (h3 : G l 3 = nI x.n) (h4 : G l 4 = 1) (h1 : 1 ≤ x.n) (hn : x.n ≤ 60) (hc : ∀ i, i < x.n → G (l + 1) i = encT (x.wh i) (x.vl i)) : relL G l u (textS S u x (2 * x.n)) := by
  have e := textS_n (S := S) (u := u) (x := x) (2 * x.n)
  refine ⟨⟨h0, x.n, hn, h3⟩, ?_, fun hp => ⟨?_, fun k hk => ?_⟩⟩
  · rw [h4, e]
    exact (xb_1 (nI_lt (a := 0) (by omega) (by omega))).symm
  · rw [h3, e]
  · rw [e, nI_clamp (by omega)] at hk
    rw [textS_wh hk, textS_vl hk]
    exact hc k hk
theorem c_cls_text0 {L : Nat} {xs : Nat → Int32} {d : Nat} {Q : Option Value → xF → Prop} {F : xF}  (hR : Rel F) (hQ : ∀ F1, Mid F F1 (k_text F 0).2 → Q (some (.int (k_text F 0).1)) F1) : V2 L xs (d + 90) m_P_text 0 (xEntry [.ref 0, .int (0 : Int32)] 3) [] F Q := by
  have q0 : (0 : Int32).toInt = 0 := by decide
  have q1 : (1 : Int32).toInt = 1 := by decide
  have q2 : (2 : Int32).toInt = 2 := by decide
  have q3 : (3 : Int32).toInt = 3 := by decide
  have q4 : (4 : Int32).toInt = 4 := by decide
  have q5 : (5 : Int32).toInt = 5 := by decide
  have q6 : (6 : Int32).toInt = 6 := by decide
  have q7 : (7 : Int32).toInt = 7 := by decide
  have q8 : (8 : Int32).toInt = 8 := by decide
  have q9 : (9 : Int32).toInt = 9 := by decide
  have q10 : (10 : Int32).toInt = 10 := by decide
  have q12 : (12 : Int32).toInt = 12 := by decide
  have q16 : (16 : Int32).toInt = 16 := by decide
  have q20 : (20 : Int32).toInt = 20 := by decide
  have q24 : (24 : Int32).toInt = 24 := by decide
  have q30 : (30 : Int32).toInt = 30 := by decide
  have q32 : (32 : Int32).toInt = 32 := by decide
  have q40 : (40 : Int32).toInt = 40 := by decide
  have q60 : (60 : Int32).toInt = 60 := by decide
  have q69 : (69 : Int32).toInt = 69 := by decide
  have q99 : (99 : Int32).toInt = 99 := by decide
  have q9999 : (9999 : Int32).toInt = 9999 := by decide
  have q274 : (274 : Int32).toInt = 274 := by decide
  have q334 : (334 : Int32).toInt = 334 := by decide
  obtain ⟨eT, hT⟩ := inv_TN hR.2.1.2.2.2.2.2.1
  refine V2.to (l' := [some (.ref 0), some (.int (0 : Int32)), none]) ?_ rfl rfl rfl rfl
  refine V2_iload_n (i := 1) d_P_text_0 rfl rfl ?_
  refine V2_iconst (v := 0) d_P_text_1 rfl ?_
  refine V2_iconst (v := 1) d_P_text_2 rfl ?_
  refine V2_callS [.int (0 : Int32), .int (0 : Int32), .int (1 : Int32)] d_P_text_3 rfl rfl lk_P_133 mo_P_within (Nat.le_of_ble_eq_true rfl) (Nat.le_of_ble_eq_true rfl) ?_
  refine V2.to (l' := [some (.int (0 : Int32)), some (.int (0 : Int32)), some (.int (1 : Int32))]) ?_ rfl rfl rfl rfl
  refine V2_iload_n (i := 0) d_P_within_0 rfl rfl ?_
  refine V2_iload_n (i := 1) d_P_within_1 rfl rfl ?_
  refine V2_icmp_lt (tgt := 14) d_P_within_2 rfl (fun c => (by first | exact absurd c (by decide) | exact absurd (by decide) c)) (fun _ => ?_)
  refine V2_iload_n (i := 0) d_P_within_5 rfl rfl ?_
  refine V2_iload_n (i := 2) d_P_within_6 rfl rfl ?_
  refine V2_icmp_gt (tgt := 14) d_P_within_7 rfl (fun c => (by first | exact absurd c (by decide) | exact absurd (by decide) c)) (fun _ => ?_)
  refine V2_iconst (v := 1) d_P_within_10 rfl ?_
  refine V2_goto (tgt := 15) d_P_within_11 rfl ?_
  refine V2_zreturn d_P_within_15 rfl (by decide) ?_
  refine V2.to (st' := [.int (1 : Int32)]) ?_ rfl rfl rfl rfl
  refine V2_if_ne (tgt := 15) d_P_text_6 rfl (fun _ => ?_) (fun c => (by first | exact absurd c (by decide) | exact absurd (by decide) c))
  refine V2_aload_n (i := 0) d_P_text_15 rfl rfl ?_
  refine V2_getr (a := 47) d_P_text_16 fl_P_36 (by decide) rfl (by decide) rfl ?_
  refine V2_aload_n (i := 0) d_P_text_19 rfl rfl ?_
  refine V2_getr (a := 1) d_P_text_20 fl_P_10 (by decide) rfl (by decide) rfl ?_
  refine V2_getr (a := 14) d_P_text_23 fl_P_144 (by decide) rfl (by decide) rfl ?_
  refine V2_iload_n (i := 1) d_P_text_26 rfl rfl ?_
  refine V2_callV [.ref 14, .int (0 : Int32)] d_P_text_27 rfl rfl lk_P_158 mo_Read_reads (by decide) rfl rfl rfl (Nat.le_of_ble_eq_true rfl) (Nat.le_of_ble_eq_true rfl) ?_
  refine c_Read_reads (T := fun i => F 66 (274 + i)) (N := TN (F 66)) (use := 0) (hR.1.1.2.2.2.2.1.1.trans eT) hT (fun i hi => hR.1.1.2.2.2.2.1.2 i hi) (by decide) (fun rA GA hA => ?_)
  refine V2_istore_n (i := 2) (l' := [some (.ref 0), some (.int (0 : Int32)), some (.int rA)]) d_P_text_30 rfl (xst_i (Nat.le_of_ble_eq_true rfl) rfl rfl) ?_
  refine V2_aload_n (i := 0) d_P_text_31 rfl rfl ?_
  refine V2_getr (a := 1) d_P_text_32 fl_P_10 (by decide) rfl (by decide) rfl ?_
  refine V2_getr (a := 14) d_P_text_35 fl_P_144 (by decide) rfl (by decide) rfl ?_
  refine V2_callV [] d_P_text_38 rfl rfl lk_P_162 mo_Nums_empty (by decide) rfl rfl rfl (Nat.le_of_ble_eq_true rfl) (Nat.le_of_ble_eq_true rfl) ?_
  refine c_Nums_empty_14 ?_
  refine V2_iload_n (i := 2) d_P_text_41 rfl rfl ?_
  obtain ⟨hf, hA⟩ := hA
  rcases hA with ⟨rfl, okA, n5, c5⟩ | ⟨rfl, okA, p3⟩
  · refine V2_if_ne (tgt := 56) d_P_text_42 rfl (fun _ => ?_) (fun c => (by first | exact absurd c (by decide) | exact absurd (by decide) c))
    refine V2_aload_n (i := 0) d_P_text_56 rfl rfl ?_
    refine V2_getr (a := 1) d_P_text_57 fl_P_10 (by decide) rfl (by decide) rfl ?_
    refine V2_iload_n (i := 1) d_P_text_60 rfl rfl ?_
    refine V2_callV [.int (0 : Int32)] d_P_text_61 rfl rfl lk_P_168 mo_World_lawOf (by decide) rfl rfl rfl (Nat.le_of_ble_eq_true rfl) (Nat.le_of_ble_eq_true rfl) ?_
    refine V2.to (l' := [some (.ref 1), some (.int (0 : Int32))]) ?_ rfl rfl rfl rfl
    refine V2_iload_n (i := 1) d_World_lawOf_0 rfl rfl ?_
    refine V2_if_ne (tgt := 11) d_World_lawOf_1 rfl (fun c => (by first | exact absurd c (by decide) | exact absurd (by decide) c)) (fun _ => ?_)
    refine V2_aload_n (i := 0) d_World_lawOf_4 rfl rfl ?_
    refine V2_getr (a := 8) d_World_lawOf_5 fl_World_28 (by decide) rfl (by decide) rfl ?_
    refine V2_goto (tgt := 15) d_World_lawOf_8 rfl ?_
    refine V2_areturn d_World_lawOf_15 rfl (Or.inl ⟨_, rfl⟩) ?_
    refine V2.to (st' := [.ref 8]) ?_ rfl rfl rfl rfl
    refine V2_aload_n (i := 0) d_P_text_64 rfl rfl ?_
    refine V2_getr (a := 47) d_P_text_65 fl_P_36 (by decide) rfl (by decide) rfl ?_
    refine V2_callV [] d_P_text_68 rfl rfl lk_P_172 mo_Read_code (by decide) rfl rfl rfl (Nat.le_of_ble_eq_true rfl) (Nat.le_of_ble_eq_true rfl) ?_
    refine V2.to (l' := [some (.ref 47)]) ?_ rfl rfl rfl rfl
    refine V2_aload_n (i := 0) d_Read_code_0 rfl rfl ?_
    refine V2_getr (a := 50) d_Read_code_1 fl_Read_20 (by decide) rfl (by decide) rfl ?_
    refine V2_areturn d_Read_code_4 rfl (Or.inl ⟨_, rfl⟩) ?_
    refine V2.to (st' := [.ref 50, .ref 8]) ?_ rfl rfl rfl rfl
    refine V2_callV [.ref 50] d_P_text_71 rfl rfl lk_P_176 mo_Law_takes (by decide) rfl rfl rfl (Nat.le_of_ble_eq_true rfl) (Nat.le_of_ble_eq_true rfl) ?_
    have ro := read_ok okA hT
    refine c_Law_takes_8 (m := (readT (fun i => F 66 (274 + i)) (TN (F 66)) 0).2.n) ((congrFun (xp_row_ne (by decide)) 1).trans n5) ro.1.1 (fun GB t1 t2 t3 t4 t5 => ?_)
    refine V2_iconst (v := 1) d_P_text_74 rfl ?_
    refine V2_ireturn d_P_text_75 rfl ?_
    have ek : k_text F 0 = kt F 0 := if_pos rfl
    have ek2 : kt F 0 = (1, xrw F 66 (textS (F 66) 0 (readT (fun i => F 66 (274 + i)) (TN (F 66)) 0).2 (2 * (readT (fun i => F 66 (274 + i)) (TN (F 66)) 0).2.n))) := if_pos okA
    rw [ek, ek2] at hQ
    have rr := relW_read hR hf
    have g0 : GB 8 0 = nI 0 := (t2 0 (by decide) (by decide)).trans ((congrFun (xp_row_ne (by decide)) 0).trans ((congrFun (hf 8 (by decide)) 0).trans hR.1.1.2.2.1.1.1))
    have i1 : invS (upd (F 66) 9 0) := invS_tape hR.2.1 (invTape_0 upd_same) (fun j a b => upd_ne a)
    have rl : relL GB 8 0 (textS (F 66) 0 (readT (fun i => F 66 (274 + i)) (TN (F 66)) 0).2 (2 * (readT (fun i => F 66 (274 + i)) (TN (F 66)) 0).2.n)) := relL_told g0 t3 t4 ro.2 ro.1.1 (fun i hi => (t5 i hi).trans ((congrFun (xp_row_ne (by decide)) i).trans (c5 i hi)))
    have rw9 : relW GB 1 (textS (F 66) 0 (readT (fun i => F 66 (274 + i)) (TN (F 66)) 0).2 (2 * (readT (fun i => F 66 (274 + i)) (TN (F 66)) 0).2.n)) := relW_law0 rr i1 rl (fun k a b c => t1 k a b) (fun j hj => ?_)
    · exact xQi (hQ GB (mid_Ws hR (fun k a b => (t1 k (by omega) (by omega)).trans ((xp_row_ne (by omega)).trans (hf k (by omega)))) rw9)) rfl rfl
    · by_cases e9 : j = 9
      · subst e9
        exact (textS_9 _).trans upd_same.symm
      · have := ro.1.1
        exact (textS_o _ e9 (by omega)).trans (upd_ne e9).symm
  · refine V2_if_ne (tgt := 56) d_P_text_42 rfl (fun c => (by first | exact absurd c (by decide) | exact absurd (by decide) c)) (fun _ => ?_)
    refine V2_bipush (v := -10) d_P_text_45 rfl ?_
    refine V2_aload_n (i := 0) d_P_text_47 rfl rfl ?_
    refine V2_getr (a := 47) d_P_text_48 fl_P_36 (by decide) rfl (by decide) rfl ?_
    refine V2_callV [] d_P_text_51 rfl rfl lk_P_165 mo_Read_place (by decide) rfl rfl rfl (Nat.le_of_ble_eq_true rfl) (Nat.le_of_ble_eq_true rfl) ?_
    refine V2.to (l' := [some (.ref 47)]) ?_ rfl rfl rfl rfl
    refine V2_aload_n (i := 0) d_Read_place_0 rfl rfl ?_
    refine V2_get (v := GA 47 3) d_Read_place_1 fl_Read_27 (by decide) rfl (by decide) rfl rfl ?_
    refine V2_topi (fun v1 ev1 => ?_)
    refine V2_ireturn d_Read_place_4 rfl ?_
    refine V2.to (st' := [.int v1, .int (-10 : Int32)]) ?_ rfl rfl rfl rfl
    refine V2_isub d_P_text_54 ?_
    refine V2_topi (fun v2 ev2 => ?_)
    refine V2_ireturn d_P_text_55 rfl ?_
    have ek : k_text F 0 = kt F 0 := if_pos rfl
    have ek2 : kt F 0 = (-10 - nI (readT (fun i => F 66 (274 + i)) (TN (F 66)) 0).2.at_, xrw F 66 (upd (F 66) 9 0)) := if_neg okA
    rw [ek, ek2] at hQ
    refine xQi (hQ (xp GA 14 1 0) (mid_Ws hR (fun k a b => (xp_row_ne (by omega)).trans (hf k (by omega))) (relW_read hR hf))) ?_ rfl
    subst ev2 ev1
    rw [show GA 47 3 = nI (readT (fun i => F 66 (274 + i)) (TN (F 66)) 0).2.at_ from p3]
theorem c_cls_text1 {L : Nat} {xs : Nat → Int32} {d : Nat} {Q : Option Value → xF → Prop} {F : xF}  (hR : Rel F) (hQ : ∀ F1, Mid F F1 (k_text F 1).2 → Q (some (.int (k_text F 1).1)) F1) : V2 L xs (d + 90) m_P_text 0 (xEntry [.ref 0, .int (1 : Int32)] 3) [] F Q := by
  have q0 : (0 : Int32).toInt = 0 := by decide
  have q1 : (1 : Int32).toInt = 1 := by decide
  have q2 : (2 : Int32).toInt = 2 := by decide
  have q3 : (3 : Int32).toInt = 3 := by decide
  have q4 : (4 : Int32).toInt = 4 := by decide
  have q5 : (5 : Int32).toInt = 5 := by decide
  have q6 : (6 : Int32).toInt = 6 := by decide
  have q7 : (7 : Int32).toInt = 7 := by decide
  have q8 : (8 : Int32).toInt = 8 := by decide
  have q9 : (9 : Int32).toInt = 9 := by decide
  have q10 : (10 : Int32).toInt = 10 := by decide
  have q12 : (12 : Int32).toInt = 12 := by decide
  have q16 : (16 : Int32).toInt = 16 := by decide
  have q20 : (20 : Int32).toInt = 20 := by decide
  have q24 : (24 : Int32).toInt = 24 := by decide
  have q30 : (30 : Int32).toInt = 30 := by decide
  have q32 : (32 : Int32).toInt = 32 := by decide
  have q40 : (40 : Int32).toInt = 40 := by decide
  have q60 : (60 : Int32).toInt = 60 := by decide
  have q69 : (69 : Int32).toInt = 69 := by decide
  have q99 : (99 : Int32).toInt = 99 := by decide
  have q9999 : (9999 : Int32).toInt = 9999 := by decide
  have q274 : (274 : Int32).toInt = 274 := by decide
  have q334 : (334 : Int32).toInt = 334 := by decide
  obtain ⟨eT, hT⟩ := inv_TN hR.2.1.2.2.2.2.2.1
  refine V2.to (l' := [some (.ref 0), some (.int (1 : Int32)), none]) ?_ rfl rfl rfl rfl
  refine V2_iload_n (i := 1) d_P_text_0 rfl rfl ?_
  refine V2_iconst (v := 0) d_P_text_1 rfl ?_
  refine V2_iconst (v := 1) d_P_text_2 rfl ?_
  refine V2_callS [.int (1 : Int32), .int (0 : Int32), .int (1 : Int32)] d_P_text_3 rfl rfl lk_P_133 mo_P_within (Nat.le_of_ble_eq_true rfl) (Nat.le_of_ble_eq_true rfl) ?_
  refine V2.to (l' := [some (.int (1 : Int32)), some (.int (0 : Int32)), some (.int (1 : Int32))]) ?_ rfl rfl rfl rfl
  refine V2_iload_n (i := 0) d_P_within_0 rfl rfl ?_
  refine V2_iload_n (i := 1) d_P_within_1 rfl rfl ?_
  refine V2_icmp_lt (tgt := 14) d_P_within_2 rfl (fun c => (by first | exact absurd c (by decide) | exact absurd (by decide) c)) (fun _ => ?_)
  refine V2_iload_n (i := 0) d_P_within_5 rfl rfl ?_
  refine V2_iload_n (i := 2) d_P_within_6 rfl rfl ?_
  refine V2_icmp_gt (tgt := 14) d_P_within_7 rfl (fun c => (by first | exact absurd c (by decide) | exact absurd (by decide) c)) (fun _ => ?_)
  refine V2_iconst (v := 1) d_P_within_10 rfl ?_
  refine V2_goto (tgt := 15) d_P_within_11 rfl ?_
  refine V2_zreturn d_P_within_15 rfl (by decide) ?_
  refine V2.to (st' := [.int (1 : Int32)]) ?_ rfl rfl rfl rfl
  refine V2_if_ne (tgt := 15) d_P_text_6 rfl (fun _ => ?_) (fun c => (by first | exact absurd c (by decide) | exact absurd (by decide) c))
  refine V2_aload_n (i := 0) d_P_text_15 rfl rfl ?_
  refine V2_getr (a := 47) d_P_text_16 fl_P_36 (by decide) rfl (by decide) rfl ?_
  refine V2_aload_n (i := 0) d_P_text_19 rfl rfl ?_
  refine V2_getr (a := 1) d_P_text_20 fl_P_10 (by decide) rfl (by decide) rfl ?_
  refine V2_getr (a := 14) d_P_text_23 fl_P_144 (by decide) rfl (by decide) rfl ?_
  refine V2_iload_n (i := 1) d_P_text_26 rfl rfl ?_
  refine V2_callV [.ref 14, .int (1 : Int32)] d_P_text_27 rfl rfl lk_P_158 mo_Read_reads (by decide) rfl rfl rfl (Nat.le_of_ble_eq_true rfl) (Nat.le_of_ble_eq_true rfl) ?_
  refine c_Read_reads (T := fun i => F 66 (274 + i)) (N := TN (F 66)) (use := 1) (hR.1.1.2.2.2.2.1.1.trans eT) hT (fun i hi => hR.1.1.2.2.2.2.1.2 i hi) (by decide) (fun rA GA hA => ?_)
  refine V2_istore_n (i := 2) (l' := [some (.ref 0), some (.int (1 : Int32)), some (.int rA)]) d_P_text_30 rfl (xst_i (Nat.le_of_ble_eq_true rfl) rfl rfl) ?_
  refine V2_aload_n (i := 0) d_P_text_31 rfl rfl ?_
  refine V2_getr (a := 1) d_P_text_32 fl_P_10 (by decide) rfl (by decide) rfl ?_
  refine V2_getr (a := 14) d_P_text_35 fl_P_144 (by decide) rfl (by decide) rfl ?_
  refine V2_callV [] d_P_text_38 rfl rfl lk_P_162 mo_Nums_empty (by decide) rfl rfl rfl (Nat.le_of_ble_eq_true rfl) (Nat.le_of_ble_eq_true rfl) ?_
  refine c_Nums_empty_14 ?_
  refine V2_iload_n (i := 2) d_P_text_41 rfl rfl ?_
  obtain ⟨hf, hA⟩ := hA
  rcases hA with ⟨rfl, okA, n5, c5⟩ | ⟨rfl, okA, p3⟩
  · refine V2_if_ne (tgt := 56) d_P_text_42 rfl (fun _ => ?_) (fun c => (by first | exact absurd c (by decide) | exact absurd (by decide) c))
    refine V2_aload_n (i := 0) d_P_text_56 rfl rfl ?_
    refine V2_getr (a := 1) d_P_text_57 fl_P_10 (by decide) rfl (by decide) rfl ?_
    refine V2_iload_n (i := 1) d_P_text_60 rfl rfl ?_
    refine V2_callV [.int (1 : Int32)] d_P_text_61 rfl rfl lk_P_168 mo_World_lawOf (by decide) rfl rfl rfl (Nat.le_of_ble_eq_true rfl) (Nat.le_of_ble_eq_true rfl) ?_
    refine V2.to (l' := [some (.ref 1), some (.int (1 : Int32))]) ?_ rfl rfl rfl rfl
    refine V2_iload_n (i := 1) d_World_lawOf_0 rfl rfl ?_
    refine V2_if_ne (tgt := 11) d_World_lawOf_1 rfl (fun _ => ?_) (fun c => (by first | exact absurd c (by decide) | exact absurd (by decide) c))
    refine V2_aload_n (i := 0) d_World_lawOf_11 rfl rfl ?_
    refine V2_getr (a := 11) d_World_lawOf_12 fl_World_32 (by decide) rfl (by decide) rfl ?_
    refine V2_areturn d_World_lawOf_15 rfl (Or.inl ⟨_, rfl⟩) ?_
    refine V2.to (st' := [.ref 11]) ?_ rfl rfl rfl rfl
    refine V2_aload_n (i := 0) d_P_text_64 rfl rfl ?_
    refine V2_getr (a := 47) d_P_text_65 fl_P_36 (by decide) rfl (by decide) rfl ?_
    refine V2_callV [] d_P_text_68 rfl rfl lk_P_172 mo_Read_code (by decide) rfl rfl rfl (Nat.le_of_ble_eq_true rfl) (Nat.le_of_ble_eq_true rfl) ?_
    refine V2.to (l' := [some (.ref 47)]) ?_ rfl rfl rfl rfl
    refine V2_aload_n (i := 0) d_Read_code_0 rfl rfl ?_
    refine V2_getr (a := 50) d_Read_code_1 fl_Read_20 (by decide) rfl (by decide) rfl ?_
    refine V2_areturn d_Read_code_4 rfl (Or.inl ⟨_, rfl⟩) ?_
    refine V2.to (st' := [.ref 50, .ref 11]) ?_ rfl rfl rfl rfl
    refine V2_callV [.ref 50] d_P_text_71 rfl rfl lk_P_176 mo_Law_takes (by decide) rfl rfl rfl (Nat.le_of_ble_eq_true rfl) (Nat.le_of_ble_eq_true rfl) ?_
    have ro := read_ok okA hT
    refine c_Law_takes_11 (m := (readT (fun i => F 66 (274 + i)) (TN (F 66)) 1).2.n) ((congrFun (xp_row_ne (by decide)) 1).trans n5) ro.1.1 (fun GB t1 t2 t3 t4 t5 => ?_)
    refine V2_iconst (v := 1) d_P_text_74 rfl ?_
    refine V2_ireturn d_P_text_75 rfl ?_
    have ek : k_text F 1 = kt F 1 := (if_neg (by decide)).trans (if_pos rfl)
    have ek2 : kt F 1 = (1, xrw F 66 (textS (F 66) 1 (readT (fun i => F 66 (274 + i)) (TN (F 66)) 1).2 (2 * (readT (fun i => F 66 (274 + i)) (TN (F 66)) 1).2.n))) := if_pos okA
    rw [ek, ek2] at hQ
    have rr := relW_read hR hf
    have g0 : GB 11 0 = nI 1 := (t2 0 (by decide) (by decide)).trans ((congrFun (xp_row_ne (by decide)) 0).trans ((congrFun (hf 11 (by decide)) 0).trans hR.1.1.2.2.2.1.1.1))
    have i1 : invS (upd (F 66) 9 0) := invS_tape hR.2.1 (invTape_0 upd_same) (fun j a b => upd_ne a)
    have rl : relL GB 11 1 (textS (F 66) 1 (readT (fun i => F 66 (274 + i)) (TN (F 66)) 1).2 (2 * (readT (fun i => F 66 (274 + i)) (TN (F 66)) 1).2.n)) := relL_told g0 t3 t4 ro.2 ro.1.1 (fun i hi => (t5 i hi).trans ((congrFun (xp_row_ne (by decide)) i).trans (c5 i hi)))
    have rw9 : relW GB 1 (textS (F 66) 1 (readT (fun i => F 66 (274 + i)) (TN (F 66)) 1).2 (2 * (readT (fun i => F 66 (274 + i)) (TN (F 66)) 1).2.n)) := relW_law1 rr i1 rl (fun k a b c => t1 k a b) (fun j hj => ?_)
    · exact xQi (hQ GB (mid_Ws hR (fun k a b => (t1 k (by omega) (by omega)).trans ((xp_row_ne (by omega)).trans (hf k (by omega)))) rw9)) rfl rfl
    · by_cases e9 : j = 9
      · subst e9
        exact (textS_9 _).trans upd_same.symm
      · have := ro.1.1
        exact (textS_o _ e9 (by omega)).trans (upd_ne e9).symm
  · refine V2_if_ne (tgt := 56) d_P_text_42 rfl (fun c => (by first | exact absurd c (by decide) | exact absurd (by decide) c)) (fun _ => ?_)
    refine V2_bipush (v := -10) d_P_text_45 rfl ?_
    refine V2_aload_n (i := 0) d_P_text_47 rfl rfl ?_
    refine V2_getr (a := 47) d_P_text_48 fl_P_36 (by decide) rfl (by decide) rfl ?_
    refine V2_callV [] d_P_text_51 rfl rfl lk_P_165 mo_Read_place (by decide) rfl rfl rfl (Nat.le_of_ble_eq_true rfl) (Nat.le_of_ble_eq_true rfl) ?_
    refine V2.to (l' := [some (.ref 47)]) ?_ rfl rfl rfl rfl
    refine V2_aload_n (i := 0) d_Read_place_0 rfl rfl ?_
    refine V2_get (v := GA 47 3) d_Read_place_1 fl_Read_27 (by decide) rfl (by decide) rfl rfl ?_
    refine V2_topi (fun v1 ev1 => ?_)
    refine V2_ireturn d_Read_place_4 rfl ?_
    refine V2.to (st' := [.int v1, .int (-10 : Int32)]) ?_ rfl rfl rfl rfl
    refine V2_isub d_P_text_54 ?_
    refine V2_topi (fun v2 ev2 => ?_)
    refine V2_ireturn d_P_text_55 rfl ?_
    have ek : k_text F 1 = kt F 1 := (if_neg (by decide)).trans (if_pos rfl)
    have ek2 : kt F 1 = (-10 - nI (readT (fun i => F 66 (274 + i)) (TN (F 66)) 1).2.at_, xrw F 66 (upd (F 66) 9 0)) := if_neg okA
    rw [ek, ek2] at hQ
    refine xQi (hQ (xp GA 14 1 0) (mid_Ws hR (fun k a b => (xp_row_ne (by omega)).trans (hf k (by omega))) (relW_read hR hf))) ?_ rfl
    subst ev2 ev1
    rw [show GA 47 3 = nI (readT (fun i => F 66 (274 + i)) (TN (F 66)) 1).2.at_ from p3]
theorem c_cls_text2 {L : Nat} {xs : Nat → Int32} {d : Nat} {Q : Option Value → xF → Prop} {F : xF} {u : Int32} (hR : Rel F) (hu : ¬ u = 0) (hv : ¬ u = 1) (hQ : ∀ F1, Mid F F1 (k_text F u).2 → Q (some (.int (k_text F u).1)) F1) : V2 L xs (d + 90) m_P_text 0 (xEntry [.ref 0, .int u] 3) [] F Q := by
  have q0 : (0 : Int32).toInt = 0 := by decide
  have q1 : (1 : Int32).toInt = 1 := by decide
  have q2 : (2 : Int32).toInt = 2 := by decide
  have q3 : (3 : Int32).toInt = 3 := by decide
  have q4 : (4 : Int32).toInt = 4 := by decide
  have q5 : (5 : Int32).toInt = 5 := by decide
  have q6 : (6 : Int32).toInt = 6 := by decide
  have q7 : (7 : Int32).toInt = 7 := by decide
  have q8 : (8 : Int32).toInt = 8 := by decide
  have q9 : (9 : Int32).toInt = 9 := by decide
  have q10 : (10 : Int32).toInt = 10 := by decide
  have q12 : (12 : Int32).toInt = 12 := by decide
  have q16 : (16 : Int32).toInt = 16 := by decide
  have q20 : (20 : Int32).toInt = 20 := by decide
  have q24 : (24 : Int32).toInt = 24 := by decide
  have q30 : (30 : Int32).toInt = 30 := by decide
  have q32 : (32 : Int32).toInt = 32 := by decide
  have q40 : (40 : Int32).toInt = 40 := by decide
  have q60 : (60 : Int32).toInt = 60 := by decide
  have q69 : (69 : Int32).toInt = 69 := by decide
  have q99 : (99 : Int32).toInt = 99 := by decide
  have q9999 : (9999 : Int32).toInt = 9999 := by decide
  have q274 : (274 : Int32).toInt = 274 := by decide
  have q334 : (334 : Int32).toInt = 334 := by decide
  obtain ⟨eT, hT⟩ := inv_TN hR.2.1.2.2.2.2.2.1
  refine V2.to (l' := [some (.ref 0), some (.int u), none]) ?_ rfl rfl rfl rfl
  refine V2_iload_n (i := 1) d_P_text_0 rfl rfl ?_
  refine V2_iconst (v := 0) d_P_text_1 rfl ?_
  refine V2_iconst (v := 1) d_P_text_2 rfl ?_
  refine V2_callS [.int u, .int (0 : Int32), .int (1 : Int32)] d_P_text_3 rfl rfl lk_P_133 mo_P_within (Nat.le_of_ble_eq_true rfl) (Nat.le_of_ble_eq_true rfl) ?_
  refine V2.to (l' := [some (.int u), some (.int (0 : Int32)), some (.int (1 : Int32))]) ?_ rfl rfl rfl rfl
  refine V2_iload_n (i := 0) d_P_within_0 rfl rfl ?_
  refine V2_iload_n (i := 1) d_P_within_1 rfl rfl ?_
  refine V2_icmp_lt (tgt := 14) d_P_within_2 rfl (fun c1 => ?_) (fun c1 => ?_)
  · refine V2_iconst (v := 0) d_P_within_14 rfl ?_
    refine V2_zreturn d_P_within_15 rfl (by decide) ?_
    refine V2.to (st' := [.int (0 : Int32)]) ?_ rfl rfl rfl rfl
    refine V2_if_ne (tgt := 15) d_P_text_6 rfl (fun c => (by first | exact absurd c (by decide) | exact absurd (by decide) c)) (fun _ => ?_)
    refine V2_aload_n (i := 0) d_P_text_9 rfl rfl ?_
    refine V2_iconst (v := 1) d_P_text_10 rfl ?_
    refine V2_callV [.int (1 : Int32)] d_P_text_11 rfl rfl lk_P_66 mo_P_fails (by decide) rfl rfl rfl (Nat.le_of_ble_eq_true rfl) (Nat.le_of_ble_eq_true rfl) ?_
    refine c_P_fails1 ?_
    refine V2_topi (fun v2 ev2 => ?_)
    refine V2_ireturn d_P_text_14 rfl ?_
    have e : k_text F u = (-1000000000 - 1, errF F 1) := (if_neg hu).trans (if_neg hv)
    rw [e] at hQ
    subst ev2
    exact xQi (hQ _ (mid_err hR (by decide))) rfl rfl
  · refine V2_iload_n (i := 0) d_P_within_5 rfl rfl ?_
    refine V2_iload_n (i := 2) d_P_within_6 rfl rfl ?_
    refine V2_icmp_gt (tgt := 14) d_P_within_7 rfl (fun c3 => ?_) (fun c3 => ?_)
    · refine V2_iconst (v := 0) d_P_within_14 rfl ?_
      refine V2_zreturn d_P_within_15 rfl (by decide) ?_
      refine V2.to (st' := [.int (0 : Int32)]) ?_ rfl rfl rfl rfl
      refine V2_if_ne (tgt := 15) d_P_text_6 rfl (fun c => (by first | exact absurd c (by decide) | exact absurd (by decide) c)) (fun _ => ?_)
      refine V2_aload_n (i := 0) d_P_text_9 rfl rfl ?_
      refine V2_iconst (v := 1) d_P_text_10 rfl ?_
      refine V2_callV [.int (1 : Int32)] d_P_text_11 rfl rfl lk_P_66 mo_P_fails (by decide) rfl rfl rfl (Nat.le_of_ble_eq_true rfl) (Nat.le_of_ble_eq_true rfl) ?_
      refine c_P_fails1 ?_
      refine V2_topi (fun v4 ev4 => ?_)
      refine V2_ireturn d_P_text_14 rfl ?_
      have e : k_text F u = (-1000000000 - 1, errF F 1) := (if_neg hu).trans (if_neg hv)
      rw [e] at hQ
      subst ev4
      exact xQi (hQ _ (mid_err hR (by decide))) rfl rfl
    · refine V2_iconst (v := 1) d_P_within_10 rfl ?_
      refine V2_goto (tgt := 15) d_P_within_11 rfl ?_
      refine V2_zreturn d_P_within_15 rfl (by decide) ?_
      refine V2.to (st' := [.int (1 : Int32)]) ?_ rfl rfl rfl rfl
      refine V2_if_ne (tgt := 15) d_P_text_6 rfl (fun _ => ?_) (fun c => (by first | exact absurd c (by decide) | exact absurd (by decide) c))
      refine V2_aload_n (i := 0) d_P_text_15 rfl rfl ?_
      refine V2_getr (a := 47) d_P_text_16 fl_P_36 (by decide) rfl (by decide) rfl ?_
      refine V2_aload_n (i := 0) d_P_text_19 rfl rfl ?_
      refine V2_getr (a := 1) d_P_text_20 fl_P_10 (by decide) rfl (by decide) rfl ?_
      refine V2_getr (a := 14) d_P_text_23 fl_P_144 (by decide) rfl (by decide) rfl ?_
      refine V2_iload_n (i := 1) d_P_text_26 rfl rfl ?_
      refine V2_callV [.ref 14, .int u] d_P_text_27 rfl rfl lk_P_158 mo_Read_reads (by decide) rfl rfl rfl (Nat.le_of_ble_eq_true rfl) (Nat.le_of_ble_eq_true rfl) ?_
      exfalso
      exact (by (try clear hQ); (try skip); ((try simp only [xb_eq, xb_ne, Int32.lt_iff_toInt_lt, Int32.le_iff_toInt_le] at *) <;> (try simp only [← Int32.toInt_inj, true_and, false_and, or_false, false_or, or_true, true_or, and_true, and_false] at *) <;> omega))
