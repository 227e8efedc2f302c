/-! the reference reads one, all, a text -/
theorem c_R_one_num {L : Nat} {xs : Nat → Int32} {d : Nat} {Q : Option Value → xF → Prop} {B : xF} {T : Nat → Int32} {N use o : Nat} {s : PS} {c : Int32} {fin : Nat × Int32} (hB : TPm B T N use) (hs : s.n ≤ 60) (hQ : ∀ G, MR B o ((s.to_ fin.1).add 0 fin.2) G → Q (some (.int 1)) G) : ∀ (n : Nat) (m k a : Nat) (v : Int32) (G : xF), MR B o (s.to_ a) G → a ≤ N → k + m = 4 → numT T N m a v = fin → m < n → V2 L xs (d + 1) m_R_one 46 [some (.ref 65), some (.int c), some (.int v), some (.int (nI k))] [] G Q := by
  intro n
  induction n with
  | zero => exact fun m k a v G g1 g2 g3 g4 h2 => absurd h2 (by omega)
  | succ n ih =>
    intro m k a v G g1 g2 g3 g4 h2
    have hN := hB.2.1
    have ea : (s.to_ a).at_ = a := rfl
    refine V2_iload_n (i := 3) d_R_one_46 rfl rfl ?_
    refine V2_iconst (v := 4) d_R_one_47 rfl ?_
    refine V2_icmp_ge (tgt := 94) d_R_one_48 rfl (fun c1 => ?_) (fun c1 => ?_)
    · refine V2_aload_n (i := 0) d_R_one_94 rfl rfl ?_
      refine V2_iconst (v := 0) d_R_one_95 rfl ?_
      refine V2_iload_n (i := 2) d_R_one_96 rfl rfl ?_
      refine V2_callV [.int (0 : Int32), .int v] d_R_one_97 rfl rfl lk_R_78 mo_R_step1 (by decide) rfl rfl rfl (Nat.le_of_ble_eq_true rfl) (Nat.le_of_ble_eq_true rfl) ?_
      have hf : numT T N m a v = (a, v) := by
        have hm0 : m = 0 := by
          have := (nI_leI (a := 4) (by omega) (by omega)).mp c1
          omega
        subst hm0
        rfl
      have g5 : fin = (a, v) := g4.symm.trans hf
      subst g5
      refine c_R_step1 (n := s.n) g1.2.2.2.2.1 (by omega) ?_
      refine V2_iconst (v := 1) d_R_one_100 rfl ?_
      refine V2_zreturn d_R_one_101 rfl (by decide) ?_
      exact hQ _ (mr_add 0 v g1)
    · refine V2_aload_n (i := 0) d_R_one_51 rfl rfl ?_
      refine V2_callV [] d_R_one_52 rfl rfl lk_R_74 mo_R_look (by decide) rfl rfl rfl (Nat.le_of_ble_eq_true rfl) (Nat.le_of_ble_eq_true rfl) ?_
      refine c_R_look (T := T) (N := N) (a := (s.to_ a).at_) ((congrFun (g1.1 66 (by decide) (by decide)) 9).trans hB.1) hB.2.1 (fun i hi => (congrFun (g1.1 66 (by decide) (by decide)) (274 + i)).trans (hB.2.2.1 i hi)) g1.2.2.1 (by omega) ?_
      refine V2_topi (fun v2 ev2 => ?_)
      refine V2_bipush (v := 48) d_R_one_55 rfl ?_
      refine V2_bipush (v := 57) d_R_one_57 rfl ?_
      refine V2_callS [.int v2, .int (48 : Int32), .int (57 : Int32)] d_R_one_59 rfl rfl lk_R_51 mo_R_in (Nat.le_of_ble_eq_true rfl) (Nat.le_of_ble_eq_true rfl) ?_
      refine c_R_in ?_
      refine V2_topi (fun v3 ev3 => ?_)
      refine V2_if_eq (tgt := 94) d_R_one_62 rfl (fun c4 => ?_) (fun c4 => ?_)
      · refine V2_aload_n (i := 0) d_R_one_94 rfl rfl ?_
        refine V2_iconst (v := 0) d_R_one_95 rfl ?_
        refine V2_iload_n (i := 2) d_R_one_96 rfl rfl ?_
        refine V2_callV [.int (0 : Int32), .int v] d_R_one_97 rfl rfl lk_R_78 mo_R_step1 (by decide) rfl rfl rfl (Nat.le_of_ble_eq_true rfl) (Nat.le_of_ble_eq_true rfl) ?_
        have hf : numT T N m a v = (a, v) := by
          have hk : ¬ (4 : Nat) ≤ k := fun hh => c1 ((nI_leI (a := 4) (by omega) (by omega)).mpr hh)
          obtain ⟨m1, rfl⟩ : ∃ m1, m = m1 + 1 := ⟨m - 1, by omega⟩
          unfold numT
          refine if_neg (fun hh => ?_)
          have h9 := c4
          clear hQ
          subst ev3 ev2
          rw [xb_eq] at h9
          exact h9 (dg_xb.mpr hh)
        have g5 : fin = (a, v) := g4.symm.trans hf
        subst g5
        refine c_R_step1 (n := s.n) g1.2.2.2.2.1 (by omega) ?_
        refine V2_iconst (v := 1) d_R_one_100 rfl ?_
        refine V2_zreturn d_R_one_101 rfl (by decide) ?_
        exact hQ _ (mr_add 0 v g1)
      · have hk : ¬ (4 : Nat) ≤ k := fun hh => c1 ((nI_leI (a := 4) (by omega) (by omega)).mpr hh)
        obtain ⟨m, rfl⟩ : ∃ m1, m = m1 + 1 := ⟨m - 1, by omega⟩
        have hd : dgT (sgT T N a) := by
          have h9 := c4
          clear hQ
          subst ev3 ev2
          rw [← dg_xb]
          exact Classical.byContradiction (fun hh => h9 (xb_eq.mpr hh))
        unfold numT at g4
        rw [if_pos hd] at g4
        refine V2_bipush (v := 10) d_R_one_65 rfl ?_
        refine V2_iload_n (i := 2) d_R_one_67 rfl rfl ?_
        refine V2_imul d_R_one_68 ?_
        refine V2_topi (fun v5 ev5 => ?_)
        refine V2_aload_n (i := 0) d_R_one_69 rfl rfl ?_
        refine V2_callV [] d_R_one_70 rfl rfl lk_R_74 mo_R_look (by decide) rfl rfl rfl (Nat.le_of_ble_eq_true rfl) (Nat.le_of_ble_eq_true rfl) ?_
        refine c_R_look (T := T) (N := N) (a := (s.to_ a).at_) ((congrFun (g1.1 66 (by decide) (by decide)) 9).trans hB.1) hB.2.1 (fun i hi => (congrFun (g1.1 66 (by decide) (by decide)) (274 + i)).trans (hB.2.2.1 i hi)) g1.2.2.1 (by omega) ?_
        refine V2_topi (fun v6 ev6 => ?_)
        refine V2_iadd d_R_one_73 ?_
        refine V2_topi (fun v7 ev7 => ?_)
        refine V2_bipush (v := 48) d_R_one_74 rfl ?_
        refine V2_isub d_R_one_76 ?_
        refine V2_topi (fun v8 ev8 => ?_)
        refine V2_istore_n (i := 2) (l' := [some (.ref 65), some (.int c), some (.int v8), some (.int (nI k))]) d_R_one_77 rfl (xst_i (Nat.le_of_ble_eq_true rfl) rfl rfl) ?_
        refine V2_aload_n (i := 0) d_R_one_78 rfl rfl ?_
        refine V2_dup d_R_one_79 rfl ?_
        refine V2_get (v := G 65 6) d_R_one_80 fl_R_61 (by decide) rfl (by decide) rfl rfl ?_
        refine V2_topi (fun v9 ev9 => ?_)
        refine V2_iconst (v := 1) d_R_one_83 rfl ?_
        refine V2_iadd d_R_one_84 ?_
        refine V2_topi (fun v10 ev10 => ?_)
        refine V2_put d_R_one_85 fl_R_61 (by decide) rfl (by decide) rfl ?_
        obtain ⟨v11, ev11⟩ : ∃ y : Int32, y = nI k + 1 := ⟨_, rfl⟩
        refine V2_iinc (i := 3) (v := v11) (l' := [some (.ref 65), some (.int c), some (.int v8), some (.int v11)]) d_R_one_88 rfl (by rw [ev11]; rfl) (xst_i (Nat.le_of_ble_eq_true rfl) rfl rfl) ?_
        refine V2_goto (tgt := 46) d_R_one_91 rfl ?_
        have cr9 := mr_go g1
        refine V2.to (ih m (k + 1) (a + 1) (v * 10 + sgT T N a - 48) _ cr9 (by have := dg_lt hd; omega) (by omega) ?_ (by omega)) rfl ?_ rfl ?_
        · exact g4
        · rw [ev11, nI_1]
          clear hQ
          subst ev11 ev10 ev9 ev8 ev7 ev6 ev5 ev3 ev2
          rw [Int32.mul_comm v 10]
          rfl
        · clear hQ
          subst ev11 ev10 ev9 ev8 ev7 ev6 ev5 ev3 ev2
          rfl
theorem c_R_one_0 {L : Nat} {xs : Nat → Int32} {d : Nat} {Q : Option Value → xF → Prop} {F : xF} {B : xF} {T : Nat → Int32} {N use : Nat} {s : PS} (hB : TPm B T N use) (hR : MR B 5 s F) (hK : okR use s) (ha : s.at_ ≤ N) (ho : s.n ≤ s.at_) (hQ : ∀ r1 F1, RESm B 5 (leafT T N use 0 s) r1 F1 → Q (some (.int r1)) F1) : V2 L xs (d + 1) m_R_one 0 (xEntry [.ref 65] 4) [] F Q := by
  refine V2.to (l' := [some (.ref 65), none, none, none]) ?_ rfl rfl rfl rfl
  refine V2_aload_n (i := 0) d_R_one_0 rfl rfl ?_
  refine V2_callV [] d_R_one_1 rfl rfl lk_R_74 mo_R_look (by decide) rfl rfl rfl (Nat.le_of_ble_eq_true rfl) (Nat.le_of_ble_eq_true rfl) ?_
  have hN60 := hB.2.1
  refine c_R_look (T := T) (N := N) (a := s.at_) ((congrFun (hR.1 66 (by decide) (by decide)) 9).trans hB.1) hB.2.1 (fun i hi => (congrFun (hR.1 66 (by decide) (by decide)) (274 + i)).trans (hB.2.2.1 i hi)) hR.2.2.1 (by omega) ?_
  refine V2_topi (fun v1 ev1 => ?_)
  refine V2_istore_n (i := 1) (l' := [some (.ref 65), some (.int v1), none, none]) d_R_one_4 rfl (xst_r (Nat.le_of_ble_eq_true rfl) rfl rfl) ?_
  refine V2_aload_n (i := 0) d_R_one_5 rfl rfl ?_
  refine V2_iload_n (i := 1) d_R_one_6 rfl rfl ?_
  refine V2_callV [.int v1] d_R_one_7 rfl rfl lk_R_97 mo_R_isName (by decide) rfl rfl rfl (Nat.le_of_ble_eq_true rfl) (Nat.le_of_ble_eq_true rfl) ?_
  have es9 : v1 = sgT T N s.at_ := by (try clear hQ); subst ev1; rfl
  refine c_R_isName (use := use) ((hR.2.1 9 (by decide) (by decide) (by decide)).trans hB.2.2.2.1) hB.2.2.2.2 (fun rN nm => ?_)
  rw [es9] at nm
  rcases nm with ⟨rfl, nm⟩ | ⟨rfl, nm⟩
  · refine V2_if_eq (tgt := 31) d_R_one_10 rfl (fun c => (by first | exact absurd c (by decide) | exact absurd (by decide) c)) (fun _ => ?_)
    refine V2_aload_n (i := 0) d_R_one_13 rfl rfl ?_
    refine V2_dup d_R_one_14 rfl ?_
    refine V2_get (v := F 65 6) d_R_one_15 fl_R_61 (by decide) rfl (by decide) rfl rfl ?_
    refine V2_topi (fun v2 ev2 => ?_)
    refine V2_iconst (v := 1) d_R_one_18 rfl ?_
    refine V2_iadd d_R_one_19 ?_
    refine V2_topi (fun v3 ev3 => ?_)
    refine V2_put d_R_one_20 fl_R_61 (by decide) rfl (by decide) rfl ?_
    refine V2_aload_n (i := 0) d_R_one_23 rfl rfl ?_
    refine V2_iconst (v := 1) d_R_one_24 rfl ?_
    refine V2_iload_n (i := 1) d_R_one_25 rfl rfl ?_
    refine V2_callV [.int (1 : Int32), .int v1] d_R_one_26 rfl rfl lk_R_78 mo_R_step1 (by decide) rfl rfl rfl (Nat.le_of_ble_eq_true rfl) (Nat.le_of_ble_eq_true rfl) ?_
    obtain ⟨m1, m2, m3⟩ := nm_not nm
    have lf : leafT T N use 0 s = (true, s.go.add 1 (sgT T N s.at_)) := leaf_nm m1 m2 m3 nm
    have cr8 : MR B 5 s.go (xp F 65 6 v3) := by
      clear hQ
      subst ev3 ev2 ev1
      exact mr_go hR
    have esg : v1 = sgT T N s.at_ := by
      clear hQ
      subst ev3 ev2 ev1
      rfl
    rw [esg]
    refine c_R_step1 (n := s.n) cr8.2.2.2.2.1 (by omega) ?_
    refine V2_iconst (v := 1) d_R_one_29 rfl ?_
    refine V2_zreturn d_R_one_30 rfl (by decide) ?_
    exact xQi (hQ 1 _ (Or.inl ⟨rfl, by rw [lf], by rw [lf]; exact mr_add 1 (sgT T N s.at_) cr8⟩)) rfl rfl
  · refine V2_if_eq (tgt := 31) d_R_one_10 rfl (fun _ => ?_) (fun c => (by first | exact absurd c (by decide) | exact absurd (by decide) c))
    refine V2_iload_n (i := 1) d_R_one_31 rfl rfl ?_
    refine V2_bipush (v := 48) d_R_one_32 rfl ?_
    refine V2_bipush (v := 57) d_R_one_34 rfl ?_
    refine V2_callS [.int v1, .int (48 : Int32), .int (57 : Int32)] d_R_one_36 rfl rfl lk_R_51 mo_R_in (Nat.le_of_ble_eq_true rfl) (Nat.le_of_ble_eq_true rfl) ?_
    refine c_R_in ?_
    refine V2_topi (fun v4 ev4 => ?_)
    refine V2_if_eq (tgt := 102) d_R_one_39 rfl (fun c5 => ?_) (fun c5 => ?_)
    · refine V2_iload_n (i := 1) d_R_one_102 rfl rfl ?_
      refine V2_bipush (v := 33) d_R_one_103 rfl ?_
      refine V2_icmp_ne (tgt := 142) d_R_one_105 rfl (fun c6 => ?_) (fun c6 => ?_)
      · refine V2_iload_n (i := 1) d_R_one_142 rfl rfl ?_
        refine V2_bipush (v := 40) d_R_one_143 rfl ?_
        refine V2_icmp_ne (tgt := 171) d_R_one_145 rfl (fun c7 => ?_) (fun c7 => ?_)
        · refine V2_iconst (v := 0) d_R_one_171 rfl ?_
          refine V2_zreturn d_R_one_172 rfl (by decide) ?_
          have n1 : ¬ dgT (sgT T N s.at_) := by
            have h9 := c5
            clear hQ
            subst ev4 ev1
            rw [← dg_xb]
            exact xb_eq.mp h9
          have n2 : ¬ sgT T N s.at_ = 33 := by
            have h9 := c6
            clear hQ
            subst ev4 ev1
            exact h9
          have n3 : ¬ sgT T N s.at_ = 40 := by
            have h9 := c7
            clear hQ
            subst ev4 ev1
            exact h9
          have lf : leafT T N use 0 s = (false, s) := leaf_no n1 n2 n3 nm
          exact xQi (hQ 0 F (Or.inr ⟨rfl, by rw [lf], by rw [lf]; exact mr_f hR⟩)) rfl rfl
        · refine V2_aload_n (i := 0) d_R_one_148 rfl rfl ?_
          refine V2_callV [] d_R_one_149 rfl rfl lk_R_101 mo_R_opens (by decide) rfl rfl rfl (Nat.le_of_ble_eq_true rfl) (Nat.le_of_ble_eq_true rfl) ?_
          refine c_R_opens5 hR ?_
          refine V2_if_eq (tgt := 171) d_R_one_152 rfl (fun _ => ?_) (fun c => (by first | exact absurd c (by decide) | exact absurd (by decide) c))
          refine V2_iconst (v := 0) d_R_one_171 rfl ?_
          refine V2_zreturn d_R_one_172 rfl (by decide) ?_
          have n1 : ¬ dgT (sgT T N s.at_) := by
            have h9 := c5
            clear hQ
            subst ev4 ev1
            rw [← dg_xb]
            exact xb_eq.mp h9
          have n2 : ¬ sgT T N s.at_ = 33 := by
            have h9 := c6
            clear hQ
            subst ev4 ev1
            exact h9
          have n3 : sgT T N s.at_ = 40 := by
            have h9 := c7
            clear hQ
            subst ev4 ev1
            exact h9
          have lf : leafT T N use 0 s = (false, s) := leaf_40 n1 n2 n3
          exact xQi (hQ 0 F (Or.inr ⟨rfl, by rw [lf], by rw [lf]; exact mr_f hR⟩)) rfl rfl
      · refine V2_aload_n (i := 0) d_R_one_108 rfl rfl ?_
        refine V2_callV [] d_R_one_109 rfl rfl lk_R_101 mo_R_opens (by decide) rfl rfl rfl (Nat.le_of_ble_eq_true rfl) (Nat.le_of_ble_eq_true rfl) ?_
        refine c_R_opens5 hR ?_
        refine V2_if_eq (tgt := 122) d_R_one_112 rfl (fun _ => ?_) (fun c => (by first | exact absurd c (by decide) | exact absurd (by decide) c))
        refine V2_iconst (v := 0) d_R_one_122 rfl ?_
        refine V2_zreturn d_R_one_123 rfl (by decide) ?_
        have n1 : ¬ dgT (sgT T N s.at_) := by
          have h9 := c5
          clear hQ
          subst ev4 ev1
          rw [← dg_xb]
          exact xb_eq.mp h9
        have n2 : sgT T N s.at_ = 33 := by
          have h9 := c6
          clear hQ
          subst ev4 ev1
          exact h9
        have lf : leafT T N use 0 s = (false, s) := leaf_33 n1 n2
        exact xQi (hQ 0 F (Or.inr ⟨rfl, by rw [lf], by rw [lf]; exact mr_f hR⟩)) rfl rfl
    · refine V2_iconst (v := 0) d_R_one_42 rfl ?_
      refine V2_istore_n (i := 2) (l' := [some (.ref 65), some (.int v1), some (.int (0 : Int32)), none]) d_R_one_43 rfl (xst_i (Nat.le_of_ble_eq_true rfl) rfl rfl) ?_
      refine V2_iconst (v := 0) d_R_one_44 rfl ?_
      refine V2_istore_n (i := 3) (l' := [some (.ref 65), some (.int v1), some (.int (0 : Int32)), some (.int (0 : Int32))]) d_R_one_45 rfl (xst_i (Nat.le_of_ble_eq_true rfl) rfl rfl) ?_
      have n1 : dgT (sgT T N s.at_) := by
        have h9 := c5
        clear hQ
        subst ev4 ev1
        rw [← dg_xb]
        exact Classical.byContradiction (fun hh => h9 (xb_eq.mpr hh))
      have lf : leafT T N use 0 s = (true, (s.to_ (numT T N 4 s.at_ 0).1).add 0 (numT T N 4 s.at_ 0).2) := leaf_dg n1
      exact V2.to (c_R_one_num hB (s := s) (fin := numT T N 4 s.at_ 0) (by omega) (fun G hN9 => hQ 1 G (Or.inl ⟨rfl, by rw [lf], by rw [lf]; exact hN9⟩)) 5 4 0 s.at_ 0 F hR ha rfl rfl (by omega)) rfl rfl rfl rfl
theorem c_R_one_1 {L : Nat} {xs : Nat → Int32} {d : Nat} {Q : Option Value → xF → Prop} {F : xF} {B : xF} {T : Nat → Int32} {N use o r : Nat} {s : PS} (hB : TPm B T N use) (hor : o + (r + 1) = 5) (hp1 : CKm L xs B N use (o + 1) (leafT T N use r) d m_R_one 4) (hp2 : CKm L xs B N use (o + 1) (wholeT T N (leafT T N use r)) d m_R_whole 1) (hR : MR B o s F) (hK : okR use s) (ha : s.at_ ≤ N) (ho : s.n ≤ s.at_) (hQ : ∀ r1 F1, RESm B o (leafT T N use (r + 1) s) r1 F1 → Q (some (.int r1)) F1) : V2 L xs (d + 1) m_R_one 0 (xEntry [.ref 65] 4) [] F Q := by
  refine V2.to (l' := [some (.ref 65), none, none, none]) ?_ rfl rfl rfl rfl
  refine V2_aload_n (i := 0) d_R_one_0 rfl rfl ?_
  refine V2_callV [] d_R_one_1 rfl rfl lk_R_74 mo_R_look (by decide) rfl rfl rfl (Nat.le_of_ble_eq_true rfl) (Nat.le_of_ble_eq_true rfl) ?_
  have hN60 := hB.2.1
  refine c_R_look (T := T) (N := N) (a := s.at_) ((congrFun (hR.1 66 (by decide) (by decide)) 9).trans hB.1) hB.2.1 (fun i hi => (congrFun (hR.1 66 (by decide) (by decide)) (274 + i)).trans (hB.2.2.1 i hi)) hR.2.2.1 (by omega) ?_
  refine V2_topi (fun v1 ev1 => ?_)
  refine V2_istore_n (i := 1) (l' := [some (.ref 65), some (.int v1), none, none]) d_R_one_4 rfl (xst_r (Nat.le_of_ble_eq_true rfl) rfl rfl) ?_
  refine V2_aload_n (i := 0) d_R_one_5 rfl rfl ?_
  refine V2_iload_n (i := 1) d_R_one_6 rfl rfl ?_
  refine V2_callV [.int v1] d_R_one_7 rfl rfl lk_R_97 mo_R_isName (by decide) rfl rfl rfl (Nat.le_of_ble_eq_true rfl) (Nat.le_of_ble_eq_true rfl) ?_
  have es9 : v1 = sgT T N s.at_ := by (try clear hQ); subst ev1; rfl
  refine c_R_isName (use := use) ((hR.2.1 9 (by decide) (by decide) (by decide)).trans hB.2.2.2.1) hB.2.2.2.2 (fun rN nm => ?_)
  rw [es9] at nm
  rcases nm with ⟨rfl, nm⟩ | ⟨rfl, nm⟩
  · refine V2_if_eq (tgt := 31) d_R_one_10 rfl (fun c => (by first | exact absurd c (by decide) | exact absurd (by decide) c)) (fun _ => ?_)
    refine V2_aload_n (i := 0) d_R_one_13 rfl rfl ?_
    refine V2_dup d_R_one_14 rfl ?_
    refine V2_get (v := F 65 6) d_R_one_15 fl_R_61 (by decide) rfl (by decide) rfl rfl ?_
    refine V2_topi (fun v2 ev2 => ?_)
    refine V2_iconst (v := 1) d_R_one_18 rfl ?_
    refine V2_iadd d_R_one_19 ?_
    refine V2_topi (fun v3 ev3 => ?_)
    refine V2_put d_R_one_20 fl_R_61 (by decide) rfl (by decide) rfl ?_
    refine V2_aload_n (i := 0) d_R_one_23 rfl rfl ?_
    refine V2_iconst (v := 1) d_R_one_24 rfl ?_
    refine V2_iload_n (i := 1) d_R_one_25 rfl rfl ?_
    refine V2_callV [.int (1 : Int32), .int v1] d_R_one_26 rfl rfl lk_R_78 mo_R_step1 (by decide) rfl rfl rfl (Nat.le_of_ble_eq_true rfl) (Nat.le_of_ble_eq_true rfl) ?_
    obtain ⟨m1, m2, m3⟩ := nm_not nm
    have lf : leafT T N use (r + 1) s = (true, s.go.add 1 (sgT T N s.at_)) := leaf_nm m1 m2 m3 nm
    have cr8 : MR B o s.go (xp F 65 6 v3) := by
      clear hQ
      subst ev3 ev2 ev1
      exact mr_go hR
    have esg : v1 = sgT T N s.at_ := by
      clear hQ
      subst ev3 ev2 ev1
      rfl
    rw [esg]
    refine c_R_step1 (n := s.n) cr8.2.2.2.2.1 (by omega) ?_
    refine V2_iconst (v := 1) d_R_one_29 rfl ?_
    refine V2_zreturn d_R_one_30 rfl (by decide) ?_
    exact xQi (hQ 1 _ (Or.inl ⟨rfl, by rw [lf], by rw [lf]; exact mr_add 1 (sgT T N s.at_) cr8⟩)) rfl rfl
  · refine V2_if_eq (tgt := 31) d_R_one_10 rfl (fun _ => ?_) (fun c => (by first | exact absurd c (by decide) | exact absurd (by decide) c))
    refine V2_iload_n (i := 1) d_R_one_31 rfl rfl ?_
    refine V2_bipush (v := 48) d_R_one_32 rfl ?_
    refine V2_bipush (v := 57) d_R_one_34 rfl ?_
    refine V2_callS [.int v1, .int (48 : Int32), .int (57 : Int32)] d_R_one_36 rfl rfl lk_R_51 mo_R_in (Nat.le_of_ble_eq_true rfl) (Nat.le_of_ble_eq_true rfl) ?_
    refine c_R_in ?_
    refine V2_topi (fun v4 ev4 => ?_)
    refine V2_if_eq (tgt := 102) d_R_one_39 rfl (fun c5 => ?_) (fun c5 => ?_)
    · refine V2_iload_n (i := 1) d_R_one_102 rfl rfl ?_
      refine V2_bipush (v := 33) d_R_one_103 rfl ?_
      refine V2_icmp_ne (tgt := 142) d_R_one_105 rfl (fun c6 => ?_) (fun c6 => ?_)
      · refine V2_iload_n (i := 1) d_R_one_142 rfl rfl ?_
        refine V2_bipush (v := 40) d_R_one_143 rfl ?_
        refine V2_icmp_ne (tgt := 171) d_R_one_145 rfl (fun c7 => ?_) (fun c7 => ?_)
        · refine V2_iconst (v := 0) d_R_one_171 rfl ?_
          refine V2_zreturn d_R_one_172 rfl (by decide) ?_
          have n1 : ¬ dgT (sgT T N s.at_) := by
            have h9 := c5
            clear hQ
            subst ev4 ev1
            rw [← dg_xb]
            exact xb_eq.mp h9
          have n2 : ¬ sgT T N s.at_ = 33 := by
            have h9 := c6
            clear hQ
            subst ev4 ev1
            exact h9
          have n3 : ¬ sgT T N s.at_ = 40 := by
            have h9 := c7
            clear hQ
            subst ev4 ev1
            exact h9
          have lf : leafT T N use (r + 1) s = (false, s) := leaf_no n1 n2 n3 nm
          exact xQi (hQ 0 F (Or.inr ⟨rfl, by rw [lf], by rw [lf]; exact mr_f hR⟩)) rfl rfl
        · refine V2_aload_n (i := 0) d_R_one_148 rfl rfl ?_
          refine V2_callV [] d_R_one_149 rfl rfl lk_R_101 mo_R_opens (by decide) rfl rfl rfl (Nat.le_of_ble_eq_true rfl) (Nat.le_of_ble_eq_true rfl) ?_
          refine c_R_opensL hR (by omega) (fun GO cr8 => ?_)
          refine V2_if_eq (tgt := 171) d_R_one_152 rfl (fun c => (by first | exact absurd c (by decide) | exact absurd (by decide) c)) (fun _ => ?_)
          refine V2_aload_n (i := 0) d_R_one_155 rfl rfl ?_
          refine V2_callV [] d_R_one_156 rfl rfl lk_R_104 mo_R_whole (by decide) rfl rfl rfl (Nat.le_of_ble_eq_true rfl) (Nat.le_of_ble_eq_true rfl) ?_
          have n1 : ¬ dgT (sgT T N s.at_) := by
            have h9 := c5
            clear hQ
            subst ev4 ev1
            rw [← dg_xb]
            exact xb_eq.mp h9
          have n2 : ¬ sgT T N s.at_ = 33 := by
            have h9 := c6
            clear hQ
            subst ev4 ev1
            exact h9
          have n3 : sgT T N s.at_ = 40 := by
            have h9 := c7
            clear hQ
            subst ev4 ev1
            exact h9
          have lf : leafT T N use (r + 1) s = parT T N (wholeT T N (leafT T N use r)) s := leaf_40 n1 n2 n3
          have lf0 : parT T N (wholeT T N (leafT T N use r)) s = andT (wholeT T N (leafT T N use r) s.go) (fun s1 => if sgT T N s1.at_ = 41 then (true, s1.go) else (false, s1)) := rfl
          rw [lf0] at lf
          have hlt := sg_lt n3 (by decide)
          have gg := good_whole (T := T) (N := N) (good_T (T := T) (N := N) r) s.go hK (show s.at_ + 1 ≤ N from hlt)
          have eg1 : s.go.at_ = s.at_ + 1 := rfl
          have eg2 : s.go.n = s.n := rfl
          have gA := gg.2.1
          refine hp2 _ _ s.go cr8 hK (by omega) (by omega) (fun rA GA hA => ?_)
          rcases hA with ⟨rfl, okA, crA⟩ | ⟨rfl, okA, crA⟩
          · have k9 := gg.2.2 okA
            refine V2_if_eq (tgt := 171) d_R_one_159 rfl (fun c => (by first | exact absurd c (by decide) | exact absurd (by decide) c)) (fun _ => ?_)
            refine V2_aload_n (i := 0) d_R_one_162 rfl rfl ?_
            refine V2_callV [] d_R_one_163 rfl rfl lk_R_74 mo_R_look (by decide) rfl rfl rfl (Nat.le_of_ble_eq_true rfl) (Nat.le_of_ble_eq_true rfl) ?_
            refine c_R_look (T := T) (N := N) (a := (wholeT T N (leafT T N use r) s.go).2.at_) ((congrFun (crA.1 66 (by decide) (by decide)) 9).trans hB.1) hB.2.1 (fun i hi => (congrFun (crA.1 66 (by decide) (by decide)) (274 + i)).trans (hB.2.2.1 i hi)) crA.2.2.1 (by omega) ?_
            refine V2_topi (fun v8 ev8 => ?_)
            refine V2_bipush (v := 41) d_R_one_166 rfl ?_
            refine V2_icmp_eq (tgt := 173) d_R_one_168 rfl (fun c9 => ?_) (fun c9 => ?_)
            · refine V2_aload_n (i := 0) d_R_one_173 rfl rfl ?_
              refine V2_dup d_R_one_174 rfl ?_
              refine V2_get (v := GA 65 6) d_R_one_175 fl_R_61 (by decide) rfl (by decide) rfl rfl ?_
              refine V2_topi (fun v10 ev10 => ?_)
              refine V2_iconst (v := 1) d_R_one_178 rfl ?_
              refine V2_iadd d_R_one_179 ?_
              refine V2_topi (fun v11 ev11 => ?_)
              refine V2_put d_R_one_180 fl_R_61 (by decide) rfl (by decide) rfl ?_
              refine V2_aload_n (i := 0) d_R_one_183 rfl rfl ?_
              refine V2_dup d_R_one_184 rfl ?_
              refine V2_get (v := GA 65 7) d_R_one_185 fl_R_94 (by decide) rfl (by decide) rfl rfl ?_
              refine V2_topi (fun v12 ev12 => ?_)
              refine V2_iconst (v := 1) d_R_one_188 rfl ?_
              refine V2_isub d_R_one_189 ?_
              refine V2_topi (fun v13 ev13 => ?_)
              refine V2_put d_R_one_190 fl_R_94 (by decide) rfl (by decide) rfl ?_
              refine V2_iconst (v := 1) d_R_one_193 rfl ?_
              refine V2_zreturn d_R_one_194 rfl (by decide) ?_
              have nB : sgT T N (wholeT T N (leafT T N use r) s.go).2.at_ = 41 := by
                have h9 := c9
                clear hQ
                subst ev13 ev12 ev11 ev10 ev8 ev4 ev1
                exact h9
              have lf2 : parT T N (wholeT T N (leafT T N use r)) s = (true, (wholeT T N (leafT T N use r) s.go).2.go) := (andT_t okA).trans (if_pos nB)
              rw [← lf0, lf2] at lf
              have cr9 : MR B o (wholeT T N (leafT T N use r) s.go).2.go (xp (xp GA 65 6 v11) 65 7 v13) := by
                clear hQ
                subst ev13 ev12 ev11 ev10 ev8 ev4 ev1
                exact mr_7 (mr_go crA) (by rw [crA.2.2.2.1]; exact nI_sub1 (by omega))
              exact xQi (hQ 1 _ (Or.inl ⟨rfl, by rw [lf], by rw [lf]; exact cr9⟩)) rfl rfl
            · refine V2_iconst (v := 0) d_R_one_171 rfl ?_
              refine V2_zreturn d_R_one_172 rfl (by decide) ?_
              have nB : ¬ sgT T N (wholeT T N (leafT T N use r) s.go).2.at_ = 41 := by
                have h9 := c9
                clear hQ
                subst ev8 ev4 ev1
                exact h9
              have lf2 : parT T N (wholeT T N (leafT T N use r)) s = (false, (wholeT T N (leafT T N use r) s.go).2) := (andT_t okA).trans (if_neg nB)
              rw [← lf0, lf2] at lf
              exact xQi (hQ 0 _ (Or.inr ⟨rfl, by rw [lf], by rw [lf]; exact mr_f crA⟩)) rfl rfl
          · refine V2_if_eq (tgt := 171) d_R_one_159 rfl (fun _ => ?_) (fun c => (by first | exact absurd c (by decide) | exact absurd (by decide) c))
            refine V2_iconst (v := 0) d_R_one_171 rfl ?_
            refine V2_zreturn d_R_one_172 rfl (by decide) ?_
            exact xQi (hQ 0 _ (Or.inr ⟨rfl, by rw [lf, andT_f okA]; exact okA, by rw [lf, andT_f okA]; exact crA⟩)) rfl rfl
      · refine V2_aload_n (i := 0) d_R_one_108 rfl rfl ?_
        refine V2_callV [] d_R_one_109 rfl rfl lk_R_101 mo_R_opens (by decide) rfl rfl rfl (Nat.le_of_ble_eq_true rfl) (Nat.le_of_ble_eq_true rfl) ?_
        refine c_R_opensL hR (by omega) (fun GO cr8 => ?_)
        refine V2_if_eq (tgt := 122) d_R_one_112 rfl (fun c => (by first | exact absurd c (by decide) | exact absurd (by decide) c)) (fun _ => ?_)
        refine V2_aload_n (i := 0) d_R_one_115 rfl rfl ?_
        refine V2_callV [] d_R_one_116 rfl rfl lk_R_91 mo_R_one (by decide) rfl rfl rfl (Nat.le_of_ble_eq_true rfl) (Nat.le_of_ble_eq_true rfl) ?_
        have n1 : ¬ dgT (sgT T N s.at_) := by
          have h9 := c5
          clear hQ
          subst ev4 ev1
          rw [← dg_xb]
          exact xb_eq.mp h9
        have n2 : sgT T N s.at_ = 33 := by
          have h9 := c6
          clear hQ
          subst ev4 ev1
          exact h9
        have lf : leafT T N use (r + 1) s = notT (leafT T N use r) s := leaf_33 n1 n2
        unfold notT at lf
        have hlt := sg_lt n2 (by decide)
        have gg := good_T (T := T) (N := N) r s.go hK (show s.at_ + 1 ≤ N from hlt)
        have eg1 : s.go.at_ = s.at_ + 1 := rfl
        have eg2 : s.go.n = s.n := rfl
        have gA := gg.2.1
        refine hp1 _ _ s.go cr8 hK (by omega) (by omega) (fun rA GA hA => ?_)
        rcases hA with ⟨rfl, okA, crA⟩ | ⟨rfl, okA, crA⟩
        · have k9 := gg.2.2 okA
          refine V2_if_ne (tgt := 124) d_R_one_119 rfl (fun _ => ?_) (fun c => (by first | exact absurd c (by decide) | exact absurd (by decide) c))
          refine V2_aload_n (i := 0) d_R_one_124 rfl rfl ?_
          refine V2_dup d_R_one_125 rfl ?_
          refine V2_get (v := GA 65 7) d_R_one_126 fl_R_94 (by decide) rfl (by decide) rfl rfl ?_
          refine V2_topi (fun v14 ev14 => ?_)
          refine V2_iconst (v := 1) d_R_one_129 rfl ?_
          refine V2_isub d_R_one_130 ?_
          refine V2_topi (fun v15 ev15 => ?_)
          refine V2_put d_R_one_131 fl_R_94 (by decide) rfl (by decide) rfl ?_
          refine V2_aload_n (i := 0) d_R_one_134 rfl rfl ?_
          refine V2_iconst (v := 2) d_R_one_135 rfl ?_
          refine V2_iconst (v := 0) d_R_one_136 rfl ?_
          refine V2_callV [.int (2 : Int32), .int (0 : Int32)] d_R_one_137 rfl rfl lk_R_78 mo_R_step1 (by decide) rfl rfl rfl (Nat.le_of_ble_eq_true rfl) (Nat.le_of_ble_eq_true rfl) ?_
          have cr9 : MR B o (leafT T N use r s.go).2 (xp GA 65 7 v15) := by
            clear hQ
            subst ev15 ev14 ev4 ev1
            exact mr_7 crA (by rw [crA.2.2.2.1]; exact nI_sub1 (by omega))
          refine c_R_step1 (n := (leafT T N use r s.go).2.n) cr9.2.2.2.2.1 (by omega) ?_
          refine V2_iconst (v := 1) d_R_one_140 rfl ?_
          refine V2_zreturn d_R_one_141 rfl (by decide) ?_
          exact xQi (hQ 1 _ (Or.inl ⟨rfl, by rw [lf, andT_t okA], by rw [lf, andT_t okA]; exact mr_add 2 0 cr9⟩)) rfl rfl
        · refine V2_if_ne (tgt := 124) d_R_one_119 rfl (fun c => (by first | exact absurd c (by decide) | exact absurd (by decide) c)) (fun _ => ?_)
          refine V2_iconst (v := 0) d_R_one_122 rfl ?_
          refine V2_zreturn d_R_one_123 rfl (by decide) ?_
          exact xQi (hQ 0 _ (Or.inr ⟨rfl, by rw [lf, andT_f okA]; exact okA, by rw [lf, andT_f okA]; exact crA⟩)) rfl rfl
    · refine V2_iconst (v := 0) d_R_one_42 rfl ?_
      refine V2_istore_n (i := 2) (l' := [some (.ref 65), some (.int v1), some (.int (0 : Int32)), none]) d_R_one_43 rfl (xst_i (Nat.le_of_ble_eq_true rfl) rfl rfl) ?_
      refine V2_iconst (v := 0) d_R_one_44 rfl ?_
      refine V2_istore_n (i := 3) (l' := [some (.ref 65), some (.int v1), some (.int (0 : Int32)), some (.int (0 : Int32))]) d_R_one_45 rfl (xst_i (Nat.le_of_ble_eq_true rfl) rfl rfl) ?_
      have n1 : dgT (sgT T N s.at_) := by
        have h9 := c5
        clear hQ
        subst ev4 ev1
        rw [← dg_xb]
        exact Classical.byContradiction (fun hh => h9 (xb_eq.mpr hh))
      have lf : leafT T N use (r + 1) s = (true, (s.to_ (numT T N 4 s.at_ 0).1).add 0 (numT T N 4 s.at_ 0).2) := leaf_dg n1
      exact V2.to (c_R_one_num hB (s := s) (fin := numT T N 4 s.at_ 0) (by omega) (fun G hN9 => hQ 1 G (Or.inl ⟨rfl, by rw [lf], by rw [lf]; exact hN9⟩)) 5 4 0 s.at_ 0 F hR ha rfl rfl (by omega)) rfl rfl rfl rfl
theorem cm_whole {L : Nat} {xs : Nat → Int32} {B : xF} {T : Nat → Int32} {N use o d : Nat} {p : PS → Bool × PS} (hB : TPm B T N use) (hg : goodT N use p) (hp : CKm L xs B N use o p d m_R_one 4) : CKm L xs B N use o (wholeT T N p) (d + 5) m_R_whole 1 := by
  have g4 := good_lv (T := T) (lev := 4) (most := 60) hg (by decide)
  have g3 := good_lv (T := T) (lev := 3) (most := 60) g4 (by decide)
  have g2 := good_lv (T := T) (lev := 2) (most := 1) g3 (by decide)
  have g1 := good_lv (T := T) (lev := 1) (most := 60) g2 (by decide)
  have l4 : CKm L xs B N use o _ (d + 1) m_R_product 2 := fun Q F s h1 h2 h3 h4 hQ => c_R_product hB hg hp h1 h2 h3 h4 hQ
  have l3 : CKm L xs B N use o _ (d + 2) m_R_sum 2 := fun Q F s h1 h2 h3 h4 hQ => c_R_sum (d := d + 1) hB g4 l4 h1 h2 h3 h4 hQ
  have l2 : CKm L xs B N use o _ (d + 3) m_R_compared 2 := fun Q F s h1 h2 h3 h4 hQ => c_R_compared (d := d + 2) hB g3 l3 h1 h2 h3 h4 hQ
  have l1 : CKm L xs B N use o _ (d + 4) m_R_both 1 := fun Q F s h1 h2 h3 h4 hQ => c_R_both (d := d + 3) hB g2 l2 h1 h2 h3 h4 hQ
  exact fun Q F s h1 h2 h3 h4 hQ => c_R_whole (d := d + 4) hB g1 l1 h1 h2 h3 h4 hQ
theorem cm_one {L : Nat} {xs : Nat → Int32} {B : xF} {T : Nat → Int32} {N use : Nat} (hB : TPm B T N use) : ∀ r o d, o + r = 5 → CKm L xs B N use o (leafT T N use r) (d + 1 + 6 * r) m_R_one 4 := by
  intro r
  induction r with
  | zero =>
    intro o d e Q F s h1 h2 h3 h4 hQ
    obtain rfl : o = 5 := by omega
    exact c_R_one_0 hB h1 h2 h3 h4 hQ
  | succ r ih =>
    intro o d e
    have a1 : CKm L xs B N use (o + 1) (leafT T N use r) (d + 6 + 6 * r) m_R_one 4 := by
      have := ih (o + 1) (d + 5) (by omega)
      rwa [show d + 5 + 1 + 6 * r = d + 6 + 6 * r from by omega] at this
    have a2 : CKm L xs B N use (o + 1) (wholeT T N (leafT T N use r)) (d + 6 + 6 * r) m_R_whole 1 := by
      have := cm_whole hB (good_T r) (ih (o + 1) d (by omega))
      rwa [show d + 1 + 6 * r + 5 = d + 6 + 6 * r from by omega] at this
    rw [show d + 1 + 6 * (r + 1) = d + 6 + 6 * r + 1 from by omega]
    exact fun Q F s h1 h2 h3 h4 hQ => c_R_one_1 hB e a1 a2 h1 h2 h3 h4 hQ
theorem c_R_go {L : Nat} {xs : Nat → Int32} {d : Nat} {Q : Option Value → xF → Prop} {F : xF} {T : Nat → Int32} {N use : Nat} (hN : N ≤ 60) (hu : use ≤ 1) (h9 : F 66 9 = nI N) (hT : ∀ i, i < N → F 66 (274 + i) = T i) (h2 : F 65 9 = nI use) (h6 : F 65 6 = nI 0) (h7 : F 65 7 = nI 0) (h8 : F 65 8 = nI 0) (hQ : ∀ r F1, RESm F 0 (readT T N use) r F1 → Q (some (.int r)) F1) : V2 L xs (d + 36) m_R_whole 0 (xEntry [.ref 65] 1) [] F Q := by
  have hB : TPm F T N use := ⟨h9, hN, hT, h2, hu⟩
  have hp := cm_one (L := L) (xs := xs) hB 5 0 d rfl
  have hw := cm_whole hB (good_T 5) hp
  rw [show d + 1 + 6 * 5 + 5 = d + 36 from by omega] at hw
  exact hw Q F ps0 ⟨fun a _ _ => rfl, fun j _ _ _ => rfl, h6, h7, h8, fun i hi => absurd (show i < 0 from hi) (Nat.not_lt_zero i)⟩ (ok_ps0 use) (Nat.zero_le N) (Nat.le_refl 0) hQ
theorem rel_65 {F G : xF} (h : Rel F) (h1 : ∀ a, ¬ a = 65 → ¬ a = 70 → G a = F a) (h2 : ∀ j, j < 6 ∨ 9 < j → G 65 j = F 65 j) : Rel G := by
  have hc := relC_cl h.1 (F' := G) (fun k hk => h1 k (by omega) (by omega))
  refine ⟨?_, ?_⟩
  · have e66 := h1 66 (by decide) (by decide)
    have e67 := h1 67 (by decide) (by decide)
    have e69 := h1 69 (by decide) (by decide)
    have e73 := h1 73 (by decide) (by decide)
    have e74 := h1 74 (by decide) (by decide)
    have e75 := h1 75 (by decide) (by decide)
    have e76 := h1 76 (by decide) (by decide)
    have e3 := h2 3 (by decide)
    have e15 := h2 15 (by decide)
    unfold relC relSheet at hc ⊢
    rw [e66, e67, e69, e73, e74, e75, e76, e3, e15]
    exact hc
  · have hi := h.2
    unfold invM invSheet at hi ⊢
    rw [h1 66 (by decide) (by decide), h1 67 (by decide) (by decide), h1 74 (by decide) (by decide), h1 75 (by decide) (by decide), h2 3 (by decide), h2 5 (by decide), h2 15 (by decide)]
    exact hi
theorem row_step {F : xF} {x : PS} (h : ∀ i, i < x.n → F 70 (2 * i) = x.wh i ∧ F 70 (2 * i + 1) = x.vl i) {k : Nat} (hk : k < 2 * x.n) : F 70 k = stepRow x k := by
  unfold stepRow
  by_cases e : k % 2 = 0
  · rw [if_pos e]
    have := (h (k / 2) (by omega)).1
    rwa [show 2 * (k / 2) = k from by omega] at this
  · rw [if_neg e]
    have := (h (k / 2) (by omega)).2
    rwa [show 2 * (k / 2) + 1 = k from by omega] at this
theorem c_R_text_0_loop {L : Nat} {xs : Nat → Int32} {d : Nat} {Q : Option Value → xF → Prop} {F : xF} {S : Nat → Int32} {x : PS} (hx : x.n ≤ 60) (h8 : F 65 8 = nI x.n) (h70 : ∀ i, i < x.n → F 70 (2 * i) = x.wh i ∧ F 70 (2 * i + 1) = x.vl i) (hQ : Q (some (.int 1)) (xrw F 66 (textS S 0 x (2 * x.n)))) : ∀ (n : Nat) (k : Nat), k ≤ 2 * x.n → 2 * x.n < n + k → V2 L xs (d + 7) m_R_text 103 [some (.ref 65), some (.int (0 : Int32)), some (.int (1 : Int32)), some (.int (24 : Int32)), some (.int (nI k))] [] (xrw F 66 (textS S 0 x k)) Q := by
  intro n
  induction n with
  | zero => exact fun k h1 h2 => absurd h2 (by omega)
  | succ n ih =>
    intro k h1 h2
    refine V2_iload (i := 4) d_R_text_103 rfl ?_
    refine V2_iconst (v := 2) d_R_text_105 rfl ?_
    refine V2_aload_n (i := 0) d_R_text_106 rfl rfl ?_
    refine V2_get (v := xrw F 66 (textS S 0 x k) 65 8) d_R_text_107 fl_R_67 (by decide) rfl (by decide) rfl rfl ?_
    refine V2_topi (fun v1 ev1 => ?_)
    refine V2_imul d_R_text_110 ?_
    refine V2_topi (fun v2 ev2 => ?_)
    refine V2_icmp_ge (tgt := 138) d_R_text_111 rfl (fun c3 => ?_) (fun c3 => ?_)
    · refine V2_iconst (v := 1) d_R_text_138 rfl ?_
      refine V2_ireturn d_R_text_139 rfl ?_
      have hk : k = 2 * x.n := by
        have h9 := c3
        clear hQ
        subst ev2 ev1
        rw [show (xrw F 66 (textS S 0 x k)) 65 8 = nI x.n from h8, mul2 (by omega)] at h9
        exact Nat.le_antisymm h1 ((nI_leI (by omega) (by omega)).mp h9)
      subst hk
      exact xQi hQ rfl rfl
    · have hk : k < 2 * x.n := by
        have h9 := c3
        clear hQ
        subst ev2 ev1
        rw [show (xrw F 66 (textS S 0 x k)) 65 8 = nI x.n from h8, mul2 (by omega)] at h9
        exact Nat.not_le.mp (fun hh => h9 ((nI_leI (by omega) (by omega)).mpr hh))
      refine V2_aload_n (i := 0) d_R_text_114 rfl rfl ?_
      refine V2_getr (a := 66) d_R_text_115 fl_R_7 (by decide) rfl (by decide) rfl ?_
      refine V2_iload_n (i := 3) d_R_text_118 rfl rfl ?_
      refine V2_iconst (v := 1) d_R_text_119 rfl ?_
      refine V2_iadd d_R_text_120 ?_
      refine V2_lit (v := 25) (by decide) ?_
      refine V2_iload (i := 4) d_R_text_121 rfl ?_
      refine V2_iadd d_R_text_123 ?_
      refine V2_topi (fun v4 ev4 => ?_)
      refine V2_aload_n (i := 0) d_R_text_124 rfl rfl ?_
      refine V2_getr (a := 70) d_R_text_125 fl_R_26 (by decide) rfl (by decide) rfl ?_
      refine V2_iload (i := 4) d_R_text_128 rfl ?_
      refine V2_ialoadJ (v := xrw F 66 (textS S 0 x k) 70 (k)) (k) d_R_text_130 (by decide) rfl (xixA (n := k) rfl (by omega) (by decide)) (xixB (n := k) rfl (by omega)) rfl ?_
      refine V2_topi (fun v5 ev5 => ?_)
      refine V2_iastore (j := (25 + k)) d_R_text_131 (by decide) rfl (xixA (n := 25 + k) (by (try clear hQ); subst ev5 ev4 ev2 ev1; simp only [nI, Int32.ofNat_add]; rfl) (by omega) (by decide)) (xixB (n := 25 + k) (by (try clear hQ); subst ev5 ev4 ev2 ev1; simp only [nI, Int32.ofNat_add]; rfl) (by omega)) ?_
      obtain ⟨v6, ev6⟩ : ∃ y : Int32, y = nI k + 1 := ⟨_, rfl⟩
      refine V2_iinc (i := 4) (v := v6) (l' := [some (.ref 65), some (.int (0 : Int32)), some (.int (1 : Int32)), some (.int (24 : Int32)), some (.int v6)]) d_R_text_132 rfl (by rw [ev6]; rfl) (xst_i (Nat.le_of_ble_eq_true rfl) rfl rfl) ?_
      refine V2_goto (tgt := 103) d_R_text_135 rfl ?_
      refine V2.to (ih (k + 1) (by omega) (by omega)) rfl (by rw [ev6, nI_1]) rfl ?_
      clear hQ
      subst ev6 ev5 ev4 ev2 ev1
      rw [xp_xrw, show (xrw F 66 (textS S 0 x k)) 70 k = stepRow x k from row_step h70 hk]
      rfl
theorem c_R_text_1_loop {L : Nat} {xs : Nat → Int32} {d : Nat} {Q : Option Value → xF → Prop} {F : xF} {S : Nat → Int32} {x : PS} (hx : x.n ≤ 60) (h8 : F 65 8 = nI x.n) (h70 : ∀ i, i < x.n → F 70 (2 * i) = x.wh i ∧ F 70 (2 * i + 1) = x.vl i) (hQ : Q (some (.int 1)) (xrw F 66 (textS S 1 x (2 * x.n)))) : ∀ (n : Nat) (k : Nat), k ≤ 2 * x.n → 2 * x.n < n + k → V2 L xs (d + 7) m_R_text 103 [some (.ref 65), some (.int (1 : Int32)), some (.int (1 : Int32)), some (.int (149 : Int32)), some (.int (nI k))] [] (xrw F 66 (textS S 1 x k)) Q := by
  intro n
  induction n with
  | zero => exact fun k h1 h2 => absurd h2 (by omega)
  | succ n ih =>
    intro k h1 h2
    refine V2_iload (i := 4) d_R_text_103 rfl ?_
    refine V2_iconst (v := 2) d_R_text_105 rfl ?_
    refine V2_aload_n (i := 0) d_R_text_106 rfl rfl ?_
    refine V2_get (v := xrw F 66 (textS S 1 x k) 65 8) d_R_text_107 fl_R_67 (by decide) rfl (by decide) rfl rfl ?_
    refine V2_topi (fun v1 ev1 => ?_)
    refine V2_imul d_R_text_110 ?_
    refine V2_topi (fun v2 ev2 => ?_)
    refine V2_icmp_ge (tgt := 138) d_R_text_111 rfl (fun c3 => ?_) (fun c3 => ?_)
    · refine V2_iconst (v := 1) d_R_text_138 rfl ?_
      refine V2_ireturn d_R_text_139 rfl ?_
      have hk : k = 2 * x.n := by
        have h9 := c3
        clear hQ
        subst ev2 ev1
        rw [show (xrw F 66 (textS S 1 x k)) 65 8 = nI x.n from h8, mul2 (by omega)] at h9
        exact Nat.le_antisymm h1 ((nI_leI (by omega) (by omega)).mp h9)
      subst hk
      exact xQi hQ rfl rfl
    · have hk : k < 2 * x.n := by
        have h9 := c3
        clear hQ
        subst ev2 ev1
        rw [show (xrw F 66 (textS S 1 x k)) 65 8 = nI x.n from h8, mul2 (by omega)] at h9
        exact Nat.not_le.mp (fun hh => h9 ((nI_leI (by omega) (by omega)).mpr hh))
      refine V2_aload_n (i := 0) d_R_text_114 rfl rfl ?_
      refine V2_getr (a := 66) d_R_text_115 fl_R_7 (by decide) rfl (by decide) rfl ?_
      refine V2_iload_n (i := 3) d_R_text_118 rfl rfl ?_
      refine V2_iconst (v := 1) d_R_text_119 rfl ?_
      refine V2_iadd d_R_text_120 ?_
      refine V2_lit (v := 150) (by decide) ?_
      refine V2_iload (i := 4) d_R_text_121 rfl ?_
      refine V2_iadd d_R_text_123 ?_
      refine V2_topi (fun v4 ev4 => ?_)
      refine V2_aload_n (i := 0) d_R_text_124 rfl rfl ?_
      refine V2_getr (a := 70) d_R_text_125 fl_R_26 (by decide) rfl (by decide) rfl ?_
      refine V2_iload (i := 4) d_R_text_128 rfl ?_
      refine V2_ialoadJ (v := xrw F 66 (textS S 1 x k) 70 (k)) (k) d_R_text_130 (by decide) rfl (xixA (n := k) rfl (by omega) (by decide)) (xixB (n := k) rfl (by omega)) rfl ?_
      refine V2_topi (fun v5 ev5 => ?_)
      refine V2_iastore (j := (150 + k)) d_R_text_131 (by decide) rfl (xixA (n := 150 + k) (by (try clear hQ); subst ev5 ev4 ev2 ev1; simp only [nI, Int32.ofNat_add]; rfl) (by omega) (by decide)) (xixB (n := 150 + k) (by (try clear hQ); subst ev5 ev4 ev2 ev1; simp only [nI, Int32.ofNat_add]; rfl) (by omega)) ?_
      obtain ⟨v6, ev6⟩ : ∃ y : Int32, y = nI k + 1 := ⟨_, rfl⟩
      refine V2_iinc (i := 4) (v := v6) (l' := [some (.ref 65), some (.int (1 : Int32)), some (.int (1 : Int32)), some (.int (149 : Int32)), some (.int v6)]) d_R_text_132 rfl (by rw [ev6]; rfl) (xst_i (Nat.le_of_ble_eq_true rfl) rfl rfl) ?_
      refine V2_goto (tgt := 103) d_R_text_135 rfl ?_
      refine V2.to (ih (k + 1) (by omega) (by omega)) rfl (by rw [ev6, nI_1]) rfl ?_
      clear hQ
      subst ev6 ev5 ev4 ev2 ev1
      rw [xp_xrw, show (xrw F 66 (textS S 1 x k)) 70 k = stepRow x k from row_step h70 hk]
      rfl
theorem c_mod_text0 {L : Nat} {xs : Nat → Int32} {d : Nat} {Q : Option Value → xF → Prop} {F : xF}  {F0 : xF} (hR : Rel F0) (hM : Mid F0 F (k_text F0 0).2) (hQ : ∀ F2, Rel F2 → Q (some (.int (k_text F0 0).1)) F2) : V2 L xs (d + 38) m_R_text 0 (xEntry [.ref 65, .int (0 : Int32)] 5) [] F Q := by
  have q0 : (0 : Int32).toInt = 0 := by decide
  have q1 : (1 : Int32).toInt = 1 := by decide
  have q2 : (2 : Int32).toInt = 2 := by decide
  have q3 : (3 : Int32).toInt = 3 := by decide
  have q4 : (4 : Int32).toInt = 4 := by decide
  have q5 : (5 : Int32).toInt = 5 := by decide
  have q6 : (6 : Int32).toInt = 6 := by decide
  have q7 : (7 : Int32).toInt = 7 := by decide
  have q8 : (8 : Int32).toInt = 8 := by decide
  have q9 : (9 : Int32).toInt = 9 := by decide
  have q10 : (10 : Int32).toInt = 10 := by decide
  have q12 : (12 : Int32).toInt = 12 := by decide
  have q16 : (16 : Int32).toInt = 16 := by decide
  have q20 : (20 : Int32).toInt = 20 := by decide
  have q24 : (24 : Int32).toInt = 24 := by decide
  have q30 : (30 : Int32).toInt = 30 := by decide
  have q32 : (32 : Int32).toInt = 32 := by decide
  have q40 : (40 : Int32).toInt = 40 := by decide
  have q60 : (60 : Int32).toInt = 60 := by decide
  have q69 : (69 : Int32).toInt = 69 := by decide
  have q99 : (99 : Int32).toInt = 99 := by decide
  have q9999 : (9999 : Int32).toInt = 9999 := by decide
  have q274 : (274 : Int32).toInt = 274 := by decide
  have q334 : (334 : Int32).toInt = 334 := by decide
  obtain ⟨eT, hT⟩ := inv_TN hR.2.1.2.2.2.2.2.1
  have e66 : F 66 = F0 66 := hM.1 66 (by decide)
  have e66b : F 66 9 = F0 66 9 := congrFun e66 9
  refine V2.to (l' := [some (.ref 65), some (.int (0 : Int32)), none, none, none]) ?_ rfl rfl rfl rfl
  refine V2_iload_n (i := 1) d_R_text_0 rfl rfl ?_
  refine V2_iconst (v := 0) d_R_text_1 rfl ?_
  refine V2_iconst (v := 1) d_R_text_2 rfl ?_
  refine V2_callS [.int (0 : Int32), .int (0 : Int32), .int (1 : Int32)] d_R_text_3 rfl rfl lk_R_51 mo_R_in (Nat.le_of_ble_eq_true rfl) (Nat.le_of_ble_eq_true rfl) ?_
  refine c_R_in ?_
  refine V2_topi (fun v1 ev1 => ?_)
  refine V2_if_ne (tgt := 15) d_R_text_6 rfl (fun c2 => ?_) (fun c2 => ?_)
  · refine V2_aload_n (i := 0) d_R_text_15 rfl rfl ?_
    refine V2_iload_n (i := 1) d_R_text_16 rfl rfl ?_
    refine V2_put d_R_text_17 fl_R_64 (by decide) rfl (by decide) rfl ?_
    refine V2_aload_n (i := 0) d_R_text_20 rfl rfl ?_
    refine V2_iconst (v := 0) d_R_text_21 rfl ?_
    refine V2_put d_R_text_22 fl_R_61 (by decide) rfl (by decide) rfl ?_
    refine V2_aload_n (i := 0) d_R_text_25 rfl rfl ?_
    refine V2_iconst (v := 0) d_R_text_26 rfl ?_
    refine V2_put d_R_text_27 fl_R_94 (by decide) rfl (by decide) rfl ?_
    refine V2_aload_n (i := 0) d_R_text_30 rfl rfl ?_
    refine V2_iconst (v := 0) d_R_text_31 rfl ?_
    refine V2_put d_R_text_32 fl_R_67 (by decide) rfl (by decide) rfl ?_
    refine V2_aload_n (i := 0) d_R_text_35 rfl rfl ?_
    refine V2_callV [] d_R_text_36 rfl rfl lk_R_104 mo_R_whole (by decide) rfl rfl rfl (Nat.le_of_ble_eq_true rfl) (Nat.le_of_ble_eq_true rfl) ?_
    refine c_R_go (T := fun i => F0 66 (274 + i)) (N := TN (F0 66)) (use := 0) hT (by decide) (e66b.trans eT) (fun i hi => congrFun e66 (274 + i)) rfl rfl rfl rfl (fun rA GA hA => ?_)
    rcases hA with ⟨rfl, okA, crA⟩ | ⟨rfl, okA, crA⟩
    · have f1 := crA.1
      have f65 := crA.2.1
      have fb : ∀ a, ¬ a = 65 → (xp (xp (xp (xp F 65 9 0) 65 6 0) 65 7 0) 65 8 0) a = F a := fun a x => (xp_row_ne x).trans ((xp_row_ne x).trans ((xp_row_ne x).trans (xp_row_ne x)))
      have fb65 : ∀ j, j < 6 ∨ 9 < j → (xp (xp (xp (xp F 65 9 0) 65 6 0) 65 7 0) 65 8 0) 65 j = F 65 j := fun j hj => (xp_ne (Or.inr (by omega))).trans ((xp_ne (Or.inr (by omega))).trans ((xp_ne (Or.inr (by omega))).trans (xp_ne (Or.inr (by omega)))))
      have t9 : GA 66 9 = nI (TN (F0 66)) := (congrFun (f1 66 (by decide) (by decide)) 9).trans ((congrFun (fb 66 (by decide)) 9).trans (e66b.trans eT))
      refine V2_if_eq (tgt := 60) d_R_text_39 rfl (fun c => (by first | exact absurd c (by decide) | exact absurd (by decide) c)) (fun _ => ?_)
      refine V2_aload_n (i := 0) d_R_text_42 rfl rfl ?_
      refine V2_get (v := GA 65 6) d_R_text_43 fl_R_61 (by decide) rfl (by decide) rfl rfl ?_
      refine V2_topi (fun v3 ev3 => ?_)
      refine V2_aload_n (i := 0) d_R_text_46 rfl rfl ?_
      refine V2_getr (a := 66) d_R_text_47 fl_R_7 (by decide) rfl (by decide) rfl ?_
      refine V2_bipush (v := 9) d_R_text_50 rfl ?_
      refine V2_iaload (v := GA 66 9) d_R_text_52 (by decide) rfl (xixA (n := 9) rfl (by decide) (by decide)) rfl ?_
      refine V2_topi (fun v4 ev4 => ?_)
      refine V2_icmp_ne (tgt := 60) d_R_text_53 rfl (fun c5 => ?_) (fun c5 => ?_)
      · refine V2_iconst (v := 0) d_R_text_60 rfl ?_
        refine V2_istore_n (i := 2) (l' := [some (.ref 65), some (.int (0 : Int32)), some (.int (0 : Int32)), none, none]) d_R_text_61 rfl (xst_i (Nat.le_of_ble_eq_true rfl) rfl rfl) ?_
        refine V2_aload_n (i := 0) d_R_text_62 rfl rfl ?_
        refine V2_getr (a := 66) d_R_text_63 fl_R_7 (by decide) rfl (by decide) rfl ?_
        refine V2_bipush (v := 9) d_R_text_66 rfl ?_
        refine V2_iconst (v := 0) d_R_text_68 rfl ?_
        refine V2_iastore (j := 9) d_R_text_69 (by decide) rfl (xixA (n := 9) rfl (by decide) (by decide)) rfl ?_
        refine V2_iload_n (i := 2) d_R_text_70 rfl rfl ?_
        refine V2_if_ne (tgt := 82) d_R_text_71 rfl (fun c => (by first | exact absurd c (by decide) | exact absurd (by decide) c)) (fun _ => ?_)
        refine V2_bipush (v := -10) d_R_text_74 rfl ?_
        refine V2_aload_n (i := 0) d_R_text_76 rfl rfl ?_
        refine V2_get (v := GA 65 6) d_R_text_77 fl_R_61 (by decide) rfl (by decide) rfl rfl ?_
        refine V2_topi (fun v6 ev6 => ?_)
        refine V2_isub d_R_text_80 ?_
        refine V2_topi (fun v7 ev7 => ?_)
        refine V2_ireturn d_R_text_81 rfl ?_
        have c6 := crA.2.2.1
        have nf : ¬ fullT (fun i => F0 66 (274 + i)) (TN (F0 66)) 0 := by
          intro h8
          have h9 := c5
          clear hQ
          subst ev7 ev6 ev4 ev3 ev1
          rw [show GA 65 6 = nI (readT (fun i => F0 66 (274 + i)) (TN (F0 66)) 0).2.at_ from c6, show GA 66 9 = nI (TN (F0 66)) from t9] at h9
          exact h9 (congrArg nI h8.2)
        have ek : k_text F0 0 = kt F0 0 := if_pos rfl
        have ek2 : kt F0 0 = (-10 - nI (readT (fun i => F0 66 (274 + i)) (TN (F0 66)) 0).2.at_, xrw F0 66 (upd (F0 66) 9 0)) := if_neg nf
        rw [ek, ek2] at hQ hM
        have hrel := rel_W hR hM (invS_tape hR.2.1 (invTape_0 upd_same) (fun j a b => upd_ne a))
        refine xQi (hQ (xp GA 66 9 0) (rel_65 hrel (fun a x y => ?_) (fun j hj => (congrFun (xp_row_ne (by decide)) j).trans ((f65 j (by omega) (by omega) (by omega)).trans (fb65 j hj))))) ?_ rfl
        · by_cases e9 : a = 66
          · subst e9
            rw [xrw_same, xp_row, xrw_same, f1 66 x y, fb 66 x, e66]
          · rw [xp_row_ne e9, xrw_ne e9, f1 a x y, fb a x]
        · clear hQ
          subst ev7 ev6 ev4 ev3 ev1
          rw [show GA 65 6 = nI (readT (fun i => F0 66 (274 + i)) (TN (F0 66)) 0).2.at_ from c6]
      · refine V2_iconst (v := 1) d_R_text_56 rfl ?_
        refine V2_goto (tgt := 61) d_R_text_57 rfl ?_
        refine V2_istore_n (i := 2) (l' := [some (.ref 65), some (.int (0 : Int32)), some (.int (1 : Int32)), none, none]) d_R_text_61 rfl (xst_i (Nat.le_of_ble_eq_true rfl) rfl rfl) ?_
        refine V2_aload_n (i := 0) d_R_text_62 rfl rfl ?_
        refine V2_getr (a := 66) d_R_text_63 fl_R_7 (by decide) rfl (by decide) rfl ?_
        refine V2_bipush (v := 9) d_R_text_66 rfl ?_
        refine V2_iconst (v := 0) d_R_text_68 rfl ?_
        refine V2_iastore (j := 9) d_R_text_69 (by decide) rfl (xixA (n := 9) rfl (by decide) (by decide)) rfl ?_
        refine V2_iload_n (i := 2) d_R_text_70 rfl rfl ?_
        refine V2_if_ne (tgt := 82) d_R_text_71 rfl (fun _ => ?_) (fun c => (by first | exact absurd c (by decide) | exact absurd (by decide) c))
        refine V2_bipush (v := 24) d_R_text_82 rfl ?_
        refine V2_bipush (v := 125) d_R_text_84 rfl ?_
        refine V2_iload_n (i := 1) d_R_text_86 rfl rfl ?_
        refine V2_imul d_R_text_87 ?_
        refine V2_lit (v := 0) (by decide) ?_
        refine V2_iadd d_R_text_88 ?_
        refine V2_lit (v := 24) (by decide) ?_
        refine V2_istore_n (i := 3) (l' := [some (.ref 65), some (.int (0 : Int32)), some (.int (1 : Int32)), some (.int (24 : Int32)), none]) d_R_text_89 rfl (xst_i (Nat.le_of_ble_eq_true rfl) rfl rfl) ?_
        refine V2_aload_n (i := 0) d_R_text_90 rfl rfl ?_
        refine V2_getr (a := 66) d_R_text_91 fl_R_7 (by decide) rfl (by decide) rfl ?_
        refine V2_iload_n (i := 3) d_R_text_94 rfl rfl ?_
        refine V2_aload_n (i := 0) d_R_text_95 rfl rfl ?_
        refine V2_get (v := GA 65 8) d_R_text_96 fl_R_67 (by decide) rfl (by decide) rfl rfl ?_
        refine V2_topi (fun v8 ev8 => ?_)
        refine V2_iastore (j := 24) d_R_text_99 (by decide) rfl (xixA (n := 24) rfl (by decide) (by decide)) rfl ?_
        refine V2_iconst (v := 0) d_R_text_100 rfl ?_
        refine V2_istore (i := 4) (l' := [some (.ref 65), some (.int (0 : Int32)), some (.int (1 : Int32)), some (.int (24 : Int32)), some (.int (0 : Int32))]) d_R_text_101 (xst_i (Nat.le_of_ble_eq_true rfl) rfl rfl) ?_
        have c6 := crA.2.2.1
        have h8 : (readT (fun i => F0 66 (274 + i)) (TN (F0 66)) 0).2.at_ = TN (F0 66) := by
          have h9 := c5
          clear hQ
          subst ev8 ev4 ev3 ev1
          rw [show GA 65 6 = nI (readT (fun i => F0 66 (274 + i)) (TN (F0 66)) 0).2.at_ from c6, show GA 66 9 = nI (TN (F0 66)) from t9] at h9
          have r1 := read_in (T := fun i => F0 66 (274 + i)) (N := TN (F0 66)) (use := 0)
          have q1 := nI_toInt (n := (readT (fun i => F0 66 (274 + i)) (TN (F0 66)) 0).2.at_) (by omega)
          have q2 := nI_toInt (n := TN (F0 66)) (by omega)
          rw [h9] at q1
          omega
        have fu : fullT (fun i => F0 66 (274 + i)) (TN (F0 66)) 0 := ⟨okA, h8⟩
        have ro := read_ok fu hT
        have ek : k_text F0 0 = kt F0 0 := if_pos rfl
        have ek2 : kt F0 0 = (1, xrw F0 66 (textS (F0 66) 0 (readT (fun i => F0 66 (274 + i)) (TN (F0 66)) 0).2 (2 * (readT (fun i => F0 66 (274 + i)) (TN (F0 66)) 0).2.n))) := if_pos fu
        rw [ek, ek2] at hQ hM
        have e6 : GA 66 = F0 66 := (f1 66 (by decide) (by decide)).trans ((fb 66 (by decide)).trans e66)
        have hrel := rel_W hR hM (invS_law0 (invS_tape hR.2.1 (invTape_0 upd_same) (fun j a b => upd_ne a) : invS (upd (F0 66) 9 0)) (okT_text ro.1) (fun j hj => ?_))
        · refine V2.to (c_R_text_0_loop (F := GA) (S := F0 66) (x := (readT (fun i => F0 66 (274 + i)) (TN (F0 66)) 0).2) ro.1.1 crA.2.2.2.2.1 crA.2.2.2.2.2 (hQ _ (rel_65 hrel (fun a x y => ?_) (fun j hj => (congrFun (xrw_ne (by decide)) j).trans ((f65 j (by omega) (by omega) (by omega)).trans (fb65 j hj))))) (2 * (readT (fun i => F0 66 (274 + i)) (TN (F0 66)) 0).2.n + 1) 0 (Nat.zero_le _) (by omega)) rfl rfl rfl ?_
          · by_cases e9 : a = 66
            · subst e9
              rw [xrw_same, xrw_same]
            · rw [xrw_ne e9, xrw_ne e9, f1 a x y, fb a x]
          · have ew : v8 = nI (readT (fun i => F0 66 (274 + i)) (TN (F0 66)) 0).2.n := by
              clear hQ
              subst ev8 ev4 ev3 ev1
              exact crA.2.2.2.2.1
            rw [ew, xp_row GA 66 9, xp_xrw, e6]
            rfl
        · by_cases e9 : j = 9
          · subst e9
            exact (textS_9 _).trans upd_same.symm
          · have := ro.1.1
            exact (textS_o _ e9 (by omega)).trans (upd_ne e9).symm
    · have f1 := crA.1
      have f65 := crA.2.1
      have fb : ∀ a, ¬ a = 65 → (xp (xp (xp (xp F 65 9 0) 65 6 0) 65 7 0) 65 8 0) a = F a := fun a x => (xp_row_ne x).trans ((xp_row_ne x).trans ((xp_row_ne x).trans (xp_row_ne x)))
      have fb65 : ∀ j, j < 6 ∨ 9 < j → (xp (xp (xp (xp F 65 9 0) 65 6 0) 65 7 0) 65 8 0) 65 j = F 65 j := fun j hj => (xp_ne (Or.inr (by omega))).trans ((xp_ne (Or.inr (by omega))).trans ((xp_ne (Or.inr (by omega))).trans (xp_ne (Or.inr (by omega)))))
      have t9 : GA 66 9 = nI (TN (F0 66)) := (congrFun (f1 66 (by decide) (by decide)) 9).trans ((congrFun (fb 66 (by decide)) 9).trans (e66b.trans eT))
      refine V2_if_eq (tgt := 60) d_R_text_39 rfl (fun _ => ?_) (fun c => (by first | exact absurd c (by decide) | exact absurd (by decide) c))
      refine V2_iconst (v := 0) d_R_text_60 rfl ?_
      refine V2_istore_n (i := 2) (l' := [some (.ref 65), some (.int (0 : Int32)), some (.int (0 : Int32)), none, none]) d_R_text_61 rfl (xst_i (Nat.le_of_ble_eq_true rfl) rfl rfl) ?_
      refine V2_aload_n (i := 0) d_R_text_62 rfl rfl ?_
      refine V2_getr (a := 66) d_R_text_63 fl_R_7 (by decide) rfl (by decide) rfl ?_
      refine V2_bipush (v := 9) d_R_text_66 rfl ?_
      refine V2_iconst (v := 0) d_R_text_68 rfl ?_
      refine V2_iastore (j := 9) d_R_text_69 (by decide) rfl (xixA (n := 9) rfl (by decide) (by decide)) rfl ?_
      refine V2_iload_n (i := 2) d_R_text_70 rfl rfl ?_
      refine V2_if_ne (tgt := 82) d_R_text_71 rfl (fun c => (by first | exact absurd c (by decide) | exact absurd (by decide) c)) (fun _ => ?_)
      refine V2_bipush (v := -10) d_R_text_74 rfl ?_
      refine V2_aload_n (i := 0) d_R_text_76 rfl rfl ?_
      refine V2_get (v := GA 65 6) d_R_text_77 fl_R_61 (by decide) rfl (by decide) rfl rfl ?_
      refine V2_topi (fun v9 ev9 => ?_)
      refine V2_isub d_R_text_80 ?_
      refine V2_topi (fun v10 ev10 => ?_)
      refine V2_ireturn d_R_text_81 rfl ?_
      have c6 := crA.2.2
      have nf : ¬ fullT (fun i => F0 66 (274 + i)) (TN (F0 66)) 0 := fun h9 => absurd (okA.symm.trans h9.1) (by decide)
      have ek : k_text F0 0 = kt F0 0 := if_pos rfl
      have ek2 : kt F0 0 = (-10 - nI (readT (fun i => F0 66 (274 + i)) (TN (F0 66)) 0).2.at_, xrw F0 66 (upd (F0 66) 9 0)) := if_neg nf
      rw [ek, ek2] at hQ hM
      have hrel := rel_W hR hM (invS_tape hR.2.1 (invTape_0 upd_same) (fun j a b => upd_ne a))
      refine xQi (hQ (xp GA 66 9 0) (rel_65 hrel (fun a x y => ?_) (fun j hj => (congrFun (xp_row_ne (by decide)) j).trans ((f65 j (by omega) (by omega) (by omega)).trans (fb65 j hj))))) ?_ rfl
      · by_cases e9 : a = 66
        · subst e9
          rw [xrw_same, xp_row, xrw_same, f1 66 x y, fb 66 x, e66]
        · rw [xp_row_ne e9, xrw_ne e9, f1 a x y, fb a x]
      · clear hQ
        subst ev10 ev9 ev1
        rw [show GA 65 6 = nI (readT (fun i => F0 66 (274 + i)) (TN (F0 66)) 0).2.at_ from c6]
  · refine V2_aload_n (i := 0) d_R_text_9 rfl rfl ?_
    refine V2_iconst (v := 1) d_R_text_10 rfl ?_
    refine V2_callV [.int (1 : Int32)] d_R_text_11 rfl rfl lk_R_55 mo_R_error (by decide) rfl rfl rfl (Nat.le_of_ble_eq_true rfl) (Nat.le_of_ble_eq_true rfl) ?_
    refine c_R_error1 ?_
    refine V2_topi (fun v11 ev11 => ?_)
    refine V2_ireturn d_R_text_14 rfl ?_
    exfalso
    exact (by (try clear hQ); (try subst ev11 ev1); ((try simp only [xb_eq, xb_ne, Int32.lt_iff_toInt_lt, Int32.le_iff_toInt_le] at *) <;> (try simp only [← Int32.toInt_inj, true_and, false_and, or_false, false_or, or_true, true_or, and_true, and_false] at *) <;> omega))
theorem c_mod_text1 {L : Nat} {xs : Nat → Int32} {d : Nat} {Q : Option Value → xF → Prop} {F : xF}  {F0 : xF} (hR : Rel F0) (hM : Mid F0 F (k_text F0 1).2) (hQ : ∀ F2, Rel F2 → Q (some (.int (k_text F0 1).1)) F2) : V2 L xs (d + 38) m_R_text 0 (xEntry [.ref 65, .int (1 : Int32)] 5) [] F Q := by
  have q0 : (0 : Int32).toInt = 0 := by decide
  have q1 : (1 : Int32).toInt = 1 := by decide
  have q2 : (2 : Int32).toInt = 2 := by decide
  have q3 : (3 : Int32).toInt = 3 := by decide
  have q4 : (4 : Int32).toInt = 4 := by decide
  have q5 : (5 : Int32).toInt = 5 := by decide
  have q6 : (6 : Int32).toInt = 6 := by decide
  have q7 : (7 : Int32).toInt = 7 := by decide
  have q8 : (8 : Int32).toInt = 8 := by decide
  have q9 : (9 : Int32).toInt = 9 := by decide
  have q10 : (10 : Int32).toInt = 10 := by decide
  have q12 : (12 : Int32).toInt = 12 := by decide
  have q16 : (16 : Int32).toInt = 16 := by decide
  have q20 : (20 : Int32).toInt = 20 := by decide
  have q24 : (24 : Int32).toInt = 24 := by decide
  have q30 : (30 : Int32).toInt = 30 := by decide
  have q32 : (32 : Int32).toInt = 32 := by decide
  have q40 : (40 : Int32).toInt = 40 := by decide
  have q60 : (60 : Int32).toInt = 60 := by decide
  have q69 : (69 : Int32).toInt = 69 := by decide
  have q99 : (99 : Int32).toInt = 99 := by decide
  have q9999 : (9999 : Int32).toInt = 9999 := by decide
  have q274 : (274 : Int32).toInt = 274 := by decide
  have q334 : (334 : Int32).toInt = 334 := by decide
  obtain ⟨eT, hT⟩ := inv_TN hR.2.1.2.2.2.2.2.1
  have e66 : F 66 = F0 66 := hM.1 66 (by decide)
  have e66b : F 66 9 = F0 66 9 := congrFun e66 9
  refine V2.to (l' := [some (.ref 65), some (.int (1 : Int32)), none, none, none]) ?_ rfl rfl rfl rfl
  refine V2_iload_n (i := 1) d_R_text_0 rfl rfl ?_
  refine V2_iconst (v := 0) d_R_text_1 rfl ?_
  refine V2_iconst (v := 1) d_R_text_2 rfl ?_
  refine V2_callS [.int (1 : Int32), .int (0 : Int32), .int (1 : Int32)] d_R_text_3 rfl rfl lk_R_51 mo_R_in (Nat.le_of_ble_eq_true rfl) (Nat.le_of_ble_eq_true rfl) ?_
  refine c_R_in ?_
  refine V2_topi (fun v1 ev1 => ?_)
  refine V2_if_ne (tgt := 15) d_R_text_6 rfl (fun c2 => ?_) (fun c2 => ?_)
  · refine V2_aload_n (i := 0) d_R_text_15 rfl rfl ?_
    refine V2_iload_n (i := 1) d_R_text_16 rfl rfl ?_
    refine V2_put d_R_text_17 fl_R_64 (by decide) rfl (by decide) rfl ?_
    refine V2_aload_n (i := 0) d_R_text_20 rfl rfl ?_
    refine V2_iconst (v := 0) d_R_text_21 rfl ?_
    refine V2_put d_R_text_22 fl_R_61 (by decide) rfl (by decide) rfl ?_
    refine V2_aload_n (i := 0) d_R_text_25 rfl rfl ?_
    refine V2_iconst (v := 0) d_R_text_26 rfl ?_
    refine V2_put d_R_text_27 fl_R_94 (by decide) rfl (by decide) rfl ?_
    refine V2_aload_n (i := 0) d_R_text_30 rfl rfl ?_
    refine V2_iconst (v := 0) d_R_text_31 rfl ?_
    refine V2_put d_R_text_32 fl_R_67 (by decide) rfl (by decide) rfl ?_
    refine V2_aload_n (i := 0) d_R_text_35 rfl rfl ?_
    refine V2_callV [] d_R_text_36 rfl rfl lk_R_104 mo_R_whole (by decide) rfl rfl rfl (Nat.le_of_ble_eq_true rfl) (Nat.le_of_ble_eq_true rfl) ?_
    refine c_R_go (T := fun i => F0 66 (274 + i)) (N := TN (F0 66)) (use := 1) hT (by decide) (e66b.trans eT) (fun i hi => congrFun e66 (274 + i)) rfl rfl rfl rfl (fun rA GA hA => ?_)
    rcases hA with ⟨rfl, okA, crA⟩ | ⟨rfl, okA, crA⟩
    · have f1 := crA.1
      have f65 := crA.2.1
      have fb : ∀ a, ¬ a = 65 → (xp (xp (xp (xp F 65 9 1) 65 6 0) 65 7 0) 65 8 0) a = F a := fun a x => (xp_row_ne x).trans ((xp_row_ne x).trans ((xp_row_ne x).trans (xp_row_ne x)))
      have fb65 : ∀ j, j < 6 ∨ 9 < j → (xp (xp (xp (xp F 65 9 1) 65 6 0) 65 7 0) 65 8 0) 65 j = F 65 j := fun j hj => (xp_ne (Or.inr (by omega))).trans ((xp_ne (Or.inr (by omega))).trans ((xp_ne (Or.inr (by omega))).trans (xp_ne (Or.inr (by omega)))))
      have t9 : GA 66 9 = nI (TN (F0 66)) := (congrFun (f1 66 (by decide) (by decide)) 9).trans ((congrFun (fb 66 (by decide)) 9).trans (e66b.trans eT))
      refine V2_if_eq (tgt := 60) d_R_text_39 rfl (fun c => (by first | exact absurd c (by decide) | exact absurd (by decide) c)) (fun _ => ?_)
      refine V2_aload_n (i := 0) d_R_text_42 rfl rfl ?_
      refine V2_get (v := GA 65 6) d_R_text_43 fl_R_61 (by decide) rfl (by decide) rfl rfl ?_
      refine V2_topi (fun v3 ev3 => ?_)
      refine V2_aload_n (i := 0) d_R_text_46 rfl rfl ?_
      refine V2_getr (a := 66) d_R_text_47 fl_R_7 (by decide) rfl (by decide) rfl ?_
      refine V2_bipush (v := 9) d_R_text_50 rfl ?_
      refine V2_iaload (v := GA 66 9) d_R_text_52 (by decide) rfl (xixA (n := 9) rfl (by decide) (by decide)) rfl ?_
      refine V2_topi (fun v4 ev4 => ?_)
      refine V2_icmp_ne (tgt := 60) d_R_text_53 rfl (fun c5 => ?_) (fun c5 => ?_)
      · refine V2_iconst (v := 0) d_R_text_60 rfl ?_
        refine V2_istore_n (i := 2) (l' := [some (.ref 65), some (.int (1 : Int32)), some (.int (0 : Int32)), none, none]) d_R_text_61 rfl (xst_i (Nat.le_of_ble_eq_true rfl) rfl rfl) ?_
        refine V2_aload_n (i := 0) d_R_text_62 rfl rfl ?_
        refine V2_getr (a := 66) d_R_text_63 fl_R_7 (by decide) rfl (by decide) rfl ?_
        refine V2_bipush (v := 9) d_R_text_66 rfl ?_
        refine V2_iconst (v := 0) d_R_text_68 rfl ?_
        refine V2_iastore (j := 9) d_R_text_69 (by decide) rfl (xixA (n := 9) rfl (by decide) (by decide)) rfl ?_
        refine V2_iload_n (i := 2) d_R_text_70 rfl rfl ?_
        refine V2_if_ne (tgt := 82) d_R_text_71 rfl (fun c => (by first | exact absurd c (by decide) | exact absurd (by decide) c)) (fun _ => ?_)
        refine V2_bipush (v := -10) d_R_text_74 rfl ?_
        refine V2_aload_n (i := 0) d_R_text_76 rfl rfl ?_
        refine V2_get (v := GA 65 6) d_R_text_77 fl_R_61 (by decide) rfl (by decide) rfl rfl ?_
        refine V2_topi (fun v6 ev6 => ?_)
        refine V2_isub d_R_text_80 ?_
        refine V2_topi (fun v7 ev7 => ?_)
        refine V2_ireturn d_R_text_81 rfl ?_
        have c6 := crA.2.2.1
        have nf : ¬ fullT (fun i => F0 66 (274 + i)) (TN (F0 66)) 1 := by
          intro h8
          have h9 := c5
          clear hQ
          subst ev7 ev6 ev4 ev3 ev1
          rw [show GA 65 6 = nI (readT (fun i => F0 66 (274 + i)) (TN (F0 66)) 1).2.at_ from c6, show GA 66 9 = nI (TN (F0 66)) from t9] at h9
          exact h9 (congrArg nI h8.2)
        have ek : k_text F0 1 = kt F0 1 := (if_neg (by decide)).trans (if_pos rfl)
        have ek2 : kt F0 1 = (-10 - nI (readT (fun i => F0 66 (274 + i)) (TN (F0 66)) 1).2.at_, xrw F0 66 (upd (F0 66) 9 0)) := if_neg nf
        rw [ek, ek2] at hQ hM
        have hrel := rel_W hR hM (invS_tape hR.2.1 (invTape_0 upd_same) (fun j a b => upd_ne a))
        refine xQi (hQ (xp GA 66 9 0) (rel_65 hrel (fun a x y => ?_) (fun j hj => (congrFun (xp_row_ne (by decide)) j).trans ((f65 j (by omega) (by omega) (by omega)).trans (fb65 j hj))))) ?_ rfl
        · by_cases e9 : a = 66
          · subst e9
            rw [xrw_same, xp_row, xrw_same, f1 66 x y, fb 66 x, e66]
          · rw [xp_row_ne e9, xrw_ne e9, f1 a x y, fb a x]
        · clear hQ
          subst ev7 ev6 ev4 ev3 ev1
          rw [show GA 65 6 = nI (readT (fun i => F0 66 (274 + i)) (TN (F0 66)) 1).2.at_ from c6]
      · refine V2_iconst (v := 1) d_R_text_56 rfl ?_
        refine V2_goto (tgt := 61) d_R_text_57 rfl ?_
        refine V2_istore_n (i := 2) (l' := [some (.ref 65), some (.int (1 : Int32)), some (.int (1 : Int32)), none, none]) d_R_text_61 rfl (xst_i (Nat.le_of_ble_eq_true rfl) rfl rfl) ?_
        refine V2_aload_n (i := 0) d_R_text_62 rfl rfl ?_
        refine V2_getr (a := 66) d_R_text_63 fl_R_7 (by decide) rfl (by decide) rfl ?_
        refine V2_bipush (v := 9) d_R_text_66 rfl ?_
        refine V2_iconst (v := 0) d_R_text_68 rfl ?_
        refine V2_iastore (j := 9) d_R_text_69 (by decide) rfl (xixA (n := 9) rfl (by decide) (by decide)) rfl ?_
        refine V2_iload_n (i := 2) d_R_text_70 rfl rfl ?_
        refine V2_if_ne (tgt := 82) d_R_text_71 rfl (fun _ => ?_) (fun c => (by first | exact absurd c (by decide) | exact absurd (by decide) c))
        refine V2_bipush (v := 24) d_R_text_82 rfl ?_
        refine V2_bipush (v := 125) d_R_text_84 rfl ?_
        refine V2_iload_n (i := 1) d_R_text_86 rfl rfl ?_
        refine V2_imul d_R_text_87 ?_
        refine V2_lit (v := 125) (by decide) ?_
        refine V2_iadd d_R_text_88 ?_
        refine V2_lit (v := 149) (by decide) ?_
        refine V2_istore_n (i := 3) (l' := [some (.ref 65), some (.int (1 : Int32)), some (.int (1 : Int32)), some (.int (149 : Int32)), none]) d_R_text_89 rfl (xst_i (Nat.le_of_ble_eq_true rfl) rfl rfl) ?_
        refine V2_aload_n (i := 0) d_R_text_90 rfl rfl ?_
        refine V2_getr (a := 66) d_R_text_91 fl_R_7 (by decide) rfl (by decide) rfl ?_
        refine V2_iload_n (i := 3) d_R_text_94 rfl rfl ?_
        refine V2_aload_n (i := 0) d_R_text_95 rfl rfl ?_
        refine V2_get (v := GA 65 8) d_R_text_96 fl_R_67 (by decide) rfl (by decide) rfl rfl ?_
        refine V2_topi (fun v8 ev8 => ?_)
        refine V2_iastore (j := 149) d_R_text_99 (by decide) rfl (xixA (n := 149) rfl (by decide) (by decide)) rfl ?_
        refine V2_iconst (v := 0) d_R_text_100 rfl ?_
        refine V2_istore (i := 4) (l' := [some (.ref 65), some (.int (1 : Int32)), some (.int (1 : Int32)), some (.int (149 : Int32)), some (.int (0 : Int32))]) d_R_text_101 (xst_i (Nat.le_of_ble_eq_true rfl) rfl rfl) ?_
        have c6 := crA.2.2.1
        have h8 : (readT (fun i => F0 66 (274 + i)) (TN (F0 66)) 1).2.at_ = TN (F0 66) := by
          have h9 := c5
          clear hQ
          subst ev8 ev4 ev3 ev1
          rw [show GA 65 6 = nI (readT (fun i => F0 66 (274 + i)) (TN (F0 66)) 1).2.at_ from c6, show GA 66 9 = nI (TN (F0 66)) from t9] at h9
          have r1 := read_in (T := fun i => F0 66 (274 + i)) (N := TN (F0 66)) (use := 1)
          have q1 := nI_toInt (n := (readT (fun i => F0 66 (274 + i)) (TN (F0 66)) 1).2.at_) (by omega)
          have q2 := nI_toInt (n := TN (F0 66)) (by omega)
          rw [h9] at q1
          omega
        have fu : fullT (fun i => F0 66 (274 + i)) (TN (F0 66)) 1 := ⟨okA, h8⟩
        have ro := read_ok fu hT
        have ek : k_text F0 1 = kt F0 1 := (if_neg (by decide)).trans (if_pos rfl)
        have ek2 : kt F0 1 = (1, xrw F0 66 (textS (F0 66) 1 (readT (fun i => F0 66 (274 + i)) (TN (F0 66)) 1).2 (2 * (readT (fun i => F0 66 (274 + i)) (TN (F0 66)) 1).2.n))) := if_pos fu
        rw [ek, ek2] at hQ hM
        have e6 : GA 66 = F0 66 := (f1 66 (by decide) (by decide)).trans ((fb 66 (by decide)).trans e66)
        have hrel := rel_W hR hM (invS_law1 (invS_tape hR.2.1 (invTape_0 upd_same) (fun j a b => upd_ne a) : invS (upd (F0 66) 9 0)) (okT_text ro.1) (fun j hj => ?_))
        · refine V2.to (c_R_text_1_loop (F := GA) (S := F0 66) (x := (readT (fun i => F0 66 (274 + i)) (TN (F0 66)) 1).2) ro.1.1 crA.2.2.2.2.1 crA.2.2.2.2.2 (hQ _ (rel_65 hrel (fun a x y => ?_) (fun j hj => (congrFun (xrw_ne (by decide)) j).trans ((f65 j (by omega) (by omega) (by omega)).trans (fb65 j hj))))) (2 * (readT (fun i => F0 66 (274 + i)) (TN (F0 66)) 1).2.n + 1) 0 (Nat.zero_le _) (by omega)) rfl rfl rfl ?_
          · by_cases e9 : a = 66
            · subst e9
              rw [xrw_same, xrw_same]
            · rw [xrw_ne e9, xrw_ne e9, f1 a x y, fb a x]
          · have ew : v8 = nI (readT (fun i => F0 66 (274 + i)) (TN (F0 66)) 1).2.n := by
              clear hQ
              subst ev8 ev4 ev3 ev1
              exact crA.2.2.2.2.1
            rw [ew, xp_row GA 66 9, xp_xrw, e6]
            rfl
        · by_cases e9 : j = 9
          · subst e9
            exact (textS_9 _).trans upd_same.symm
          · have := ro.1.1
            exact (textS_o _ e9 (by omega)).trans (upd_ne e9).symm
    · have f1 := crA.1
      have f65 := crA.2.1
      have fb : ∀ a, ¬ a = 65 → (xp (xp (xp (xp F 65 9 1) 65 6 0) 65 7 0) 65 8 0) a = F a := fun a x => (xp_row_ne x).trans ((xp_row_ne x).trans ((xp_row_ne x).trans (xp_row_ne x)))
      have fb65 : ∀ j, j < 6 ∨ 9 < j → (xp (xp (xp (xp F 65 9 1) 65 6 0) 65 7 0) 65 8 0) 65 j = F 65 j := fun j hj => (xp_ne (Or.inr (by omega))).trans ((xp_ne (Or.inr (by omega))).trans ((xp_ne (Or.inr (by omega))).trans (xp_ne (Or.inr (by omega)))))
      have t9 : GA 66 9 = nI (TN (F0 66)) := (congrFun (f1 66 (by decide) (by decide)) 9).trans ((congrFun (fb 66 (by decide)) 9).trans (e66b.trans eT))
      refine V2_if_eq (tgt := 60) d_R_text_39 rfl (fun _ => ?_) (fun c => (by first | exact absurd c (by decide) | exact absurd (by decide) c))
      refine V2_iconst (v := 0) d_R_text_60 rfl ?_
      refine V2_istore_n (i := 2) (l' := [some (.ref 65), some (.int (1 : Int32)), some (.int (0 : Int32)), none, none]) d_R_text_61 rfl (xst_i (Nat.le_of_ble_eq_true rfl) rfl rfl) ?_
      refine V2_aload_n (i := 0) d_R_text_62 rfl rfl ?_
      refine V2_getr (a := 66) d_R_text_63 fl_R_7 (by decide) rfl (by decide) rfl ?_
      refine V2_bipush (v := 9) d_R_text_66 rfl ?_
      refine V2_iconst (v := 0) d_R_text_68 rfl ?_
      refine V2_iastore (j := 9) d_R_text_69 (by decide) rfl (xixA (n := 9) rfl (by decide) (by decide)) rfl ?_
      refine V2_iload_n (i := 2) d_R_text_70 rfl rfl ?_
      refine V2_if_ne (tgt := 82) d_R_text_71 rfl (fun c => (by first | exact absurd c (by decide) | exact absurd (by decide) c)) (fun _ => ?_)
      refine V2_bipush (v := -10) d_R_text_74 rfl ?_
      refine V2_aload_n (i := 0) d_R_text_76 rfl rfl ?_
      refine V2_get (v := GA 65 6) d_R_text_77 fl_R_61 (by decide) rfl (by decide) rfl rfl ?_
      refine V2_topi (fun v9 ev9 => ?_)
      refine V2_isub d_R_text_80 ?_
      refine V2_topi (fun v10 ev10 => ?_)
      refine V2_ireturn d_R_text_81 rfl ?_
      have c6 := crA.2.2
      have nf : ¬ fullT (fun i => F0 66 (274 + i)) (TN (F0 66)) 1 := fun h9 => absurd (okA.symm.trans h9.1) (by decide)
      have ek : k_text F0 1 = kt F0 1 := (if_neg (by decide)).trans (if_pos rfl)
      have ek2 : kt F0 1 = (-10 - nI (readT (fun i => F0 66 (274 + i)) (TN (F0 66)) 1).2.at_, xrw F0 66 (upd (F0 66) 9 0)) := if_neg nf
      rw [ek, ek2] at hQ hM
      have hrel := rel_W hR hM (invS_tape hR.2.1 (invTape_0 upd_same) (fun j a b => upd_ne a))
      refine xQi (hQ (xp GA 66 9 0) (rel_65 hrel (fun a x y => ?_) (fun j hj => (congrFun (xp_row_ne (by decide)) j).trans ((f65 j (by omega) (by omega) (by omega)).trans (fb65 j hj))))) ?_ rfl
      · by_cases e9 : a = 66
        · subst e9
          rw [xrw_same, xp_row, xrw_same, f1 66 x y, fb 66 x, e66]
        · rw [xp_row_ne e9, xrw_ne e9, f1 a x y, fb a x]
      · clear hQ
        subst ev10 ev9 ev1
        rw [show GA 65 6 = nI (readT (fun i => F0 66 (274 + i)) (TN (F0 66)) 1).2.at_ from c6]
  · refine V2_aload_n (i := 0) d_R_text_9 rfl rfl ?_
    refine V2_iconst (v := 1) d_R_text_10 rfl ?_
    refine V2_callV [.int (1 : Int32)] d_R_text_11 rfl rfl lk_R_55 mo_R_error (by decide) rfl rfl rfl (Nat.le_of_ble_eq_true rfl) (Nat.le_of_ble_eq_true rfl) ?_
    refine c_R_error1 ?_
    refine V2_topi (fun v11 ev11 => ?_)
    refine V2_ireturn d_R_text_14 rfl ?_
    exfalso
    exact (by (try clear hQ); (try subst ev11 ev1); ((try simp only [xb_eq, xb_ne, Int32.lt_iff_toInt_lt, Int32.le_iff_toInt_le] at *) <;> (try simp only [← Int32.toInt_inj, true_and, false_and, or_false, false_or, or_true, true_or, and_true, and_false] at *) <;> omega))
theorem c_mod_text2 {L : Nat} {xs : Nat → Int32} {d : Nat} {Q : Option Value → xF → Prop} {F : xF} {u : Int32} {F0 : xF} (hR : Rel F0) (hM : Mid F0 F (k_text F0 u).2) (hu : ¬ u = 0) (hv : ¬ u = 1) (hQ : ∀ F2, Rel F2 → Q (some (.int (k_text F0 u).1)) F2) : V2 L xs (d + 38) m_R_text 0 (xEntry [.ref 65, .int u] 5) [] F Q := by
  have q0 : (0 : Int32).toInt = 0 := by decide
  have q1 : (1 : Int32).toInt = 1 := by decide
  have q2 : (2 : Int32).toInt = 2 := by decide
  have q3 : (3 : Int32).toInt = 3 := by decide
  have q4 : (4 : Int32).toInt = 4 := by decide
  have q5 : (5 : Int32).toInt = 5 := by decide
  have q6 : (6 : Int32).toInt = 6 := by decide
  have q7 : (7 : Int32).toInt = 7 := by decide
  have q8 : (8 : Int32).toInt = 8 := by decide
  have q9 : (9 : Int32).toInt = 9 := by decide
  have q10 : (10 : Int32).toInt = 10 := by decide
  have q12 : (12 : Int32).toInt = 12 := by decide
  have q16 : (16 : Int32).toInt = 16 := by decide
  have q20 : (20 : Int32).toInt = 20 := by decide
  have q24 : (24 : Int32).toInt = 24 := by decide
  have q30 : (30 : Int32).toInt = 30 := by decide
  have q32 : (32 : Int32).toInt = 32 := by decide
  have q40 : (40 : Int32).toInt = 40 := by decide
  have q60 : (60 : Int32).toInt = 60 := by decide
  have q69 : (69 : Int32).toInt = 69 := by decide
  have q99 : (99 : Int32).toInt = 99 := by decide
  have q9999 : (9999 : Int32).toInt = 9999 := by decide
  have q274 : (274 : Int32).toInt = 274 := by decide
  have q334 : (334 : Int32).toInt = 334 := by decide
  obtain ⟨eT, hT⟩ := inv_TN hR.2.1.2.2.2.2.2.1
  have e66 : F 66 = F0 66 := hM.1 66 (by decide)
  have e66b : F 66 9 = F0 66 9 := congrFun e66 9
  refine V2.to (l' := [some (.ref 65), some (.int u), none, none, none]) ?_ rfl rfl rfl rfl
  refine V2_iload_n (i := 1) d_R_text_0 rfl rfl ?_
  refine V2_iconst (v := 0) d_R_text_1 rfl ?_
  refine V2_iconst (v := 1) d_R_text_2 rfl ?_
  refine V2_callS [.int u, .int (0 : Int32), .int (1 : Int32)] d_R_text_3 rfl rfl lk_R_51 mo_R_in (Nat.le_of_ble_eq_true rfl) (Nat.le_of_ble_eq_true rfl) ?_
  refine c_R_in ?_
  refine V2_topi (fun v1 ev1 => ?_)
  refine V2_if_ne (tgt := 15) d_R_text_6 rfl (fun c2 => ?_) (fun c2 => ?_)
  · refine V2_aload_n (i := 0) d_R_text_15 rfl rfl ?_
    refine V2_iload_n (i := 1) d_R_text_16 rfl rfl ?_
    refine V2_put d_R_text_17 fl_R_64 (by decide) rfl (by decide) rfl ?_
    refine V2_aload_n (i := 0) d_R_text_20 rfl rfl ?_
    refine V2_iconst (v := 0) d_R_text_21 rfl ?_
    refine V2_put d_R_text_22 fl_R_61 (by decide) rfl (by decide) rfl ?_
    refine V2_aload_n (i := 0) d_R_text_25 rfl rfl ?_
    refine V2_iconst (v := 0) d_R_text_26 rfl ?_
    refine V2_put d_R_text_27 fl_R_94 (by decide) rfl (by decide) rfl ?_
    refine V2_aload_n (i := 0) d_R_text_30 rfl rfl ?_
    refine V2_iconst (v := 0) d_R_text_31 rfl ?_
    refine V2_put d_R_text_32 fl_R_67 (by decide) rfl (by decide) rfl ?_
    refine V2_aload_n (i := 0) d_R_text_35 rfl rfl ?_
    refine V2_callV [] d_R_text_36 rfl rfl lk_R_104 mo_R_whole (by decide) rfl rfl rfl (Nat.le_of_ble_eq_true rfl) (Nat.le_of_ble_eq_true rfl) ?_
    exfalso
    exact (by (try clear hQ); (try subst ev1); ((try simp only [xb_eq, xb_ne, Int32.lt_iff_toInt_lt, Int32.le_iff_toInt_le] at *) <;> (try simp only [← Int32.toInt_inj, true_and, false_and, or_false, false_or, or_true, true_or, and_true, and_false] at *) <;> omega))
  · refine V2_aload_n (i := 0) d_R_text_9 rfl rfl ?_
    refine V2_iconst (v := 1) d_R_text_10 rfl ?_
    refine V2_callV [.int (1 : Int32)] d_R_text_11 rfl rfl lk_R_55 mo_R_error (by decide) rfl rfl rfl (Nat.le_of_ble_eq_true rfl) (Nat.le_of_ble_eq_true rfl) ?_
    refine c_R_error1 ?_
    refine V2_topi (fun v3 ev3 => ?_)
    refine V2_ireturn d_R_text_14 rfl ?_
    have e : k_text F0 u = (-1000000000 - 1, errF F0 1) := (if_neg hu).trans (if_neg hv)
    rw [e] at hQ hM
    subst ev3 ev1
    exact xQi (hQ _ (rel_err hR hM)) rfl rfl
