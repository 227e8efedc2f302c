/-! the class reads: leaves, levels, parts -/
section RD1
variable (L : Nat) (xs : Nat → Int32) (B : xF) (T : Nat → Int32) (N use o : Nat) (p : PS → Bool × PS) (D : Nat)
def CKleaf : Prop := ∀ (Q : Option Value → xF → Prop) (F : xF) (s : PS), CR B use s F → okR use s → s.at_ ≤ N → s.n + o ≤ s.at_ → (∀ r F1, RESc B use o (p s) r F1 → Q (some (.int r)) F1) → V2 L xs D m_Read_readsLeaf 0 (xEntry [.ref 47, .int (nI o)] 4) [] F Q
def CKlev (l : Int32) : Prop := ∀ (Q : Option Value → xF → Prop) (F : xF) (s : PS), CR B use s F → okR use s → s.at_ ≤ N → s.n + o ≤ s.at_ → (∀ r F1, RESc B use o (p s) r F1 → Q (some (.int r)) F1) → V2 L xs D m_Read_readsLevel 0 (xEntry [.ref 47, .int l, .int (nI o)] 6) [] F Q
def CKpart (l : Int32) : Prop := ∀ (Q : Option Value → xF → Prop) (F : xF) (s : PS), CR B use s F → okR use s → s.at_ ≤ N → s.n + o ≤ s.at_ → (∀ r F1, RESc B use o (p s) r F1 → Q (some (.int r)) F1) → V2 L xs D m_Read_readsPart 0 (xEntry [.ref 47, .int l, .int (nI o)] 3) [] F Q
end RD1
theorem res_01 {B F : xF} {use o : Nat} {x : Bool × PS} {r : Int32} (h : RESc B use o x r F) : r = 0 ∨ r = 1 := by
  rcases h with ⟨h, -⟩ | ⟨h, -⟩
  · exact Or.inr h
  · exact Or.inl h
theorem c_Read_part_0 {L : Nat} {xs : Nat → Int32} {d : Nat} {Q : Option Value → xF → Prop} {F : xF} {B : xF} {T : Nat → Int32} {N use o : Nat} {s : PS} {p : PS → Bool × PS} (hp : CKlev L xs B N use o p (d + 3) (0 : Int32)) (hR : CR B use s F) (hK : okR use s) (ha : s.at_ ≤ N) (ho : s.n + o ≤ s.at_) (hQ : ∀ r F1, RESc B use o (p s) r F1 → Q (some (.int r)) F1) : V2 L xs (d + 4) m_Read_readsPart 0 (xEntry [.ref 47, .int (0 : Int32), .int (nI o)] 3) [] F Q := by
  refine V2.to (l' := [some (.ref 47), some (.int (0 : Int32)), some (.int (nI o))]) ?_ rfl rfl rfl rfl
  refine V2_iload_n (i := 1) d_Read_readsPart_0 rfl rfl ?_
  refine V2_iconst (v := 4) d_Read_readsPart_1 rfl ?_
  refine V2_icmp_le (tgt := 13) d_Read_readsPart_2 rfl (fun _ => ?_) (fun c => (by first | exact absurd c (by decide) | exact absurd (by decide) c))
  refine V2_aload_n (i := 0) d_Read_readsPart_13 rfl rfl ?_
  refine V2_iload_n (i := 1) d_Read_readsPart_14 rfl rfl ?_
  refine V2_iload_n (i := 2) d_Read_readsPart_15 rfl rfl ?_
  refine V2_callV [.int (0 : Int32), .int (nI o)] d_Read_readsPart_16 rfl rfl lk_Read_49 mo_Read_readsLevel (by decide) rfl rfl rfl (Nat.le_of_ble_eq_true rfl) (Nat.le_of_ble_eq_true rfl) ?_
  refine hp _ _ s hR hK ha ho (fun rA GA hA => ?_)
  refine V2_zreturn d_Read_readsPart_19 rfl (res_01 hA) ?_
  exact xQi (hQ rA GA hA) rfl rfl
theorem c_Read_part_1 {L : Nat} {xs : Nat → Int32} {d : Nat} {Q : Option Value → xF → Prop} {F : xF} {B : xF} {T : Nat → Int32} {N use o : Nat} {s : PS} {p : PS → Bool × PS} (hp : CKlev L xs B N use o p (d + 3) (1 : Int32)) (hR : CR B use s F) (hK : okR use s) (ha : s.at_ ≤ N) (ho : s.n + o ≤ s.at_) (hQ : ∀ r F1, RESc B use o (p s) r F1 → Q (some (.int r)) F1) : V2 L xs (d + 4) m_Read_readsPart 0 (xEntry [.ref 47, .int (1 : Int32), .int (nI o)] 3) [] F Q := by
  refine V2.to (l' := [some (.ref 47), some (.int (1 : Int32)), some (.int (nI o))]) ?_ rfl rfl rfl rfl
  refine V2_iload_n (i := 1) d_Read_readsPart_0 rfl rfl ?_
  refine V2_iconst (v := 4) d_Read_readsPart_1 rfl ?_
  refine V2_icmp_le (tgt := 13) d_Read_readsPart_2 rfl (fun _ => ?_) (fun c => (by first | exact absurd c (by decide) | exact absurd (by decide) c))
  refine V2_aload_n (i := 0) d_Read_readsPart_13 rfl rfl ?_
  refine V2_iload_n (i := 1) d_Read_readsPart_14 rfl rfl ?_
  refine V2_iload_n (i := 2) d_Read_readsPart_15 rfl rfl ?_
  refine V2_callV [.int (1 : Int32), .int (nI o)] d_Read_readsPart_16 rfl rfl lk_Read_49 mo_Read_readsLevel (by decide) rfl rfl rfl (Nat.le_of_ble_eq_true rfl) (Nat.le_of_ble_eq_true rfl) ?_
  refine hp _ _ s hR hK ha ho (fun rA GA hA => ?_)
  refine V2_zreturn d_Read_readsPart_19 rfl (res_01 hA) ?_
  exact xQi (hQ rA GA hA) rfl rfl
theorem c_Read_part_2 {L : Nat} {xs : Nat → Int32} {d : Nat} {Q : Option Value → xF → Prop} {F : xF} {B : xF} {T : Nat → Int32} {N use o : Nat} {s : PS} {p : PS → Bool × PS} (hp : CKlev L xs B N use o p (d + 3) (2 : Int32)) (hR : CR B use s F) (hK : okR use s) (ha : s.at_ ≤ N) (ho : s.n + o ≤ s.at_) (hQ : ∀ r F1, RESc B use o (p s) r F1 → Q (some (.int r)) F1) : V2 L xs (d + 4) m_Read_readsPart 0 (xEntry [.ref 47, .int (2 : Int32), .int (nI o)] 3) [] F Q := by
  refine V2.to (l' := [some (.ref 47), some (.int (2 : Int32)), some (.int (nI o))]) ?_ rfl rfl rfl rfl
  refine V2_iload_n (i := 1) d_Read_readsPart_0 rfl rfl ?_
  refine V2_iconst (v := 4) d_Read_readsPart_1 rfl ?_
  refine V2_icmp_le (tgt := 13) d_Read_readsPart_2 rfl (fun _ => ?_) (fun c => (by first | exact absurd c (by decide) | exact absurd (by decide) c))
  refine V2_aload_n (i := 0) d_Read_readsPart_13 rfl rfl ?_
  refine V2_iload_n (i := 1) d_Read_readsPart_14 rfl rfl ?_
  refine V2_iload_n (i := 2) d_Read_readsPart_15 rfl rfl ?_
  refine V2_callV [.int (2 : Int32), .int (nI o)] d_Read_readsPart_16 rfl rfl lk_Read_49 mo_Read_readsLevel (by decide) rfl rfl rfl (Nat.le_of_ble_eq_true rfl) (Nat.le_of_ble_eq_true rfl) ?_
  refine hp _ _ s hR hK ha ho (fun rA GA hA => ?_)
  refine V2_zreturn d_Read_readsPart_19 rfl (res_01 hA) ?_
  exact xQi (hQ rA GA hA) rfl rfl
theorem c_Read_part_3 {L : Nat} {xs : Nat → Int32} {d : Nat} {Q : Option Value → xF → Prop} {F : xF} {B : xF} {T : Nat → Int32} {N use o : Nat} {s : PS} {p : PS → Bool × PS} (hp : CKlev L xs B N use o p (d + 3) (3 : Int32)) (hR : CR B use s F) (hK : okR use s) (ha : s.at_ ≤ N) (ho : s.n + o ≤ s.at_) (hQ : ∀ r F1, RESc B use o (p s) r F1 → Q (some (.int r)) F1) : V2 L xs (d + 4) m_Read_readsPart 0 (xEntry [.ref 47, .int (3 : Int32), .int (nI o)] 3) [] F Q := by
  refine V2.to (l' := [some (.ref 47), some (.int (3 : Int32)), some (.int (nI o))]) ?_ rfl rfl rfl rfl
  refine V2_iload_n (i := 1) d_Read_readsPart_0 rfl rfl ?_
  refine V2_iconst (v := 4) d_Read_readsPart_1 rfl ?_
  refine V2_icmp_le (tgt := 13) d_Read_readsPart_2 rfl (fun _ => ?_) (fun c => (by first | exact absurd c (by decide) | exact absurd (by decide) c))
  refine V2_aload_n (i := 0) d_Read_readsPart_13 rfl rfl ?_
  refine V2_iload_n (i := 1) d_Read_readsPart_14 rfl rfl ?_
  refine V2_iload_n (i := 2) d_Read_readsPart_15 rfl rfl ?_
  refine V2_callV [.int (3 : Int32), .int (nI o)] d_Read_readsPart_16 rfl rfl lk_Read_49 mo_Read_readsLevel (by decide) rfl rfl rfl (Nat.le_of_ble_eq_true rfl) (Nat.le_of_ble_eq_true rfl) ?_
  refine hp _ _ s hR hK ha ho (fun rA GA hA => ?_)
  refine V2_zreturn d_Read_readsPart_19 rfl (res_01 hA) ?_
  exact xQi (hQ rA GA hA) rfl rfl
theorem c_Read_part_4 {L : Nat} {xs : Nat → Int32} {d : Nat} {Q : Option Value → xF → Prop} {F : xF} {B : xF} {T : Nat → Int32} {N use o : Nat} {s : PS} {p : PS → Bool × PS} (hp : CKlev L xs B N use o p (d + 3) (4 : Int32)) (hR : CR B use s F) (hK : okR use s) (ha : s.at_ ≤ N) (ho : s.n + o ≤ s.at_) (hQ : ∀ r F1, RESc B use o (p s) r F1 → Q (some (.int r)) F1) : V2 L xs (d + 4) m_Read_readsPart 0 (xEntry [.ref 47, .int (4 : Int32), .int (nI o)] 3) [] F Q := by
  refine V2.to (l' := [some (.ref 47), some (.int (4 : Int32)), some (.int (nI o))]) ?_ rfl rfl rfl rfl
  refine V2_iload_n (i := 1) d_Read_readsPart_0 rfl rfl ?_
  refine V2_iconst (v := 4) d_Read_readsPart_1 rfl ?_
  refine V2_icmp_le (tgt := 13) d_Read_readsPart_2 rfl (fun _ => ?_) (fun c => (by first | exact absurd c (by decide) | exact absurd (by decide) c))
  refine V2_aload_n (i := 0) d_Read_readsPart_13 rfl rfl ?_
  refine V2_iload_n (i := 1) d_Read_readsPart_14 rfl rfl ?_
  refine V2_iload_n (i := 2) d_Read_readsPart_15 rfl rfl ?_
  refine V2_callV [.int (4 : Int32), .int (nI o)] d_Read_readsPart_16 rfl rfl lk_Read_49 mo_Read_readsLevel (by decide) rfl rfl rfl (Nat.le_of_ble_eq_true rfl) (Nat.le_of_ble_eq_true rfl) ?_
  refine hp _ _ s hR hK ha ho (fun rA GA hA => ?_)
  refine V2_zreturn d_Read_readsPart_19 rfl (res_01 hA) ?_
  exact xQi (hQ rA GA hA) rfl rfl
theorem c_Read_part_5 {L : Nat} {xs : Nat → Int32} {d : Nat} {Q : Option Value → xF → Prop} {F : xF} {B : xF} {T : Nat → Int32} {N use o : Nat} {s : PS} {p : PS → Bool × PS} (hp : CKleaf L xs B N use o p (d + 3)) (hR : CR B use s F) (hK : okR use s) (ha : s.at_ ≤ N) (ho : s.n + o ≤ s.at_) (hQ : ∀ r F1, RESc B use o (p s) r F1 → Q (some (.int r)) F1) : V2 L xs (d + 4) m_Read_readsPart 0 (xEntry [.ref 47, .int (5 : Int32), .int (nI o)] 3) [] F Q := by
  refine V2.to (l' := [some (.ref 47), some (.int (5 : Int32)), some (.int (nI o))]) ?_ rfl rfl rfl rfl
  refine V2_iload_n (i := 1) d_Read_readsPart_0 rfl rfl ?_
  refine V2_iconst (v := 4) d_Read_readsPart_1 rfl ?_
  refine V2_icmp_le (tgt := 13) d_Read_readsPart_2 rfl (fun c => (by first | exact absurd c (by decide) | exact absurd (by decide) c)) (fun _ => ?_)
  refine V2_aload_n (i := 0) d_Read_readsPart_5 rfl rfl ?_
  refine V2_iload_n (i := 2) d_Read_readsPart_6 rfl rfl ?_
  refine V2_callV [.int (nI o)] d_Read_readsPart_7 rfl rfl lk_Read_45 mo_Read_readsLeaf (by decide) rfl rfl rfl (Nat.le_of_ble_eq_true rfl) (Nat.le_of_ble_eq_true rfl) ?_
  refine hp _ _ s hR hK ha ho (fun rA GA hA => ?_)
  refine V2_goto (tgt := 19) d_Read_readsPart_10 rfl ?_
  refine V2_zreturn d_Read_readsPart_19 rfl (res_01 hA) ?_
  exact xQi (hQ rA GA hA) rfl rfl
theorem c_Read_level_0_loop {L : Nat} {xs : Nat → Int32} {d : Nat} {Q : Option Value → xF → Prop} {B : xF} {T : Nat → Int32} {N use o : Nat} {p : PS → Bool × PS} (hB : TPc B T N) (hg : goodT N use p) (hp : CKpart L xs B N use o p (d + 3) (1 : Int32)) : ∀ (n : Nat) (f i : Nat) (s : PS) (G : xF), CR B use s G → okR use s → s.at_ ≤ N → s.n + o ≤ s.at_ → 1 ≤ s.dep → i + f = 60 → (∀ r F1, RESc B use o (lpT T N p 0 f s) r F1 → Q (some (.int r)) F1) → f < n → V2 L xs (d + 4) m_Read_readsLevel 28 [some (.ref 47), some (.int (0 : Int32)), some (.int (nI o)), some (.int (60 : Int32)), some (.int (nI i)), none] [] G Q := by
  intro n
  induction n with
  | zero => exact fun f i s G g1 g2 g3 g4 g5 g6 hQ h2 => absurd h2 (by omega)
  | succ n ih =>
    intro f i s G g1 g2 g3 g4 g5 g6 hQ h2
    have hN := hB.2.1
    refine V2_iload (i := 4) d_Read_readsLevel_28 rfl ?_
    refine V2_iload_n (i := 3) d_Read_readsLevel_30 rfl rfl ?_
    refine V2_icmp_ge (tgt := 90) d_Read_readsLevel_31 rfl (fun c1 => ?_) (fun c1 => ?_)
    · refine V2_iconst (v := 1) d_Read_readsLevel_90 rfl ?_
      refine V2_zreturn d_Read_readsLevel_91 rfl (by decide) ?_
      have hf0 : f = 0 := by
        have := (nI_leI (a := 60) (by omega) (by omega)).mp c1
        omega
      subst hf0
      exact xQi (hQ 1 G (Or.inl ⟨rfl, rfl, g1⟩)) rfl rfl
    · obtain ⟨f, rfl⟩ : ∃ f1, f = f1 + 1 := ⟨f - 1, by
        have h8 : ¬ (60 : Nat) ≤ i := fun hh => c1 ((nI_leI (a := 60) (by omega) (by omega)).mpr hh)
        omega⟩
      refine V2_aload_n (i := 0) d_Read_readsLevel_34 rfl rfl ?_
      refine V2_callV [] d_Read_readsLevel_35 rfl rfl lk_Read_52 mo_Read_sign (by decide) rfl rfl rfl (Nat.le_of_ble_eq_true rfl) (Nat.le_of_ble_eq_true rfl) ?_
      refine c_Read_sign (T := T) (N := N) (a := s.at_) ((congrFun (cr_48 g1) 1).trans hB.1) hB.2.1 (fun i hi => (congrFun (cr_49 g1) i).trans (hB.2.2 i hi)) (g1).2.2.1 (by omega) ?_
      refine V2_topi (fun v2 ev2 => ?_)
      refine V2_callS [.int v2] d_Read_readsLevel_38 rfl rfl lk_Read_55 mo_Read_levelOf (Nat.le_of_ble_eq_true rfl) (Nat.le_of_ble_eq_true rfl) ?_
      refine c_Read_levelOf ?_
      refine V2_topi (fun v3 ev3 => ?_)
      refine V2_iload_n (i := 1) d_Read_readsLevel_41 rfl rfl ?_
      refine V2_icmp_ne (tgt := 90) d_Read_readsLevel_42 rfl (fun c4 => ?_) (fun c4 => ?_)
      · refine V2_iconst (v := 1) d_Read_readsLevel_90 rfl ?_
        refine V2_zreturn d_Read_readsLevel_91 rfl (by decide) ?_
        have hlv : ¬ lvT (sgT T N s.at_) = 0 := fun hh => c4 (by subst ev3 ev2; exact (lvI_eq (by decide)).mpr hh)
        have hf9 : lpT T N p 0 (f + 1) s = (true, s) := if_neg hlv
        rw [hf9] at hQ
        exact xQi (hQ 1 G (Or.inl ⟨rfl, rfl, g1⟩)) rfl rfl
      · have hlv : lvT (sgT T N s.at_) = 0 := (lvI_eq (by decide)).mp (by have h9 := c4; subst ev3 ev2; exact h9)
        have hf9 : lpT T N p 0 (f + 1) s = andT (p s.go) (fun s1 => lpT T N p 0 f (s1.add 3 (sgT T N s.at_))) := if_pos hlv
        have hlt := lvT_lt hlv (by decide)
        have gg := hg s.go g2 (show s.at_ + 1 ≤ N from hlt)
        have eg1 : s.go.at_ = s.at_ + 1 := rfl
        have eg2 : s.go.n = s.n := rfl
        refine V2_aload_n (i := 0) d_Read_readsLevel_45 rfl rfl ?_
        refine V2_callV [] d_Read_readsLevel_46 rfl rfl lk_Read_52 mo_Read_sign (by decide) rfl rfl rfl (Nat.le_of_ble_eq_true rfl) (Nat.le_of_ble_eq_true rfl) ?_
        refine c_Read_sign (T := T) (N := N) (a := s.at_) ((congrFun (cr_48 g1) 1).trans hB.1) hB.2.1 (fun i hi => (congrFun (cr_49 g1) i).trans (hB.2.2 i hi)) (g1).2.2.1 (by omega) ?_
        refine V2_topi (fun v5 ev5 => ?_)
        refine V2_istore (i := 5) (l' := [some (.ref 47), some (.int (0 : Int32)), some (.int (nI o)), some (.int (60 : Int32)), some (.int (nI i)), some (.int v5)]) d_Read_readsLevel_49 (xst_i (Nat.le_of_ble_eq_true rfl) rfl rfl) ?_
        refine V2_aload_n (i := 0) d_Read_readsLevel_51 rfl rfl ?_
        refine V2_dup d_Read_readsLevel_52 rfl ?_
        refine V2_get (v := G 47 3) d_Read_readsLevel_53 fl_Read_27 (by decide) rfl (by decide) rfl rfl ?_
        refine V2_topi (fun v6 ev6 => ?_)
        refine V2_iconst (v := 1) d_Read_readsLevel_56 rfl ?_
        refine V2_iadd d_Read_readsLevel_57 ?_
        refine V2_topi (fun v7 ev7 => ?_)
        refine V2_put d_Read_readsLevel_58 fl_Read_27 (by decide) rfl (by decide) rfl ?_
        refine V2_aload_n (i := 0) d_Read_readsLevel_61 rfl rfl ?_
        refine V2_iload_n (i := 1) d_Read_readsLevel_62 rfl rfl ?_
        refine V2_iconst (v := 1) d_Read_readsLevel_63 rfl ?_
        refine V2_iadd d_Read_readsLevel_64 ?_
        refine V2_lit (v := 1) (by decide) ?_
        refine V2_iload_n (i := 2) d_Read_readsLevel_65 rfl rfl ?_
        refine V2_callV [.int (1 : Int32), .int (nI o)] d_Read_readsLevel_66 rfl rfl lk_Read_37 mo_Read_readsPart (by decide) rfl rfl rfl (Nat.le_of_ble_eq_true rfl) (Nat.le_of_ble_eq_true rfl) ?_
        have cr8 : CR B use s.go (xp G 47 3 v7) := by
          subst ev7 ev6 ev5 ev3 ev2
          exact cr_go g1
        refine hp _ _ s.go cr8 g2 (by omega) (by omega) (fun rA GA hA => ?_)
        rcases hA with ⟨rfl, okA, crA⟩ | ⟨rfl, okA, crA⟩
        · obtain ⟨k1, k2, k3, k4⟩ := gg.2.2 okA
          have e5 : ((p s.go).2.add 3 (sgT T N s.at_)).at_ = (p s.go).2.at_ := rfl
          have e6 : ((p s.go).2.add 3 (sgT T N s.at_)).n = (p s.go).2.n + 1 := rfl
          have e7 := dep_add (p s.go).2 3 (sgT T N s.at_)
          rw [if_neg (by decide), if_neg (by decide)] at e7
          have e8 : s.go.dep = s.dep := rfl
          have hsg : isSign (sgT T N s.at_) := lv_sign (by omega)
          rw [hf9, andT_t okA] at hQ
          refine V2_if_ne (tgt := 74) d_Read_readsLevel_69 rfl (fun _ => ?_) (fun c => (by first | exact absurd c (by decide) | exact absurd (by decide) c))
          refine V2_aload_n (i := 0) d_Read_readsLevel_74 rfl rfl ?_
          refine V2_getr (a := 50) d_Read_readsLevel_75 fl_Read_20 (by decide) rfl (by decide) rfl ?_
          refine V2_iload (i := 5) d_Read_readsLevel_78 rfl ?_
          refine V2_ineg d_Read_readsLevel_80 ?_
          refine V2_topi (fun v8 ev8 => ?_)
          refine V2_callV [.int v8] d_Read_readsLevel_81 rfl rfl lk_Read_59 mo_Nums_add (by decide) rfl rfl rfl (Nat.le_of_ble_eq_true rfl) (Nat.le_of_ble_eq_true rfl) ?_
          have enc : v8 = encT 3 (sgT T N s.at_) := by
            subst ev8 ev7 ev6 ev5 ev3 ev2
            exact (encT_3 rfl).symm
          have gA := gg.2.1
          refine c_Nums_add_50 (P := (p s.go).2.n) crA.2.2.2.1 (by omega) ?_
          obtain ⟨v9, ev9⟩ : ∃ y : Int32, y = nI i + 1 := ⟨_, rfl⟩
          refine V2_iinc (i := 4) (v := v9) (l' := [some (.ref 47), some (.int (0 : Int32)), some (.int (nI o)), some (.int (60 : Int32)), some (.int v9), some (.int v5)]) d_Read_readsLevel_84 rfl (by rw [ev9]; rfl) (xst_i (Nat.le_of_ble_eq_true rfl) rfl rfl) ?_
          refine V2_goto (tgt := 28) d_Read_readsLevel_87 rfl ?_
          refine V2.weak (l' := [some (.ref 47), some (.int (0 : Int32)), some (.int (nI o)), some (.int (60 : Int32)), some (.int v9), none]) (V2.to (ih f (i + 1) _ _ (cr_add crA enc) (ok_add k3 (Or.inr (Or.inr (Or.inr ⟨rfl, by omega, hsg⟩)))) (by omega) (by omega) (by omega) (by omega) hQ (by omega)) rfl ?_ rfl rfl) ⟨rfl, rfl, rfl, rfl, rfl, trivial⟩
          rw [ev9, nI_1]
        · refine V2_if_ne (tgt := 74) d_Read_readsLevel_69 rfl (fun c => (by first | exact absurd c (by decide) | exact absurd (by decide) c)) (fun _ => ?_)
          refine V2_iconst (v := 0) d_Read_readsLevel_72 rfl ?_
          refine V2_zreturn d_Read_readsLevel_73 rfl (by decide) ?_
          exact xQi (hQ _ _ (Or.inr ⟨rfl, by rw [hf9, andT_f okA]; exact okA, by rw [hf9, andT_f okA]; exact crA⟩)) rfl rfl
theorem c_Read_level_0 {L : Nat} {xs : Nat → Int32} {d : Nat} {Q : Option Value → xF → Prop} {F : xF} {B : xF} {T : Nat → Int32} {N use o : Nat} {s : PS} {p : PS → Bool × PS} (hB : TPc B T N) (hg : goodT N use p) (hp : CKpart L xs B N use o p (d + 3) (1 : Int32)) (hR : CR B use s F) (hK : okR use s) (ha : s.at_ ≤ N) (ho : s.n + o ≤ s.at_) (hQ : ∀ r F1, RESc B use o (lvS T N 0 60 p s) r F1 → Q (some (.int r)) F1) : V2 L xs (d + 4) m_Read_readsLevel 0 (xEntry [.ref 47, .int (0 : Int32), .int (nI o)] 6) [] F Q := by
  refine V2.to (l' := [some (.ref 47), some (.int (0 : Int32)), some (.int (nI o)), none, none, none]) ?_ rfl rfl rfl rfl
  refine V2_aload_n (i := 0) d_Read_readsLevel_0 rfl rfl ?_
  refine V2_iload_n (i := 1) d_Read_readsLevel_1 rfl rfl ?_
  refine V2_iconst (v := 1) d_Read_readsLevel_2 rfl ?_
  refine V2_iadd d_Read_readsLevel_3 ?_
  refine V2_lit (v := 1) (by decide) ?_
  refine V2_iload_n (i := 2) d_Read_readsLevel_4 rfl rfl ?_
  refine V2_callV [.int (1 : Int32), .int (nI o)] d_Read_readsLevel_5 rfl rfl lk_Read_37 mo_Read_readsPart (by decide) rfl rfl rfl (Nat.le_of_ble_eq_true rfl) (Nat.le_of_ble_eq_true rfl) ?_
  have gg := hg s hK ha
  have hl9 : lvS T N 0 60 p s = andT (p s) (lpT T N p 0 60) := rfl
  refine hp _ _ s hR hK ha ho (fun rA GA hA => ?_)
  rcases hA with ⟨rfl, okA, crA⟩ | ⟨rfl, okA, crA⟩
  · refine V2_if_ne (tgt := 13) d_Read_readsLevel_8 rfl (fun _ => ?_) (fun c => (by first | exact absurd c (by decide) | exact absurd (by decide) c))
    refine V2_iload_n (i := 1) d_Read_readsLevel_13 rfl rfl ?_
    refine V2_iconst (v := 2) d_Read_readsLevel_14 rfl ?_
    refine V2_icmp_ne (tgt := 22) d_Read_readsLevel_15 rfl (fun _ => ?_) (fun c => (by first | exact absurd c (by decide) | exact absurd (by decide) c))
    refine V2_bipush (v := 60) d_Read_readsLevel_22 rfl ?_
    refine V2_istore_n (i := 3) (l' := [some (.ref 47), some (.int (0 : Int32)), some (.int (nI o)), some (.int (60 : Int32)), none, none]) d_Read_readsLevel_24 rfl (xst_i (Nat.le_of_ble_eq_true rfl) rfl rfl) ?_
    refine V2_iconst (v := 0) d_Read_readsLevel_25 rfl ?_
    refine V2_istore (i := 4) (l' := [some (.ref 47), some (.int (0 : Int32)), some (.int (nI o)), some (.int (60 : Int32)), some (.int (0 : Int32)), none]) d_Read_readsLevel_26 (xst_i (Nat.le_of_ble_eq_true rfl) rfl rfl) ?_
    obtain ⟨k1, k2, k3, k4⟩ := gg.2.2 okA
    rw [hl9, andT_t okA] at hQ
    exact V2.weak (V2.to (c_Read_level_0_loop hB hg hp 61 60 0 (p s).2 _ crA k3 gg.2.1 (by omega) (by omega) rfl hQ (by omega)) rfl rfl rfl rfl) ⟨rfl, rfl, rfl, rfl, rfl, trivial⟩
  · refine V2_if_ne (tgt := 13) d_Read_readsLevel_8 rfl (fun c => (by first | exact absurd c (by decide) | exact absurd (by decide) c)) (fun _ => ?_)
    refine V2_iconst (v := 0) d_Read_readsLevel_11 rfl ?_
    refine V2_zreturn d_Read_readsLevel_12 rfl (by decide) ?_
    exact xQi (hQ _ _ (Or.inr ⟨rfl, by rw [hl9, andT_f okA]; exact okA, by rw [hl9, andT_f okA]; exact crA⟩)) rfl rfl
theorem c_Read_level_1_loop {L : Nat} {xs : Nat → Int32} {d : Nat} {Q : Option Value → xF → Prop} {B : xF} {T : Nat → Int32} {N use o : Nat} {p : PS → Bool × PS} (hB : TPc B T N) (hg : goodT N use p) (hp : CKpart L xs B N use o p (d + 3) (2 : Int32)) : ∀ (n : Nat) (f i : Nat) (s : PS) (G : xF), CR B use s G → okR use s → s.at_ ≤ N → s.n + o ≤ s.at_ → 1 ≤ s.dep → i + f = 60 → (∀ r F1, RESc B use o (lpT T N p 1 f s) r F1 → Q (some (.int r)) F1) → f < n → V2 L xs (d + 4) m_Read_readsLevel 28 [some (.ref 47), some (.int (1 : Int32)), some (.int (nI o)), some (.int (60 : Int32)), some (.int (nI i)), none] [] G Q := by
  intro n
  induction n with
  | zero => exact fun f i s G g1 g2 g3 g4 g5 g6 hQ h2 => absurd h2 (by omega)
  | succ n ih =>
    intro f i s G g1 g2 g3 g4 g5 g6 hQ h2
    have hN := hB.2.1
    refine V2_iload (i := 4) d_Read_readsLevel_28 rfl ?_
    refine V2_iload_n (i := 3) d_Read_readsLevel_30 rfl rfl ?_
    refine V2_icmp_ge (tgt := 90) d_Read_readsLevel_31 rfl (fun c1 => ?_) (fun c1 => ?_)
    · refine V2_iconst (v := 1) d_Read_readsLevel_90 rfl ?_
      refine V2_zreturn d_Read_readsLevel_91 rfl (by decide) ?_
      have hf0 : f = 0 := by
        have := (nI_leI (a := 60) (by omega) (by omega)).mp c1
        omega
      subst hf0
      exact xQi (hQ 1 G (Or.inl ⟨rfl, rfl, g1⟩)) rfl rfl
    · obtain ⟨f, rfl⟩ : ∃ f1, f = f1 + 1 := ⟨f - 1, by
        have h8 : ¬ (60 : Nat) ≤ i := fun hh => c1 ((nI_leI (a := 60) (by omega) (by omega)).mpr hh)
        omega⟩
      refine V2_aload_n (i := 0) d_Read_readsLevel_34 rfl rfl ?_
      refine V2_callV [] d_Read_readsLevel_35 rfl rfl lk_Read_52 mo_Read_sign (by decide) rfl rfl rfl (Nat.le_of_ble_eq_true rfl) (Nat.le_of_ble_eq_true rfl) ?_
      refine c_Read_sign (T := T) (N := N) (a := s.at_) ((congrFun (cr_48 g1) 1).trans hB.1) hB.2.1 (fun i hi => (congrFun (cr_49 g1) i).trans (hB.2.2 i hi)) (g1).2.2.1 (by omega) ?_
      refine V2_topi (fun v2 ev2 => ?_)
      refine V2_callS [.int v2] d_Read_readsLevel_38 rfl rfl lk_Read_55 mo_Read_levelOf (Nat.le_of_ble_eq_true rfl) (Nat.le_of_ble_eq_true rfl) ?_
      refine c_Read_levelOf ?_
      refine V2_topi (fun v3 ev3 => ?_)
      refine V2_iload_n (i := 1) d_Read_readsLevel_41 rfl rfl ?_
      refine V2_icmp_ne (tgt := 90) d_Read_readsLevel_42 rfl (fun c4 => ?_) (fun c4 => ?_)
      · refine V2_iconst (v := 1) d_Read_readsLevel_90 rfl ?_
        refine V2_zreturn d_Read_readsLevel_91 rfl (by decide) ?_
        have hlv : ¬ lvT (sgT T N s.at_) = 1 := fun hh => c4 (by subst ev3 ev2; exact (lvI_eq (by decide)).mpr hh)
        have hf9 : lpT T N p 1 (f + 1) s = (true, s) := if_neg hlv
        rw [hf9] at hQ
        exact xQi (hQ 1 G (Or.inl ⟨rfl, rfl, g1⟩)) rfl rfl
      · have hlv : lvT (sgT T N s.at_) = 1 := (lvI_eq (by decide)).mp (by have h9 := c4; subst ev3 ev2; exact h9)
        have hf9 : lpT T N p 1 (f + 1) s = andT (p s.go) (fun s1 => lpT T N p 1 f (s1.add 3 (sgT T N s.at_))) := if_pos hlv
        have hlt := lvT_lt hlv (by decide)
        have gg := hg s.go g2 (show s.at_ + 1 ≤ N from hlt)
        have eg1 : s.go.at_ = s.at_ + 1 := rfl
        have eg2 : s.go.n = s.n := rfl
        refine V2_aload_n (i := 0) d_Read_readsLevel_45 rfl rfl ?_
        refine V2_callV [] d_Read_readsLevel_46 rfl rfl lk_Read_52 mo_Read_sign (by decide) rfl rfl rfl (Nat.le_of_ble_eq_true rfl) (Nat.le_of_ble_eq_true rfl) ?_
        refine c_Read_sign (T := T) (N := N) (a := s.at_) ((congrFun (cr_48 g1) 1).trans hB.1) hB.2.1 (fun i hi => (congrFun (cr_49 g1) i).trans (hB.2.2 i hi)) (g1).2.2.1 (by omega) ?_
        refine V2_topi (fun v5 ev5 => ?_)
        refine V2_istore (i := 5) (l' := [some (.ref 47), some (.int (1 : Int32)), some (.int (nI o)), some (.int (60 : Int32)), some (.int (nI i)), some (.int v5)]) d_Read_readsLevel_49 (xst_i (Nat.le_of_ble_eq_true rfl) rfl rfl) ?_
        refine V2_aload_n (i := 0) d_Read_readsLevel_51 rfl rfl ?_
        refine V2_dup d_Read_readsLevel_52 rfl ?_
        refine V2_get (v := G 47 3) d_Read_readsLevel_53 fl_Read_27 (by decide) rfl (by decide) rfl rfl ?_
        refine V2_topi (fun v6 ev6 => ?_)
        refine V2_iconst (v := 1) d_Read_readsLevel_56 rfl ?_
        refine V2_iadd d_Read_readsLevel_57 ?_
        refine V2_topi (fun v7 ev7 => ?_)
        refine V2_put d_Read_readsLevel_58 fl_Read_27 (by decide) rfl (by decide) rfl ?_
        refine V2_aload_n (i := 0) d_Read_readsLevel_61 rfl rfl ?_
        refine V2_iload_n (i := 1) d_Read_readsLevel_62 rfl rfl ?_
        refine V2_iconst (v := 1) d_Read_readsLevel_63 rfl ?_
        refine V2_iadd d_Read_readsLevel_64 ?_
        refine V2_lit (v := 2) (by decide) ?_
        refine V2_iload_n (i := 2) d_Read_readsLevel_65 rfl rfl ?_
        refine V2_callV [.int (2 : Int32), .int (nI o)] d_Read_readsLevel_66 rfl rfl lk_Read_37 mo_Read_readsPart (by decide) rfl rfl rfl (Nat.le_of_ble_eq_true rfl) (Nat.le_of_ble_eq_true rfl) ?_
        have cr8 : CR B use s.go (xp G 47 3 v7) := by
          subst ev7 ev6 ev5 ev3 ev2
          exact cr_go g1
        refine hp _ _ s.go cr8 g2 (by omega) (by omega) (fun rA GA hA => ?_)
        rcases hA with ⟨rfl, okA, crA⟩ | ⟨rfl, okA, crA⟩
        · obtain ⟨k1, k2, k3, k4⟩ := gg.2.2 okA
          have e5 : ((p s.go).2.add 3 (sgT T N s.at_)).at_ = (p s.go).2.at_ := rfl
          have e6 : ((p s.go).2.add 3 (sgT T N s.at_)).n = (p s.go).2.n + 1 := rfl
          have e7 := dep_add (p s.go).2 3 (sgT T N s.at_)
          rw [if_neg (by decide), if_neg (by decide)] at e7
          have e8 : s.go.dep = s.dep := rfl
          have hsg : isSign (sgT T N s.at_) := lv_sign (by omega)
          rw [hf9, andT_t okA] at hQ
          refine V2_if_ne (tgt := 74) d_Read_readsLevel_69 rfl (fun _ => ?_) (fun c => (by first | exact absurd c (by decide) | exact absurd (by decide) c))
          refine V2_aload_n (i := 0) d_Read_readsLevel_74 rfl rfl ?_
          refine V2_getr (a := 50) d_Read_readsLevel_75 fl_Read_20 (by decide) rfl (by decide) rfl ?_
          refine V2_iload (i := 5) d_Read_readsLevel_78 rfl ?_
          refine V2_ineg d_Read_readsLevel_80 ?_
          refine V2_topi (fun v8 ev8 => ?_)
          refine V2_callV [.int v8] d_Read_readsLevel_81 rfl rfl lk_Read_59 mo_Nums_add (by decide) rfl rfl rfl (Nat.le_of_ble_eq_true rfl) (Nat.le_of_ble_eq_true rfl) ?_
          have enc : v8 = encT 3 (sgT T N s.at_) := by
            subst ev8 ev7 ev6 ev5 ev3 ev2
            exact (encT_3 rfl).symm
          have gA := gg.2.1
          refine c_Nums_add_50 (P := (p s.go).2.n) crA.2.2.2.1 (by omega) ?_
          obtain ⟨v9, ev9⟩ : ∃ y : Int32, y = nI i + 1 := ⟨_, rfl⟩
          refine V2_iinc (i := 4) (v := v9) (l' := [some (.ref 47), some (.int (1 : Int32)), some (.int (nI o)), some (.int (60 : Int32)), some (.int v9), some (.int v5)]) d_Read_readsLevel_84 rfl (by rw [ev9]; rfl) (xst_i (Nat.le_of_ble_eq_true rfl) rfl rfl) ?_
          refine V2_goto (tgt := 28) d_Read_readsLevel_87 rfl ?_
          refine V2.weak (l' := [some (.ref 47), some (.int (1 : Int32)), some (.int (nI o)), some (.int (60 : Int32)), some (.int v9), none]) (V2.to (ih f (i + 1) _ _ (cr_add crA enc) (ok_add k3 (Or.inr (Or.inr (Or.inr ⟨rfl, by omega, hsg⟩)))) (by omega) (by omega) (by omega) (by omega) hQ (by omega)) rfl ?_ rfl rfl) ⟨rfl, rfl, rfl, rfl, rfl, trivial⟩
          rw [ev9, nI_1]
        · refine V2_if_ne (tgt := 74) d_Read_readsLevel_69 rfl (fun c => (by first | exact absurd c (by decide) | exact absurd (by decide) c)) (fun _ => ?_)
          refine V2_iconst (v := 0) d_Read_readsLevel_72 rfl ?_
          refine V2_zreturn d_Read_readsLevel_73 rfl (by decide) ?_
          exact xQi (hQ _ _ (Or.inr ⟨rfl, by rw [hf9, andT_f okA]; exact okA, by rw [hf9, andT_f okA]; exact crA⟩)) rfl rfl
theorem c_Read_level_1 {L : Nat} {xs : Nat → Int32} {d : Nat} {Q : Option Value → xF → Prop} {F : xF} {B : xF} {T : Nat → Int32} {N use o : Nat} {s : PS} {p : PS → Bool × PS} (hB : TPc B T N) (hg : goodT N use p) (hp : CKpart L xs B N use o p (d + 3) (2 : Int32)) (hR : CR B use s F) (hK : okR use s) (ha : s.at_ ≤ N) (ho : s.n + o ≤ s.at_) (hQ : ∀ r F1, RESc B use o (lvS T N 1 60 p s) r F1 → Q (some (.int r)) F1) : V2 L xs (d + 4) m_Read_readsLevel 0 (xEntry [.ref 47, .int (1 : Int32), .int (nI o)] 6) [] F Q := by
  refine V2.to (l' := [some (.ref 47), some (.int (1 : Int32)), some (.int (nI o)), none, none, none]) ?_ rfl rfl rfl rfl
  refine V2_aload_n (i := 0) d_Read_readsLevel_0 rfl rfl ?_
  refine V2_iload_n (i := 1) d_Read_readsLevel_1 rfl rfl ?_
  refine V2_iconst (v := 1) d_Read_readsLevel_2 rfl ?_
  refine V2_iadd d_Read_readsLevel_3 ?_
  refine V2_lit (v := 2) (by decide) ?_
  refine V2_iload_n (i := 2) d_Read_readsLevel_4 rfl rfl ?_
  refine V2_callV [.int (2 : Int32), .int (nI o)] d_Read_readsLevel_5 rfl rfl lk_Read_37 mo_Read_readsPart (by decide) rfl rfl rfl (Nat.le_of_ble_eq_true rfl) (Nat.le_of_ble_eq_true rfl) ?_
  have gg := hg s hK ha
  have hl9 : lvS T N 1 60 p s = andT (p s) (lpT T N p 1 60) := rfl
  refine hp _ _ s hR hK ha ho (fun rA GA hA => ?_)
  rcases hA with ⟨rfl, okA, crA⟩ | ⟨rfl, okA, crA⟩
  · refine V2_if_ne (tgt := 13) d_Read_readsLevel_8 rfl (fun _ => ?_) (fun c => (by first | exact absurd c (by decide) | exact absurd (by decide) c))
    refine V2_iload_n (i := 1) d_Read_readsLevel_13 rfl rfl ?_
    refine V2_iconst (v := 2) d_Read_readsLevel_14 rfl ?_
    refine V2_icmp_ne (tgt := 22) d_Read_readsLevel_15 rfl (fun _ => ?_) (fun c => (by first | exact absurd c (by decide) | exact absurd (by decide) c))
    refine V2_bipush (v := 60) d_Read_readsLevel_22 rfl ?_
    refine V2_istore_n (i := 3) (l' := [some (.ref 47), some (.int (1 : Int32)), some (.int (nI o)), some (.int (60 : Int32)), none, none]) d_Read_readsLevel_24 rfl (xst_i (Nat.le_of_ble_eq_true rfl) rfl rfl) ?_
    refine V2_iconst (v := 0) d_Read_readsLevel_25 rfl ?_
    refine V2_istore (i := 4) (l' := [some (.ref 47), some (.int (1 : Int32)), some (.int (nI o)), some (.int (60 : Int32)), some (.int (0 : Int32)), none]) d_Read_readsLevel_26 (xst_i (Nat.le_of_ble_eq_true rfl) rfl rfl) ?_
    obtain ⟨k1, k2, k3, k4⟩ := gg.2.2 okA
    rw [hl9, andT_t okA] at hQ
    exact V2.weak (V2.to (c_Read_level_1_loop hB hg hp 61 60 0 (p s).2 _ crA k3 gg.2.1 (by omega) (by omega) rfl hQ (by omega)) rfl rfl rfl rfl) ⟨rfl, rfl, rfl, rfl, rfl, trivial⟩
  · refine V2_if_ne (tgt := 13) d_Read_readsLevel_8 rfl (fun c => (by first | exact absurd c (by decide) | exact absurd (by decide) c)) (fun _ => ?_)
    refine V2_iconst (v := 0) d_Read_readsLevel_11 rfl ?_
    refine V2_zreturn d_Read_readsLevel_12 rfl (by decide) ?_
    exact xQi (hQ _ _ (Or.inr ⟨rfl, by rw [hl9, andT_f okA]; exact okA, by rw [hl9, andT_f okA]; exact crA⟩)) rfl rfl
theorem c_Read_level_2_loop {L : Nat} {xs : Nat → Int32} {d : Nat} {Q : Option Value → xF → Prop} {B : xF} {T : Nat → Int32} {N use o : Nat} {p : PS → Bool × PS} (hB : TPc B T N) (hg : goodT N use p) (hp : CKpart L xs B N use o p (d + 3) (3 : Int32)) : ∀ (n : Nat) (f i : Nat) (s : PS) (G : xF), CR B use s G → okR use s → s.at_ ≤ N → s.n + o ≤ s.at_ → 1 ≤ s.dep → i + f = 1 → (∀ r F1, RESc B use o (lpT T N p 2 f s) r F1 → Q (some (.int r)) F1) → f < n → V2 L xs (d + 4) m_Read_readsLevel 28 [some (.ref 47), some (.int (2 : Int32)), some (.int (nI o)), some (.int (1 : Int32)), some (.int (nI i)), none] [] G Q := by
  intro n
  induction n with
  | zero => exact fun f i s G g1 g2 g3 g4 g5 g6 hQ h2 => absurd h2 (by omega)
  | succ n ih =>
    intro f i s G g1 g2 g3 g4 g5 g6 hQ h2
    have hN := hB.2.1
    refine V2_iload (i := 4) d_Read_readsLevel_28 rfl ?_
    refine V2_iload_n (i := 3) d_Read_readsLevel_30 rfl rfl ?_
    refine V2_icmp_ge (tgt := 90) d_Read_readsLevel_31 rfl (fun c1 => ?_) (fun c1 => ?_)
    · refine V2_iconst (v := 1) d_Read_readsLevel_90 rfl ?_
      refine V2_zreturn d_Read_readsLevel_91 rfl (by decide) ?_
      have hf0 : f = 0 := by
        have := (nI_leI (a := 1) (by omega) (by omega)).mp c1
        omega
      subst hf0
      exact xQi (hQ 1 G (Or.inl ⟨rfl, rfl, g1⟩)) rfl rfl
    · obtain ⟨f, rfl⟩ : ∃ f1, f = f1 + 1 := ⟨f - 1, by
        have h8 : ¬ (1 : Nat) ≤ i := fun hh => c1 ((nI_leI (a := 1) (by omega) (by omega)).mpr hh)
        omega⟩
      refine V2_aload_n (i := 0) d_Read_readsLevel_34 rfl rfl ?_
      refine V2_callV [] d_Read_readsLevel_35 rfl rfl lk_Read_52 mo_Read_sign (by decide) rfl rfl rfl (Nat.le_of_ble_eq_true rfl) (Nat.le_of_ble_eq_true rfl) ?_
      refine c_Read_sign (T := T) (N := N) (a := s.at_) ((congrFun (cr_48 g1) 1).trans hB.1) hB.2.1 (fun i hi => (congrFun (cr_49 g1) i).trans (hB.2.2 i hi)) (g1).2.2.1 (by omega) ?_
      refine V2_topi (fun v2 ev2 => ?_)
      refine V2_callS [.int v2] d_Read_readsLevel_38 rfl rfl lk_Read_55 mo_Read_levelOf (Nat.le_of_ble_eq_true rfl) (Nat.le_of_ble_eq_true rfl) ?_
      refine c_Read_levelOf ?_
      refine V2_topi (fun v3 ev3 => ?_)
      refine V2_iload_n (i := 1) d_Read_readsLevel_41 rfl rfl ?_
      refine V2_icmp_ne (tgt := 90) d_Read_readsLevel_42 rfl (fun c4 => ?_) (fun c4 => ?_)
      · refine V2_iconst (v := 1) d_Read_readsLevel_90 rfl ?_
        refine V2_zreturn d_Read_readsLevel_91 rfl (by decide) ?_
        have hlv : ¬ lvT (sgT T N s.at_) = 2 := fun hh => c4 (by subst ev3 ev2; exact (lvI_eq (by decide)).mpr hh)
        have hf9 : lpT T N p 2 (f + 1) s = (true, s) := if_neg hlv
        rw [hf9] at hQ
        exact xQi (hQ 1 G (Or.inl ⟨rfl, rfl, g1⟩)) rfl rfl
      · have hlv : lvT (sgT T N s.at_) = 2 := (lvI_eq (by decide)).mp (by have h9 := c4; subst ev3 ev2; exact h9)
        have hf9 : lpT T N p 2 (f + 1) s = andT (p s.go) (fun s1 => lpT T N p 2 f (s1.add 3 (sgT T N s.at_))) := if_pos hlv
        have hlt := lvT_lt hlv (by decide)
        have gg := hg s.go g2 (show s.at_ + 1 ≤ N from hlt)
        have eg1 : s.go.at_ = s.at_ + 1 := rfl
        have eg2 : s.go.n = s.n := rfl
        refine V2_aload_n (i := 0) d_Read_readsLevel_45 rfl rfl ?_
        refine V2_callV [] d_Read_readsLevel_46 rfl rfl lk_Read_52 mo_Read_sign (by decide) rfl rfl rfl (Nat.le_of_ble_eq_true rfl) (Nat.le_of_ble_eq_true rfl) ?_
        refine c_Read_sign (T := T) (N := N) (a := s.at_) ((congrFun (cr_48 g1) 1).trans hB.1) hB.2.1 (fun i hi => (congrFun (cr_49 g1) i).trans (hB.2.2 i hi)) (g1).2.2.1 (by omega) ?_
        refine V2_topi (fun v5 ev5 => ?_)
        refine V2_istore (i := 5) (l' := [some (.ref 47), some (.int (2 : Int32)), some (.int (nI o)), some (.int (1 : Int32)), some (.int (nI i)), some (.int v5)]) d_Read_readsLevel_49 (xst_i (Nat.le_of_ble_eq_true rfl) rfl rfl) ?_
        refine V2_aload_n (i := 0) d_Read_readsLevel_51 rfl rfl ?_
        refine V2_dup d_Read_readsLevel_52 rfl ?_
        refine V2_get (v := G 47 3) d_Read_readsLevel_53 fl_Read_27 (by decide) rfl (by decide) rfl rfl ?_
        refine V2_topi (fun v6 ev6 => ?_)
        refine V2_iconst (v := 1) d_Read_readsLevel_56 rfl ?_
        refine V2_iadd d_Read_readsLevel_57 ?_
        refine V2_topi (fun v7 ev7 => ?_)
        refine V2_put d_Read_readsLevel_58 fl_Read_27 (by decide) rfl (by decide) rfl ?_
        refine V2_aload_n (i := 0) d_Read_readsLevel_61 rfl rfl ?_
        refine V2_iload_n (i := 1) d_Read_readsLevel_62 rfl rfl ?_
        refine V2_iconst (v := 1) d_Read_readsLevel_63 rfl ?_
        refine V2_iadd d_Read_readsLevel_64 ?_
        refine V2_lit (v := 3) (by decide) ?_
        refine V2_iload_n (i := 2) d_Read_readsLevel_65 rfl rfl ?_
        refine V2_callV [.int (3 : Int32), .int (nI o)] d_Read_readsLevel_66 rfl rfl lk_Read_37 mo_Read_readsPart (by decide) rfl rfl rfl (Nat.le_of_ble_eq_true rfl) (Nat.le_of_ble_eq_true rfl) ?_
        have cr8 : CR B use s.go (xp G 47 3 v7) := by
          subst ev7 ev6 ev5 ev3 ev2
          exact cr_go g1
        refine hp _ _ s.go cr8 g2 (by omega) (by omega) (fun rA GA hA => ?_)
        rcases hA with ⟨rfl, okA, crA⟩ | ⟨rfl, okA, crA⟩
        · obtain ⟨k1, k2, k3, k4⟩ := gg.2.2 okA
          have e5 : ((p s.go).2.add 3 (sgT T N s.at_)).at_ = (p s.go).2.at_ := rfl
          have e6 : ((p s.go).2.add 3 (sgT T N s.at_)).n = (p s.go).2.n + 1 := rfl
          have e7 := dep_add (p s.go).2 3 (sgT T N s.at_)
          rw [if_neg (by decide), if_neg (by decide)] at e7
          have e8 : s.go.dep = s.dep := rfl
          have hsg : isSign (sgT T N s.at_) := lv_sign (by omega)
          rw [hf9, andT_t okA] at hQ
          refine V2_if_ne (tgt := 74) d_Read_readsLevel_69 rfl (fun _ => ?_) (fun c => (by first | exact absurd c (by decide) | exact absurd (by decide) c))
          refine V2_aload_n (i := 0) d_Read_readsLevel_74 rfl rfl ?_
          refine V2_getr (a := 50) d_Read_readsLevel_75 fl_Read_20 (by decide) rfl (by decide) rfl ?_
          refine V2_iload (i := 5) d_Read_readsLevel_78 rfl ?_
          refine V2_ineg d_Read_readsLevel_80 ?_
          refine V2_topi (fun v8 ev8 => ?_)
          refine V2_callV [.int v8] d_Read_readsLevel_81 rfl rfl lk_Read_59 mo_Nums_add (by decide) rfl rfl rfl (Nat.le_of_ble_eq_true rfl) (Nat.le_of_ble_eq_true rfl) ?_
          have enc : v8 = encT 3 (sgT T N s.at_) := by
            subst ev8 ev7 ev6 ev5 ev3 ev2
            exact (encT_3 rfl).symm
          have gA := gg.2.1
          refine c_Nums_add_50 (P := (p s.go).2.n) crA.2.2.2.1 (by omega) ?_
          obtain ⟨v9, ev9⟩ : ∃ y : Int32, y = nI i + 1 := ⟨_, rfl⟩
          refine V2_iinc (i := 4) (v := v9) (l' := [some (.ref 47), some (.int (2 : Int32)), some (.int (nI o)), some (.int (1 : Int32)), some (.int v9), some (.int v5)]) d_Read_readsLevel_84 rfl (by rw [ev9]; rfl) (xst_i (Nat.le_of_ble_eq_true rfl) rfl rfl) ?_
          refine V2_goto (tgt := 28) d_Read_readsLevel_87 rfl ?_
          refine V2.weak (l' := [some (.ref 47), some (.int (2 : Int32)), some (.int (nI o)), some (.int (1 : Int32)), some (.int v9), none]) (V2.to (ih f (i + 1) _ _ (cr_add crA enc) (ok_add k3 (Or.inr (Or.inr (Or.inr ⟨rfl, by omega, hsg⟩)))) (by omega) (by omega) (by omega) (by omega) hQ (by omega)) rfl ?_ rfl rfl) ⟨rfl, rfl, rfl, rfl, rfl, trivial⟩
          rw [ev9, nI_1]
        · refine V2_if_ne (tgt := 74) d_Read_readsLevel_69 rfl (fun c => (by first | exact absurd c (by decide) | exact absurd (by decide) c)) (fun _ => ?_)
          refine V2_iconst (v := 0) d_Read_readsLevel_72 rfl ?_
          refine V2_zreturn d_Read_readsLevel_73 rfl (by decide) ?_
          exact xQi (hQ _ _ (Or.inr ⟨rfl, by rw [hf9, andT_f okA]; exact okA, by rw [hf9, andT_f okA]; exact crA⟩)) rfl rfl
theorem c_Read_level_2 {L : Nat} {xs : Nat → Int32} {d : Nat} {Q : Option Value → xF → Prop} {F : xF} {B : xF} {T : Nat → Int32} {N use o : Nat} {s : PS} {p : PS → Bool × PS} (hB : TPc B T N) (hg : goodT N use p) (hp : CKpart L xs B N use o p (d + 3) (3 : Int32)) (hR : CR B use s F) (hK : okR use s) (ha : s.at_ ≤ N) (ho : s.n + o ≤ s.at_) (hQ : ∀ r F1, RESc B use o (lvS T N 2 1 p s) r F1 → Q (some (.int r)) F1) : V2 L xs (d + 4) m_Read_readsLevel 0 (xEntry [.ref 47, .int (2 : Int32), .int (nI o)] 6) [] F Q := by
  refine V2.to (l' := [some (.ref 47), some (.int (2 : Int32)), some (.int (nI o)), none, none, none]) ?_ rfl rfl rfl rfl
  refine V2_aload_n (i := 0) d_Read_readsLevel_0 rfl rfl ?_
  refine V2_iload_n (i := 1) d_Read_readsLevel_1 rfl rfl ?_
  refine V2_iconst (v := 1) d_Read_readsLevel_2 rfl ?_
  refine V2_iadd d_Read_readsLevel_3 ?_
  refine V2_lit (v := 3) (by decide) ?_
  refine V2_iload_n (i := 2) d_Read_readsLevel_4 rfl rfl ?_
  refine V2_callV [.int (3 : Int32), .int (nI o)] d_Read_readsLevel_5 rfl rfl lk_Read_37 mo_Read_readsPart (by decide) rfl rfl rfl (Nat.le_of_ble_eq_true rfl) (Nat.le_of_ble_eq_true rfl) ?_
  have gg := hg s hK ha
  have hl9 : lvS T N 2 1 p s = andT (p s) (lpT T N p 2 1) := rfl
  refine hp _ _ s hR hK ha ho (fun rA GA hA => ?_)
  rcases hA with ⟨rfl, okA, crA⟩ | ⟨rfl, okA, crA⟩
  · refine V2_if_ne (tgt := 13) d_Read_readsLevel_8 rfl (fun _ => ?_) (fun c => (by first | exact absurd c (by decide) | exact absurd (by decide) c))
    refine V2_iload_n (i := 1) d_Read_readsLevel_13 rfl rfl ?_
    refine V2_iconst (v := 2) d_Read_readsLevel_14 rfl ?_
    refine V2_icmp_ne (tgt := 22) d_Read_readsLevel_15 rfl (fun c => (by first | exact absurd c (by decide) | exact absurd (by decide) c)) (fun _ => ?_)
    refine V2_iconst (v := 1) d_Read_readsLevel_18 rfl ?_
    refine V2_goto (tgt := 24) d_Read_readsLevel_19 rfl ?_
    refine V2_istore_n (i := 3) (l' := [some (.ref 47), some (.int (2 : Int32)), some (.int (nI o)), some (.int (1 : Int32)), none, none]) d_Read_readsLevel_24 rfl (xst_i (Nat.le_of_ble_eq_true rfl) rfl rfl) ?_
    refine V2_iconst (v := 0) d_Read_readsLevel_25 rfl ?_
    refine V2_istore (i := 4) (l' := [some (.ref 47), some (.int (2 : Int32)), some (.int (nI o)), some (.int (1 : Int32)), some (.int (0 : Int32)), none]) d_Read_readsLevel_26 (xst_i (Nat.le_of_ble_eq_true rfl) rfl rfl) ?_
    obtain ⟨k1, k2, k3, k4⟩ := gg.2.2 okA
    rw [hl9, andT_t okA] at hQ
    exact V2.weak (V2.to (c_Read_level_2_loop hB hg hp 2 1 0 (p s).2 _ crA k3 gg.2.1 (by omega) (by omega) rfl hQ (by omega)) rfl rfl rfl rfl) ⟨rfl, rfl, rfl, rfl, rfl, trivial⟩
  · refine V2_if_ne (tgt := 13) d_Read_readsLevel_8 rfl (fun c => (by first | exact absurd c (by decide) | exact absurd (by decide) c)) (fun _ => ?_)
    refine V2_iconst (v := 0) d_Read_readsLevel_11 rfl ?_
    refine V2_zreturn d_Read_readsLevel_12 rfl (by decide) ?_
    exact xQi (hQ _ _ (Or.inr ⟨rfl, by rw [hl9, andT_f okA]; exact okA, by rw [hl9, andT_f okA]; exact crA⟩)) rfl rfl
theorem c_Read_level_3_loop {L : Nat} {xs : Nat → Int32} {d : Nat} {Q : Option Value → xF → Prop} {B : xF} {T : Nat → Int32} {N use o : Nat} {p : PS → Bool × PS} (hB : TPc B T N) (hg : goodT N use p) (hp : CKpart L xs B N use o p (d + 3) (4 : Int32)) : ∀ (n : Nat) (f i : Nat) (s : PS) (G : xF), CR B use s G → okR use s → s.at_ ≤ N → s.n + o ≤ s.at_ → 1 ≤ s.dep → i + f = 60 → (∀ r F1, RESc B use o (lpT T N p 3 f s) r F1 → Q (some (.int r)) F1) → f < n → V2 L xs (d + 4) m_Read_readsLevel 28 [some (.ref 47), some (.int (3 : Int32)), some (.int (nI o)), some (.int (60 : Int32)), some (.int (nI i)), none] [] G Q := by
  intro n
  induction n with
  | zero => exact fun f i s G g1 g2 g3 g4 g5 g6 hQ h2 => absurd h2 (by omega)
  | succ n ih =>
    intro f i s G g1 g2 g3 g4 g5 g6 hQ h2
    have hN := hB.2.1
    refine V2_iload (i := 4) d_Read_readsLevel_28 rfl ?_
    refine V2_iload_n (i := 3) d_Read_readsLevel_30 rfl rfl ?_
    refine V2_icmp_ge (tgt := 90) d_Read_readsLevel_31 rfl (fun c1 => ?_) (fun c1 => ?_)
    · refine V2_iconst (v := 1) d_Read_readsLevel_90 rfl ?_
      refine V2_zreturn d_Read_readsLevel_91 rfl (by decide) ?_
      have hf0 : f = 0 := by
        have := (nI_leI (a := 60) (by omega) (by omega)).mp c1
        omega
      subst hf0
      exact xQi (hQ 1 G (Or.inl ⟨rfl, rfl, g1⟩)) rfl rfl
    · obtain ⟨f, rfl⟩ : ∃ f1, f = f1 + 1 := ⟨f - 1, by
        have h8 : ¬ (60 : Nat) ≤ i := fun hh => c1 ((nI_leI (a := 60) (by omega) (by omega)).mpr hh)
        omega⟩
      refine V2_aload_n (i := 0) d_Read_readsLevel_34 rfl rfl ?_
      refine V2_callV [] d_Read_readsLevel_35 rfl rfl lk_Read_52 mo_Read_sign (by decide) rfl rfl rfl (Nat.le_of_ble_eq_true rfl) (Nat.le_of_ble_eq_true rfl) ?_
      refine c_Read_sign (T := T) (N := N) (a := s.at_) ((congrFun (cr_48 g1) 1).trans hB.1) hB.2.1 (fun i hi => (congrFun (cr_49 g1) i).trans (hB.2.2 i hi)) (g1).2.2.1 (by omega) ?_
      refine V2_topi (fun v2 ev2 => ?_)
      refine V2_callS [.int v2] d_Read_readsLevel_38 rfl rfl lk_Read_55 mo_Read_levelOf (Nat.le_of_ble_eq_true rfl) (Nat.le_of_ble_eq_true rfl) ?_
      refine c_Read_levelOf ?_
      refine V2_topi (fun v3 ev3 => ?_)
      refine V2_iload_n (i := 1) d_Read_readsLevel_41 rfl rfl ?_
      refine V2_icmp_ne (tgt := 90) d_Read_readsLevel_42 rfl (fun c4 => ?_) (fun c4 => ?_)
      · refine V2_iconst (v := 1) d_Read_readsLevel_90 rfl ?_
        refine V2_zreturn d_Read_readsLevel_91 rfl (by decide) ?_
        have hlv : ¬ lvT (sgT T N s.at_) = 3 := fun hh => c4 (by subst ev3 ev2; exact (lvI_eq (by decide)).mpr hh)
        have hf9 : lpT T N p 3 (f + 1) s = (true, s) := if_neg hlv
        rw [hf9] at hQ
        exact xQi (hQ 1 G (Or.inl ⟨rfl, rfl, g1⟩)) rfl rfl
      · have hlv : lvT (sgT T N s.at_) = 3 := (lvI_eq (by decide)).mp (by have h9 := c4; subst ev3 ev2; exact h9)
        have hf9 : lpT T N p 3 (f + 1) s = andT (p s.go) (fun s1 => lpT T N p 3 f (s1.add 3 (sgT T N s.at_))) := if_pos hlv
        have hlt := lvT_lt hlv (by decide)
        have gg := hg s.go g2 (show s.at_ + 1 ≤ N from hlt)
        have eg1 : s.go.at_ = s.at_ + 1 := rfl
        have eg2 : s.go.n = s.n := rfl
        refine V2_aload_n (i := 0) d_Read_readsLevel_45 rfl rfl ?_
        refine V2_callV [] d_Read_readsLevel_46 rfl rfl lk_Read_52 mo_Read_sign (by decide) rfl rfl rfl (Nat.le_of_ble_eq_true rfl) (Nat.le_of_ble_eq_true rfl) ?_
        refine c_Read_sign (T := T) (N := N) (a := s.at_) ((congrFun (cr_48 g1) 1).trans hB.1) hB.2.1 (fun i hi => (congrFun (cr_49 g1) i).trans (hB.2.2 i hi)) (g1).2.2.1 (by omega) ?_
        refine V2_topi (fun v5 ev5 => ?_)
        refine V2_istore (i := 5) (l' := [some (.ref 47), some (.int (3 : Int32)), some (.int (nI o)), some (.int (60 : Int32)), some (.int (nI i)), some (.int v5)]) d_Read_readsLevel_49 (xst_i (Nat.le_of_ble_eq_true rfl) rfl rfl) ?_
        refine V2_aload_n (i := 0) d_Read_readsLevel_51 rfl rfl ?_
        refine V2_dup d_Read_readsLevel_52 rfl ?_
        refine V2_get (v := G 47 3) d_Read_readsLevel_53 fl_Read_27 (by decide) rfl (by decide) rfl rfl ?_
        refine V2_topi (fun v6 ev6 => ?_)
        refine V2_iconst (v := 1) d_Read_readsLevel_56 rfl ?_
        refine V2_iadd d_Read_readsLevel_57 ?_
        refine V2_topi (fun v7 ev7 => ?_)
        refine V2_put d_Read_readsLevel_58 fl_Read_27 (by decide) rfl (by decide) rfl ?_
        refine V2_aload_n (i := 0) d_Read_readsLevel_61 rfl rfl ?_
        refine V2_iload_n (i := 1) d_Read_readsLevel_62 rfl rfl ?_
        refine V2_iconst (v := 1) d_Read_readsLevel_63 rfl ?_
        refine V2_iadd d_Read_readsLevel_64 ?_
        refine V2_lit (v := 4) (by decide) ?_
        refine V2_iload_n (i := 2) d_Read_readsLevel_65 rfl rfl ?_
        refine V2_callV [.int (4 : Int32), .int (nI o)] d_Read_readsLevel_66 rfl rfl lk_Read_37 mo_Read_readsPart (by decide) rfl rfl rfl (Nat.le_of_ble_eq_true rfl) (Nat.le_of_ble_eq_true rfl) ?_
        have cr8 : CR B use s.go (xp G 47 3 v7) := by
          subst ev7 ev6 ev5 ev3 ev2
          exact cr_go g1
        refine hp _ _ s.go cr8 g2 (by omega) (by omega) (fun rA GA hA => ?_)
        rcases hA with ⟨rfl, okA, crA⟩ | ⟨rfl, okA, crA⟩
        · obtain ⟨k1, k2, k3, k4⟩ := gg.2.2 okA
          have e5 : ((p s.go).2.add 3 (sgT T N s.at_)).at_ = (p s.go).2.at_ := rfl
          have e6 : ((p s.go).2.add 3 (sgT T N s.at_)).n = (p s.go).2.n + 1 := rfl
          have e7 := dep_add (p s.go).2 3 (sgT T N s.at_)
          rw [if_neg (by decide), if_neg (by decide)] at e7
          have e8 : s.go.dep = s.dep := rfl
          have hsg : isSign (sgT T N s.at_) := lv_sign (by omega)
          rw [hf9, andT_t okA] at hQ
          refine V2_if_ne (tgt := 74) d_Read_readsLevel_69 rfl (fun _ => ?_) (fun c => (by first | exact absurd c (by decide) | exact absurd (by decide) c))
          refine V2_aload_n (i := 0) d_Read_readsLevel_74 rfl rfl ?_
          refine V2_getr (a := 50) d_Read_readsLevel_75 fl_Read_20 (by decide) rfl (by decide) rfl ?_
          refine V2_iload (i := 5) d_Read_readsLevel_78 rfl ?_
          refine V2_ineg d_Read_readsLevel_80 ?_
          refine V2_topi (fun v8 ev8 => ?_)
          refine V2_callV [.int v8] d_Read_readsLevel_81 rfl rfl lk_Read_59 mo_Nums_add (by decide) rfl rfl rfl (Nat.le_of_ble_eq_true rfl) (Nat.le_of_ble_eq_true rfl) ?_
          have enc : v8 = encT 3 (sgT T N s.at_) := by
            subst ev8 ev7 ev6 ev5 ev3 ev2
            exact (encT_3 rfl).symm
          have gA := gg.2.1
          refine c_Nums_add_50 (P := (p s.go).2.n) crA.2.2.2.1 (by omega) ?_
          obtain ⟨v9, ev9⟩ : ∃ y : Int32, y = nI i + 1 := ⟨_, rfl⟩
          refine V2_iinc (i := 4) (v := v9) (l' := [some (.ref 47), some (.int (3 : Int32)), some (.int (nI o)), some (.int (60 : Int32)), some (.int v9), some (.int v5)]) d_Read_readsLevel_84 rfl (by rw [ev9]; rfl) (xst_i (Nat.le_of_ble_eq_true rfl) rfl rfl) ?_
          refine V2_goto (tgt := 28) d_Read_readsLevel_87 rfl ?_
          refine V2.weak (l' := [some (.ref 47), some (.int (3 : Int32)), some (.int (nI o)), some (.int (60 : Int32)), some (.int v9), none]) (V2.to (ih f (i + 1) _ _ (cr_add crA enc) (ok_add k3 (Or.inr (Or.inr (Or.inr ⟨rfl, by omega, hsg⟩)))) (by omega) (by omega) (by omega) (by omega) hQ (by omega)) rfl ?_ rfl rfl) ⟨rfl, rfl, rfl, rfl, rfl, trivial⟩
          rw [ev9, nI_1]
        · refine V2_if_ne (tgt := 74) d_Read_readsLevel_69 rfl (fun c => (by first | exact absurd c (by decide) | exact absurd (by decide) c)) (fun _ => ?_)
          refine V2_iconst (v := 0) d_Read_readsLevel_72 rfl ?_
          refine V2_zreturn d_Read_readsLevel_73 rfl (by decide) ?_
          exact xQi (hQ _ _ (Or.inr ⟨rfl, by rw [hf9, andT_f okA]; exact okA, by rw [hf9, andT_f okA]; exact crA⟩)) rfl rfl
theorem c_Read_level_3 {L : Nat} {xs : Nat → Int32} {d : Nat} {Q : Option Value → xF → Prop} {F : xF} {B : xF} {T : Nat → Int32} {N use o : Nat} {s : PS} {p : PS → Bool × PS} (hB : TPc B T N) (hg : goodT N use p) (hp : CKpart L xs B N use o p (d + 3) (4 : Int32)) (hR : CR B use s F) (hK : okR use s) (ha : s.at_ ≤ N) (ho : s.n + o ≤ s.at_) (hQ : ∀ r F1, RESc B use o (lvS T N 3 60 p s) r F1 → Q (some (.int r)) F1) : V2 L xs (d + 4) m_Read_readsLevel 0 (xEntry [.ref 47, .int (3 : Int32), .int (nI o)] 6) [] F Q := by
  refine V2.to (l' := [some (.ref 47), some (.int (3 : Int32)), some (.int (nI o)), none, none, none]) ?_ rfl rfl rfl rfl
  refine V2_aload_n (i := 0) d_Read_readsLevel_0 rfl rfl ?_
  refine V2_iload_n (i := 1) d_Read_readsLevel_1 rfl rfl ?_
  refine V2_iconst (v := 1) d_Read_readsLevel_2 rfl ?_
  refine V2_iadd d_Read_readsLevel_3 ?_
  refine V2_lit (v := 4) (by decide) ?_
  refine V2_iload_n (i := 2) d_Read_readsLevel_4 rfl rfl ?_
  refine V2_callV [.int (4 : Int32), .int (nI o)] d_Read_readsLevel_5 rfl rfl lk_Read_37 mo_Read_readsPart (by decide) rfl rfl rfl (Nat.le_of_ble_eq_true rfl) (Nat.le_of_ble_eq_true rfl) ?_
  have gg := hg s hK ha
  have hl9 : lvS T N 3 60 p s = andT (p s) (lpT T N p 3 60) := rfl
  refine hp _ _ s hR hK ha ho (fun rA GA hA => ?_)
  rcases hA with ⟨rfl, okA, crA⟩ | ⟨rfl, okA, crA⟩
  · refine V2_if_ne (tgt := 13) d_Read_readsLevel_8 rfl (fun _ => ?_) (fun c => (by first | exact absurd c (by decide) | exact absurd (by decide) c))
    refine V2_iload_n (i := 1) d_Read_readsLevel_13 rfl rfl ?_
    refine V2_iconst (v := 2) d_Read_readsLevel_14 rfl ?_
    refine V2_icmp_ne (tgt := 22) d_Read_readsLevel_15 rfl (fun _ => ?_) (fun c => (by first | exact absurd c (by decide) | exact absurd (by decide) c))
    refine V2_bipush (v := 60) d_Read_readsLevel_22 rfl ?_
    refine V2_istore_n (i := 3) (l' := [some (.ref 47), some (.int (3 : Int32)), some (.int (nI o)), some (.int (60 : Int32)), none, none]) d_Read_readsLevel_24 rfl (xst_i (Nat.le_of_ble_eq_true rfl) rfl rfl) ?_
    refine V2_iconst (v := 0) d_Read_readsLevel_25 rfl ?_
    refine V2_istore (i := 4) (l' := [some (.ref 47), some (.int (3 : Int32)), some (.int (nI o)), some (.int (60 : Int32)), some (.int (0 : Int32)), none]) d_Read_readsLevel_26 (xst_i (Nat.le_of_ble_eq_true rfl) rfl rfl) ?_
    obtain ⟨k1, k2, k3, k4⟩ := gg.2.2 okA
    rw [hl9, andT_t okA] at hQ
    exact V2.weak (V2.to (c_Read_level_3_loop hB hg hp 61 60 0 (p s).2 _ crA k3 gg.2.1 (by omega) (by omega) rfl hQ (by omega)) rfl rfl rfl rfl) ⟨rfl, rfl, rfl, rfl, rfl, trivial⟩
  · refine V2_if_ne (tgt := 13) d_Read_readsLevel_8 rfl (fun c => (by first | exact absurd c (by decide) | exact absurd (by decide) c)) (fun _ => ?_)
    refine V2_iconst (v := 0) d_Read_readsLevel_11 rfl ?_
    refine V2_zreturn d_Read_readsLevel_12 rfl (by decide) ?_
    exact xQi (hQ _ _ (Or.inr ⟨rfl, by rw [hl9, andT_f okA]; exact okA, by rw [hl9, andT_f okA]; exact crA⟩)) rfl rfl
theorem c_Read_level_4_loop {L : Nat} {xs : Nat → Int32} {d : Nat} {Q : Option Value → xF → Prop} {B : xF} {T : Nat → Int32} {N use o : Nat} {p : PS → Bool × PS} (hB : TPc B T N) (hg : goodT N use p) (hp : CKpart L xs B N use o p (d + 3) (5 : Int32)) : ∀ (n : Nat) (f i : Nat) (s : PS) (G : xF), CR B use s G → okR use s → s.at_ ≤ N → s.n + o ≤ s.at_ → 1 ≤ s.dep → i + f = 60 → (∀ r F1, RESc B use o (lpT T N p 4 f s) r F1 → Q (some (.int r)) F1) → f < n → V2 L xs (d + 4) m_Read_readsLevel 28 [some (.ref 47), some (.int (4 : Int32)), some (.int (nI o)), some (.int (60 : Int32)), some (.int (nI i)), none] [] G Q := by
  intro n
  induction n with
  | zero => exact fun f i s G g1 g2 g3 g4 g5 g6 hQ h2 => absurd h2 (by omega)
  | succ n ih =>
    intro f i s G g1 g2 g3 g4 g5 g6 hQ h2
    have hN := hB.2.1
    refine V2_iload (i := 4) d_Read_readsLevel_28 rfl ?_
    refine V2_iload_n (i := 3) d_Read_readsLevel_30 rfl rfl ?_
    refine V2_icmp_ge (tgt := 90) d_Read_readsLevel_31 rfl (fun c1 => ?_) (fun c1 => ?_)
    · refine V2_iconst (v := 1) d_Read_readsLevel_90 rfl ?_
      refine V2_zreturn d_Read_readsLevel_91 rfl (by decide) ?_
      have hf0 : f = 0 := by
        have := (nI_leI (a := 60) (by omega) (by omega)).mp c1
        omega
      subst hf0
      exact xQi (hQ 1 G (Or.inl ⟨rfl, rfl, g1⟩)) rfl rfl
    · obtain ⟨f, rfl⟩ : ∃ f1, f = f1 + 1 := ⟨f - 1, by
        have h8 : ¬ (60 : Nat) ≤ i := fun hh => c1 ((nI_leI (a := 60) (by omega) (by omega)).mpr hh)
        omega⟩
      refine V2_aload_n (i := 0) d_Read_readsLevel_34 rfl rfl ?_
      refine V2_callV [] d_Read_readsLevel_35 rfl rfl lk_Read_52 mo_Read_sign (by decide) rfl rfl rfl (Nat.le_of_ble_eq_true rfl) (Nat.le_of_ble_eq_true rfl) ?_
      refine c_Read_sign (T := T) (N := N) (a := s.at_) ((congrFun (cr_48 g1) 1).trans hB.1) hB.2.1 (fun i hi => (congrFun (cr_49 g1) i).trans (hB.2.2 i hi)) (g1).2.2.1 (by omega) ?_
      refine V2_topi (fun v2 ev2 => ?_)
      refine V2_callS [.int v2] d_Read_readsLevel_38 rfl rfl lk_Read_55 mo_Read_levelOf (Nat.le_of_ble_eq_true rfl) (Nat.le_of_ble_eq_true rfl) ?_
      refine c_Read_levelOf ?_
      refine V2_topi (fun v3 ev3 => ?_)
      refine V2_iload_n (i := 1) d_Read_readsLevel_41 rfl rfl ?_
      refine V2_icmp_ne (tgt := 90) d_Read_readsLevel_42 rfl (fun c4 => ?_) (fun c4 => ?_)
      · refine V2_iconst (v := 1) d_Read_readsLevel_90 rfl ?_
        refine V2_zreturn d_Read_readsLevel_91 rfl (by decide) ?_
        have hlv : ¬ lvT (sgT T N s.at_) = 4 := fun hh => c4 (by subst ev3 ev2; exact (lvI_eq (by decide)).mpr hh)
        have hf9 : lpT T N p 4 (f + 1) s = (true, s) := if_neg hlv
        rw [hf9] at hQ
        exact xQi (hQ 1 G (Or.inl ⟨rfl, rfl, g1⟩)) rfl rfl
      · have hlv : lvT (sgT T N s.at_) = 4 := (lvI_eq (by decide)).mp (by have h9 := c4; subst ev3 ev2; exact h9)
        have hf9 : lpT T N p 4 (f + 1) s = andT (p s.go) (fun s1 => lpT T N p 4 f (s1.add 3 (sgT T N s.at_))) := if_pos hlv
        have hlt := lvT_lt hlv (by decide)
        have gg := hg s.go g2 (show s.at_ + 1 ≤ N from hlt)
        have eg1 : s.go.at_ = s.at_ + 1 := rfl
        have eg2 : s.go.n = s.n := rfl
        refine V2_aload_n (i := 0) d_Read_readsLevel_45 rfl rfl ?_
        refine V2_callV [] d_Read_readsLevel_46 rfl rfl lk_Read_52 mo_Read_sign (by decide) rfl rfl rfl (Nat.le_of_ble_eq_true rfl) (Nat.le_of_ble_eq_true rfl) ?_
        refine c_Read_sign (T := T) (N := N) (a := s.at_) ((congrFun (cr_48 g1) 1).trans hB.1) hB.2.1 (fun i hi => (congrFun (cr_49 g1) i).trans (hB.2.2 i hi)) (g1).2.2.1 (by omega) ?_
        refine V2_topi (fun v5 ev5 => ?_)
        refine V2_istore (i := 5) (l' := [some (.ref 47), some (.int (4 : Int32)), some (.int (nI o)), some (.int (60 : Int32)), some (.int (nI i)), some (.int v5)]) d_Read_readsLevel_49 (xst_i (Nat.le_of_ble_eq_true rfl) rfl rfl) ?_
        refine V2_aload_n (i := 0) d_Read_readsLevel_51 rfl rfl ?_
        refine V2_dup d_Read_readsLevel_52 rfl ?_
        refine V2_get (v := G 47 3) d_Read_readsLevel_53 fl_Read_27 (by decide) rfl (by decide) rfl rfl ?_
        refine V2_topi (fun v6 ev6 => ?_)
        refine V2_iconst (v := 1) d_Read_readsLevel_56 rfl ?_
        refine V2_iadd d_Read_readsLevel_57 ?_
        refine V2_topi (fun v7 ev7 => ?_)
        refine V2_put d_Read_readsLevel_58 fl_Read_27 (by decide) rfl (by decide) rfl ?_
        refine V2_aload_n (i := 0) d_Read_readsLevel_61 rfl rfl ?_
        refine V2_iload_n (i := 1) d_Read_readsLevel_62 rfl rfl ?_
        refine V2_iconst (v := 1) d_Read_readsLevel_63 rfl ?_
        refine V2_iadd d_Read_readsLevel_64 ?_
        refine V2_lit (v := 5) (by decide) ?_
        refine V2_iload_n (i := 2) d_Read_readsLevel_65 rfl rfl ?_
        refine V2_callV [.int (5 : Int32), .int (nI o)] d_Read_readsLevel_66 rfl rfl lk_Read_37 mo_Read_readsPart (by decide) rfl rfl rfl (Nat.le_of_ble_eq_true rfl) (Nat.le_of_ble_eq_true rfl) ?_
        have cr8 : CR B use s.go (xp G 47 3 v7) := by
          subst ev7 ev6 ev5 ev3 ev2
          exact cr_go g1
        refine hp _ _ s.go cr8 g2 (by omega) (by omega) (fun rA GA hA => ?_)
        rcases hA with ⟨rfl, okA, crA⟩ | ⟨rfl, okA, crA⟩
        · obtain ⟨k1, k2, k3, k4⟩ := gg.2.2 okA
          have e5 : ((p s.go).2.add 3 (sgT T N s.at_)).at_ = (p s.go).2.at_ := rfl
          have e6 : ((p s.go).2.add 3 (sgT T N s.at_)).n = (p s.go).2.n + 1 := rfl
          have e7 := dep_add (p s.go).2 3 (sgT T N s.at_)
          rw [if_neg (by decide), if_neg (by decide)] at e7
          have e8 : s.go.dep = s.dep := rfl
          have hsg : isSign (sgT T N s.at_) := lv_sign (by omega)
          rw [hf9, andT_t okA] at hQ
          refine V2_if_ne (tgt := 74) d_Read_readsLevel_69 rfl (fun _ => ?_) (fun c => (by first | exact absurd c (by decide) | exact absurd (by decide) c))
          refine V2_aload_n (i := 0) d_Read_readsLevel_74 rfl rfl ?_
          refine V2_getr (a := 50) d_Read_readsLevel_75 fl_Read_20 (by decide) rfl (by decide) rfl ?_
          refine V2_iload (i := 5) d_Read_readsLevel_78 rfl ?_
          refine V2_ineg d_Read_readsLevel_80 ?_
          refine V2_topi (fun v8 ev8 => ?_)
          refine V2_callV [.int v8] d_Read_readsLevel_81 rfl rfl lk_Read_59 mo_Nums_add (by decide) rfl rfl rfl (Nat.le_of_ble_eq_true rfl) (Nat.le_of_ble_eq_true rfl) ?_
          have enc : v8 = encT 3 (sgT T N s.at_) := by
            subst ev8 ev7 ev6 ev5 ev3 ev2
            exact (encT_3 rfl).symm
          have gA := gg.2.1
          refine c_Nums_add_50 (P := (p s.go).2.n) crA.2.2.2.1 (by omega) ?_
          obtain ⟨v9, ev9⟩ : ∃ y : Int32, y = nI i + 1 := ⟨_, rfl⟩
          refine V2_iinc (i := 4) (v := v9) (l' := [some (.ref 47), some (.int (4 : Int32)), some (.int (nI o)), some (.int (60 : Int32)), some (.int v9), some (.int v5)]) d_Read_readsLevel_84 rfl (by rw [ev9]; rfl) (xst_i (Nat.le_of_ble_eq_true rfl) rfl rfl) ?_
          refine V2_goto (tgt := 28) d_Read_readsLevel_87 rfl ?_
          refine V2.weak (l' := [some (.ref 47), some (.int (4 : Int32)), some (.int (nI o)), some (.int (60 : Int32)), some (.int v9), none]) (V2.to (ih f (i + 1) _ _ (cr_add crA enc) (ok_add k3 (Or.inr (Or.inr (Or.inr ⟨rfl, by omega, hsg⟩)))) (by omega) (by omega) (by omega) (by omega) hQ (by omega)) rfl ?_ rfl rfl) ⟨rfl, rfl, rfl, rfl, rfl, trivial⟩
          rw [ev9, nI_1]
        · refine V2_if_ne (tgt := 74) d_Read_readsLevel_69 rfl (fun c => (by first | exact absurd c (by decide) | exact absurd (by decide) c)) (fun _ => ?_)
          refine V2_iconst (v := 0) d_Read_readsLevel_72 rfl ?_
          refine V2_zreturn d_Read_readsLevel_73 rfl (by decide) ?_
          exact xQi (hQ _ _ (Or.inr ⟨rfl, by rw [hf9, andT_f okA]; exact okA, by rw [hf9, andT_f okA]; exact crA⟩)) rfl rfl
theorem c_Read_level_4 {L : Nat} {xs : Nat → Int32} {d : Nat} {Q : Option Value → xF → Prop} {F : xF} {B : xF} {T : Nat → Int32} {N use o : Nat} {s : PS} {p : PS → Bool × PS} (hB : TPc B T N) (hg : goodT N use p) (hp : CKpart L xs B N use o p (d + 3) (5 : Int32)) (hR : CR B use s F) (hK : okR use s) (ha : s.at_ ≤ N) (ho : s.n + o ≤ s.at_) (hQ : ∀ r F1, RESc B use o (lvS T N 4 60 p s) r F1 → Q (some (.int r)) F1) : V2 L xs (d + 4) m_Read_readsLevel 0 (xEntry [.ref 47, .int (4 : Int32), .int (nI o)] 6) [] F Q := by
  refine V2.to (l' := [some (.ref 47), some (.int (4 : Int32)), some (.int (nI o)), none, none, none]) ?_ rfl rfl rfl rfl
  refine V2_aload_n (i := 0) d_Read_readsLevel_0 rfl rfl ?_
  refine V2_iload_n (i := 1) d_Read_readsLevel_1 rfl rfl ?_
  refine V2_iconst (v := 1) d_Read_readsLevel_2 rfl ?_
  refine V2_iadd d_Read_readsLevel_3 ?_
  refine V2_lit (v := 5) (by decide) ?_
  refine V2_iload_n (i := 2) d_Read_readsLevel_4 rfl rfl ?_
  refine V2_callV [.int (5 : Int32), .int (nI o)] d_Read_readsLevel_5 rfl rfl lk_Read_37 mo_Read_readsPart (by decide) rfl rfl rfl (Nat.le_of_ble_eq_true rfl) (Nat.le_of_ble_eq_true rfl) ?_
  have gg := hg s hK ha
  have hl9 : lvS T N 4 60 p s = andT (p s) (lpT T N p 4 60) := rfl
  refine hp _ _ s hR hK ha ho (fun rA GA hA => ?_)
  rcases hA with ⟨rfl, okA, crA⟩ | ⟨rfl, okA, crA⟩
  · refine V2_if_ne (tgt := 13) d_Read_readsLevel_8 rfl (fun _ => ?_) (fun c => (by first | exact absurd c (by decide) | exact absurd (by decide) c))
    refine V2_iload_n (i := 1) d_Read_readsLevel_13 rfl rfl ?_
    refine V2_iconst (v := 2) d_Read_readsLevel_14 rfl ?_
    refine V2_icmp_ne (tgt := 22) d_Read_readsLevel_15 rfl (fun _ => ?_) (fun c => (by first | exact absurd c (by decide) | exact absurd (by decide) c))
    refine V2_bipush (v := 60) d_Read_readsLevel_22 rfl ?_
    refine V2_istore_n (i := 3) (l' := [some (.ref 47), some (.int (4 : Int32)), some (.int (nI o)), some (.int (60 : Int32)), none, none]) d_Read_readsLevel_24 rfl (xst_i (Nat.le_of_ble_eq_true rfl) rfl rfl) ?_
    refine V2_iconst (v := 0) d_Read_readsLevel_25 rfl ?_
    refine V2_istore (i := 4) (l' := [some (.ref 47), some (.int (4 : Int32)), some (.int (nI o)), some (.int (60 : Int32)), some (.int (0 : Int32)), none]) d_Read_readsLevel_26 (xst_i (Nat.le_of_ble_eq_true rfl) rfl rfl) ?_
    obtain ⟨k1, k2, k3, k4⟩ := gg.2.2 okA
    rw [hl9, andT_t okA] at hQ
    exact V2.weak (V2.to (c_Read_level_4_loop hB hg hp 61 60 0 (p s).2 _ crA k3 gg.2.1 (by omega) (by omega) rfl hQ (by omega)) rfl rfl rfl rfl) ⟨rfl, rfl, rfl, rfl, rfl, trivial⟩
  · refine V2_if_ne (tgt := 13) d_Read_readsLevel_8 rfl (fun c => (by first | exact absurd c (by decide) | exact absurd (by decide) c)) (fun _ => ?_)
    refine V2_iconst (v := 0) d_Read_readsLevel_11 rfl ?_
    refine V2_zreturn d_Read_readsLevel_12 rfl (by decide) ?_
    exact xQi (hQ _ _ (Or.inr ⟨rfl, by rw [hl9, andT_f okA]; exact okA, by rw [hl9, andT_f okA]; exact crA⟩)) rfl rfl
