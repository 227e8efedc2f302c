/-! levels, move -/
/-- levels: n numbers of f are left from the k-th on -/
def levS (f : Nat → Int32) : Nat → Nat → (Nat → Int32) → Nat × (Nat → Int32)
  | 0, k, S => (k, S)
  | n + 1, k, S => if 0 ≤ (f k).toInt ∧ (f k).toInt ≤ 9 then levS f n (k + 1) (upd S (12 + 2 * k + 1) (f k)) else (k, S)
theorem levS_t {f : Nat → Int32} {n k : Nat} {S : Nat → Int32} (h : 0 ≤ (f k).toInt ∧ (f k).toInt ≤ 9) : levS f (n + 1) k S = levS f n (k + 1) (upd S (12 + 2 * k + 1) (f k)) := if_pos h
theorem levS_f {f : Nat → Int32} {n k : Nat} {S : Nat → Int32} (h : ¬ (0 ≤ (f k).toInt ∧ (f k).toInt ≤ 9)) : levS f (n + 1) k S = (k, S) := if_neg h
theorem levS_o (f : Nat → Int32) : ∀ n k S, n + k ≤ 6 → ∀ j, (j < 12 ∨ 24 ≤ j) → (levS f n k S).2 j = S j := by
  intro n
  induction n with
  | zero => intro k S _ j _; rfl
  | succ n ih =>
    intro k S hk j hj
    by_cases h : 0 ≤ (f k).toInt ∧ (f k).toInt ≤ 9
    · rw [levS_t h, ih (k + 1) _ (by omega) j hj, upd_ne (by omega)]
    · rw [levS_f h]
theorem invP_lev {p : Nat} {S : Nat → Int32} {b : Int32} (h : invP S) (hb : 0 ≤ b.toInt ∧ b.toInt ≤ 9) : invP (upd S (12 + 2 * p + 1) b) := by
  obtain ⟨R, hR, eR, hp⟩ := h
  refine ⟨R, hR, ?_, fun i hi => ?_⟩
  · rw [upd_ne (by omega)]
    exact eR
  · have h9 := hp i hi
    rw [upd_ne (show ¬ 12 + 2 * i = 12 + 2 * p + 1 by omega)]
    by_cases hc : i = p
    · subst hc
      rw [upd_same]
      exact ⟨h9.1, hb⟩
    · rw [upd_ne (by omega)]
      exact h9
theorem levS_inv (f : Nat → Int32) : ∀ n k S, invP S → invP (levS f n k S).2 := by
  intro n
  induction n with
  | zero => intro k S h; exact h
  | succ n ih =>
    intro k S hS
    by_cases h : 0 ≤ (f k).toInt ∧ (f k).toInt ≤ 9
    · rw [levS_t h]
      exact ih (k + 1) _ (invP_lev hS h)
    · rw [levS_f h]
      exact hS
theorem relPw_lev {F : xF} {p P : Nat} {S : Nat → Int32} {b : Int32} (h : relPw F 1 S) (e : S 11 = nI P) (hP : P ≤ 6) (hp : p < P) : relPw (xp (xp F 5 p (F 5 p)) 7 p b) 1 (upd S (12 + 2 * p + 1) b) := by
  have h1 := relPw_turn (p := p) (a := F 5 p) (b := b) h
  have e2 : upd (upd S (12 + 2 * p + 1) b) (12 + 2 * p) (F 5 p) = upd S (12 + 2 * p + 1) b := by
    funext j
    by_cases hj : j = 12 + 2 * p
    · subst hj
      rw [upd_same, upd_ne (by omega)]
      exact (h.2.2 p (by rw [e, nI_clamp (by omega)]; exact hp)).1
    · rw [upd_ne hj]
  rw [e2] at h1
  exact h1
def LN (F : xF) (t : Nat) : Nat := if (F 75 t).toNatClampNeg ≤ PN (F 66) then (F 75 t).toNatClampNeg else PN (F 66)
def lev (F : xF) (t : Nat) : Nat × (Nat → Int32) := levS (fun k => F 76 (24 * t + k)) (LN F t) 0 (F 66)
def k_levels (F : xF) (sh : Int32) : Int32 × xF :=
  if 0 ≤ sh.toInt ∧ sh.toInt < 4 then (if F 74 sh.toNatClampNeg = 0 then (-1000000000 - 2, errF F 2) else (nI (lev F sh.toNatClampNeg).1, xrw F 66 (lev F sh.toNatClampNeg).2)) else (-1000000000 - 1, errF F 1)
/-- the class's number where it is small -/
theorem eq_lev {bits a b : Int32} (h : eqBits bits a b) : (0 ≤ a.toInt ∧ a.toInt ≤ 9 → a = b) ∧ (0 ≤ b.toInt ∧ b.toInt ≤ 9 → a = b) := by
  constructor
  · intro ha
    obtain ⟨p, hp, e⟩ := in_of (P := 10) ha.1 (by omega) (by omega)
    exact e.trans ((eq_small h (n := p) (by omega)).mp e).symm
  · intro hb
    obtain ⟨p, hp, e⟩ := in_of (P := 10) hb.1 (by omega) (by omega)
    exact ((eq_small h (n := p) (by omega)).mpr e).trans e.symm
theorem c_P_levels_loop {L : Nat} {xs : Nat → Int32} {d : Nat} {Q : Option Value → xF → Prop} {F : xF} {t N Q0 P : Nat} (hR : Rel F) (ht : t < 4) (hN : N ≤ 24) (eN : F 75 t = nI N) (hQN : Q0 ≤ N) (hQP : Q0 ≤ P) (hP6 : P ≤ 6) (eP : F 66 11 = nI P) : ∀ (n_ : Nat) (k m : Nat) (G : xF) (S : Nat → Int32), relPw G 1 S → (∀ a, ¬ a = 5 → ¬ a = 7 → G a = F a) → S 11 = F 66 11 → k + m = Q0 → m < n_ → (∀ G2 : xF, relPw G2 1 (levS (fun k => F 76 (24 * t + k)) m k S).2 → (∀ a, ¬ a = 5 → ¬ a = 7 → G2 a = F a) → Q (some (.int (nI (levS (fun k => F 76 (24 * t + k)) m k S).1))) G2) → V2 L xs (d + 3) m_P_levels 50 [some (.ref 0), some (.int (nI t)), some (.ref (57 + 2 * t)), some (.int (nI Q0)), some (.int (nI k)), none] [] G Q := by
  intro n_
  induction n_ with
  | zero => exact fun k m G S g1 g2 g3 h1 h2 => absurd h2 (by omega)
  | succ n_ ih =>
    intro k m G S g1 g2 g3 h1 h2 hQ
    have q0 : (0 : Int32).toInt = 0 := by decide
    have q9 : (9 : Int32).toInt = 9 := by decide
    refine V2_iload (i := 4) d_P_levels_50 rfl ?_
    refine V2_iload_n (i := 3) d_P_levels_52 rfl rfl ?_
    refine V2_icmp_ge (tgt := 110) d_P_levels_53 rfl (fun c1 => ?_) (fun c1 => ?_)
    · refine V2_iload_n (i := 3) d_P_levels_110 rfl rfl ?_
      refine V2_ireturn d_P_levels_111 rfl ?_
      have hm : m = 0 := by
        have := (nI_leI (by omega) (by omega)).mp c1
        omega
      subst hm
      exact xQi (hQ G g1 g2) (congrArg nI (show Q0 = k by omega)) rfl
    · have hkw : k < Q0 := Nat.not_le.mp (fun hh => c1 ((nI_leI (by omega) (by omega)).mpr hh))
      obtain ⟨m, rfl⟩ : ∃ m2, m = m2 + 1 := ⟨m - 1, by omega⟩
      have hkP : k < P := by omega
      have s2 : G (57 + 2 * t) 2 = nI N := (congrFun (g2 _ (by omega) (by omega)) 2).trans ((hR.1.2.2.2.2.2.2 t ht).2.1.trans eN)
      have hEq := (hR.1.2.2.2.2.2.2 t ht).2.2 k (by rw [eN, nI_clamp (by omega)]; omega)
      refine V2_aload_n (i := 2) d_P_levels_56 rfl rfl ?_
      refine V2_iload (i := 4) d_P_levels_57 rfl ?_
      refine V2_callV [.int (nI k)] d_P_levels_59 rfl rfl lk_P_333 mo_Sheet_at (by omega) (sh_k1 ht) rfl rfl (Nat.le_of_ble_eq_true rfl) (Nat.le_of_ble_eq_true rfl) ?_
      refine V2.to (l' := [some (.ref (57 + 2 * t)), some (.int (nI k))]) ?_ rfl rfl rfl rfl
      refine V2_iload_n (i := 1) d_Sheet_at_0 rfl rfl ?_
      refine V2_if_lt (tgt := 30) d_Sheet_at_1 rfl (fun c2 => (by first | exact absurd c2 (show ¬ nI k < 0 from nI_pos (by omega)) | exact absurd (show ¬ nI k < 0 from nI_pos (by omega)) c2)) (fun c2 => ?_)
      refine V2_iload_n (i := 1) d_Sheet_at_4 rfl rfl ?_
      refine V2_aload_n (i := 0) d_Sheet_at_5 rfl rfl ?_
      refine V2_get d_Sheet_at_6 fl_Sheet_17 (by omega) (sh_k ht) (by decide) (sh_n ht (by decide)) rfl ?_
      refine V2_topi (fun v3 ev3 => ?_)
      refine V2_icmp_ge (tgt := 30) d_Sheet_at_9 rfl (fun c4 => (by first | exact absurd c4 (show ¬ v3 ≤ nI k from by subst ev3; rw [s2]; exact nI_ge (by omega) (by omega)) | exact absurd (show ¬ v3 ≤ nI k from by subst ev3; rw [s2]; exact nI_ge (by omega) (by omega)) c4)) (fun c4 => ?_)
      refine V2_iload_n (i := 1) d_Sheet_at_12 rfl rfl ?_
      refine V2_aload_n (i := 0) d_Sheet_at_13 rfl rfl ?_
      refine V2_getr (a := (58 + 2 * t)) d_Sheet_at_14 fl_Sheet_9 (by omega) (sh_k ht) (by decide) (sh_r ht) ?_
      refine V2_alen (t := 0) (v := 24) d_Sheet_at_17 (by omega) (sh_a ht) (by decide) rfl ?_
      refine V2_icmp_ge (tgt := 30) d_Sheet_at_18 rfl (fun c5 => (by first | exact absurd c5 (show ¬ (24 : Int32) ≤ nI k from nI_ge (a := k) (b := 24) (by omega) (by decide)) | exact absurd (show ¬ (24 : Int32) ≤ nI k from nI_ge (a := k) (b := 24) (by omega) (by decide)) c5)) (fun c5 => ?_)
      refine V2_aload_n (i := 0) d_Sheet_at_21 rfl rfl ?_
      refine V2_getr (a := (58 + 2 * t)) d_Sheet_at_22 fl_Sheet_9 (by omega) (sh_k ht) (by decide) (sh_r ht) ?_
      refine V2_iload_n (i := 1) d_Sheet_at_25 rfl rfl ?_
      refine V2_ialoadJ (k) d_Sheet_at_26 (by omega) (sh_a ht) (xixA (n := k) rfl (by omega) (by decide)) (xixB (n := k) rfl (by omega)) rfl ?_
      refine V2_topi (fun v6 ev6 => ?_)
      refine V2_goto (tgt := 31) d_Sheet_at_27 rfl ?_
      refine V2_ireturn d_Sheet_at_31 rfl ?_
      refine V2.to (st' := [.int v6]) ?_ rfl rfl rfl rfl
      have ea : v6 = F (58 + 2 * t) k := by
        subst ev6 ev3
        exact congrFun (g2 _ (by omega) (by omega)) k
      refine V2_istore (i := 5) (l' := [some (.ref 0), some (.int (nI t)), some (.ref (57 + 2 * t)), some (.int (nI Q0)), some (.int (nI k)), some (.int v6)]) d_P_levels_62 (xst_i (Nat.le_of_ble_eq_true rfl) rfl rfl) ?_
      refine V2_iload (i := 5) d_P_levels_64 rfl ?_
      refine V2_iconst (v := 0) d_P_levels_66 rfl ?_
      refine V2_bipush (v := 9) d_P_levels_67 rfl ?_
      refine V2_callS [.int v6, .int (0 : Int32), .int (9 : Int32)] d_P_levels_69 rfl rfl lk_P_133 mo_P_within (Nat.le_of_ble_eq_true rfl) (Nat.le_of_ble_eq_true rfl) ?_
      refine V2.to (l' := [some (.int v6), some (.int (0 : Int32)), some (.int (9 : Int32))]) ?_ rfl rfl rfl rfl
      refine V2_iload_n (i := 0) d_P_within_0 rfl rfl ?_
      refine V2_iload_n (i := 1) d_P_within_1 rfl rfl ?_
      refine V2_icmp_lt (tgt := 14) d_P_within_2 rfl (fun c7 => ?_) (fun c7 => ?_)
      · refine V2_iconst (v := 0) d_P_within_14 rfl ?_
        refine V2_zreturn d_P_within_15 rfl (by decide) ?_
        refine V2.to (st' := [.int (0 : Int32)]) ?_ rfl rfl rfl rfl
        refine V2_if_ne (tgt := 78) d_P_levels_72 rfl (fun c => (by first | exact absurd c (by decide) | exact absurd (by decide) c)) (fun _ => ?_)
        refine V2_iload (i := 4) d_P_levels_75 rfl ?_
        refine V2_ireturn d_P_levels_77 rfl ?_
        have hng : ¬ (0 ≤ (F 76 (24 * t + k)).toInt ∧ (F 76 (24 * t + k)).toInt ≤ 9) := fun h => (by
          have e1 := (eq_lev hEq).2 h
          have h8 : 0 ≤ v6.toInt ∧ v6.toInt ≤ 9 := by rw [show v6 = F 76 (24 * t + k) from ea.trans e1]; exact h
          exact absurd h8 (by (try clear hQ); (try subst ev6 ev3); ((try simp only [xb_eq, xb_ne, Int32.lt_iff_toInt_lt, Int32.le_iff_toInt_le] at *) <;> (try simp only [← Int32.toInt_inj, true_and, false_and, or_false, false_or, or_true, true_or, and_true, and_false] at *) <;> omega)))
        refine xQi (hQ G ?_ g2) ?_ rfl
        · rw [levS_f (f := fun k => F 76 (24 * t + k)) hng]
          exact g1
        · rw [levS_f (f := fun k => F 76 (24 * t + k)) hng]
      · refine V2_iload_n (i := 0) d_P_within_5 rfl rfl ?_
        refine V2_iload_n (i := 2) d_P_within_6 rfl rfl ?_
        refine V2_icmp_gt (tgt := 14) d_P_within_7 rfl (fun c8 => ?_) (fun c8 => ?_)
        · refine V2_iconst (v := 0) d_P_within_14 rfl ?_
          refine V2_zreturn d_P_within_15 rfl (by decide) ?_
          refine V2.to (st' := [.int (0 : Int32)]) ?_ rfl rfl rfl rfl
          refine V2_if_ne (tgt := 78) d_P_levels_72 rfl (fun c => (by first | exact absurd c (by decide) | exact absurd (by decide) c)) (fun _ => ?_)
          refine V2_iload (i := 4) d_P_levels_75 rfl ?_
          refine V2_ireturn d_P_levels_77 rfl ?_
          have hng : ¬ (0 ≤ (F 76 (24 * t + k)).toInt ∧ (F 76 (24 * t + k)).toInt ≤ 9) := fun h => (by
            have e1 := (eq_lev hEq).2 h
            have h8 : 0 ≤ v6.toInt ∧ v6.toInt ≤ 9 := by rw [show v6 = F 76 (24 * t + k) from ea.trans e1]; exact h
            exact absurd h8 (by (try clear hQ); (try subst ev6 ev3); ((try simp only [xb_eq, xb_ne, Int32.lt_iff_toInt_lt, Int32.le_iff_toInt_le] at *) <;> (try simp only [← Int32.toInt_inj, true_and, false_and, or_false, false_or, or_true, true_or, and_true, and_false] at *) <;> omega)))
          refine xQi (hQ G ?_ g2) ?_ rfl
          · rw [levS_f (f := fun k => F 76 (24 * t + k)) hng]
            exact g1
          · rw [levS_f (f := fun k => F 76 (24 * t + k)) hng]
        · refine V2_iconst (v := 1) d_P_within_10 rfl ?_
          refine V2_goto (tgt := 15) d_P_within_11 rfl ?_
          refine V2_zreturn d_P_within_15 rfl (by decide) ?_
          refine V2.to (st' := [.int (1 : Int32)]) ?_ rfl rfl rfl rfl
          refine V2_if_ne (tgt := 78) d_P_levels_72 rfl (fun _ => ?_) (fun c => (by first | exact absurd c (by decide) | exact absurd (by decide) c))
          have hab9 : 0 ≤ v6.toInt ∧ v6.toInt ≤ 9 := ⟨(by (try clear hQ); (try subst ev6 ev3); ((try simp only [xb_eq, xb_ne, Int32.lt_iff_toInt_lt, Int32.le_iff_toInt_le] at *) <;> (try simp only [← Int32.toInt_inj, true_and, false_and, or_false, false_or, or_true, true_or, and_true, and_false] at *) <;> omega)), (by (try clear hQ); (try subst ev6 ev3); ((try simp only [xb_eq, xb_ne, Int32.lt_iff_toInt_lt, Int32.le_iff_toInt_le] at *) <;> (try simp only [← Int32.toInt_inj, true_and, false_and, or_false, false_or, or_true, true_or, and_true, and_false] at *) <;> omega))⟩
          have hab : 0 ≤ (F (58 + 2 * t) k).toInt ∧ (F (58 + 2 * t) k).toInt ≤ 9 := by rw [← ea]; exact hab9
          have he : F (58 + 2 * t) k = F 76 (24 * t + k) := (eq_lev hEq).1 hab
          refine V2_aload_n (i := 0) d_P_levels_78 rfl rfl ?_
          refine V2_getr (a := 1) d_P_levels_79 fl_P_10 (by decide) rfl (by decide) rfl ?_
          refine V2_getr (a := 3) d_P_levels_82 fl_P_70 (by decide) rfl (by decide) rfl ?_
          refine V2_iload (i := 4) d_P_levels_85 rfl ?_
          refine V2_aload_n (i := 0) d_P_levels_87 rfl rfl ?_
          refine V2_getr (a := 1) d_P_levels_88 fl_P_10 (by decide) rfl (by decide) rfl ?_
          refine V2_getr (a := 3) d_P_levels_91 fl_P_70 (by decide) rfl (by decide) rfl ?_
          refine V2_iload (i := 4) d_P_levels_94 rfl ?_
          refine V2_callV [.int (nI k)] d_P_levels_96 rfl rfl lk_P_87 mo_Push_kindOf (by decide) rfl rfl rfl (Nat.le_of_ble_eq_true rfl) (Nat.le_of_ble_eq_true rfl) ?_
          refine c_Push_kindOf (P := P) (g1.1.trans (g3.trans eP)) (g1.2.1.trans (g3.trans eP)) hP6 hkP ?_
          refine V2_topi (fun v9 ev9 => ?_)
          refine V2_iload (i := 5) d_P_levels_99 rfl ?_
          refine V2_callV [.int (nI k), .int v9, .int v6] d_P_levels_101 rfl rfl lk_P_103 mo_Push_turn (by decide) rfl rfl rfl (Nat.le_of_ble_eq_true rfl) (Nat.le_of_ble_eq_true rfl) ?_
          have ek : v9 = G 5 k := by subst ev9 ev6 ev3; rfl
          have el : v6 = F (58 + 2 * t) k := ea
          rw [ek, el]
          refine c_Push_turn (P := P) (p := k) (g1.1.trans (g3.trans eP)) (g1.2.1.trans (g3.trans eP)) hP6 hkP ?_
          obtain ⟨v10, ev10⟩ : ∃ y : Int32, y = nI k + 1 := ⟨_, rfl⟩
          refine V2_iinc (i := 4) (v := v10) (l' := [some (.ref 0), some (.int (nI t)), some (.ref (57 + 2 * t)), some (.int (nI Q0)), some (.int v10), some (.int (F (58 + 2 * t) k))]) d_P_levels_104 rfl (by rw [ev10]; rfl) (xst_i (Nat.le_of_ble_eq_true rfl) rfl rfl) ?_
          refine V2_goto (tgt := 50) d_P_levels_107 rfl ?_
          have hg : 0 ≤ (F 76 (24 * t + k)).toInt ∧ (F 76 (24 * t + k)).toInt ≤ 9 := by rw [← he]; exact hab
          rw [ev10, nI_1]
          refine V2.weak (l' := [some (.ref 0), some (.int (nI t)), some (.ref (57 + 2 * t)), some (.int (nI Q0)), some (.int (nI (k + 1))), none]) ?_ ⟨rfl, rfl, rfl, rfl, rfl, trivial⟩
          refine V2.to (ih (k + 1) m _ _ (relPw_lev g1 (g3.trans eP) hP6 hkP) (fun a b c => (xp_row_ne c).trans ((xp_row_ne b).trans (g2 a b c))) ((upd_ne (by omega)).trans g3) (by omega) (by omega) ?_) rfl rfl rfl rfl
          intro G2 h1 h2
          rw [he] at h1 ⊢
          refine xQi (hQ G2 ?_ h2) ?_ rfl
          · rw [levS_t (f := fun k => F 76 (24 * t + k)) hg]
            exact h1
          · rw [levS_t (f := fun k => F 76 (24 * t + k)) hg]
theorem c_cls_levels {L : Nat} {xs : Nat → Int32} {d : Nat} {Q : Option Value → xF → Prop} {F : xF} {sh : Int32} (hR : Rel F) (hQ : ∀ F1, Mid F F1 (k_levels F sh).2 → Q (some (.int (k_levels F sh).1)) F1) : V2 L xs (d + 3) m_P_levels 0 (xEntry [.ref 0, .int sh] 6) [] F Q := by
  have q0 : (0 : Int32).toInt = 0 := by decide
  have q1 : (1 : Int32).toInt = 1 := by decide
  have q2 : (2 : Int32).toInt = 2 := by decide
  have q3 : (3 : Int32).toInt = 3 := by decide
  have q4 : (4 : Int32).toInt = 4 := by decide
  have q5 : (5 : Int32).toInt = 5 := by decide
  have q6 : (6 : Int32).toInt = 6 := by decide
  have q7 : (7 : Int32).toInt = 7 := by decide
  have q8 : (8 : Int32).toInt = 8 := by decide
  have q9 : (9 : Int32).toInt = 9 := by decide
  have q10 : (10 : Int32).toInt = 10 := by decide
  have q12 : (12 : Int32).toInt = 12 := by decide
  have q16 : (16 : Int32).toInt = 16 := by decide
  have q20 : (20 : Int32).toInt = 20 := by decide
  have q24 : (24 : Int32).toInt = 24 := by decide
  have q30 : (30 : Int32).toInt = 30 := by decide
  have q32 : (32 : Int32).toInt = 32 := by decide
  have q40 : (40 : Int32).toInt = 40 := by decide
  have q60 : (60 : Int32).toInt = 60 := by decide
  have q69 : (69 : Int32).toInt = 69 := by decide
  have q99 : (99 : Int32).toInt = 99 := by decide
  have q9999 : (9999 : Int32).toInt = 9999 := by decide
  have q274 : (274 : Int32).toInt = 274 := by decide
  have q334 : (334 : Int32).toInt = 334 := by decide
  obtain ⟨eP, hP6⟩ := inv_PN hR.2.1.2.2.1
  have nP : (F 66 11).toInt = (PN (F 66) : Int) := PN_int hR.2.1.2.2.1
  
  refine V2.to (l' := [some (.ref 0), some (.int sh), none, none, none, none]) ?_ rfl rfl rfl rfl
  refine V2_aload_n (i := 0) d_P_levels_0 rfl rfl ?_
  refine V2_iload_n (i := 1) d_P_levels_1 rfl rfl ?_
  refine V2_callV [.int sh] d_P_levels_2 rfl rfl lk_P_268 mo_P_sheetAt (by decide) rfl rfl rfl (Nat.le_of_ble_eq_true rfl) (Nat.le_of_ble_eq_true rfl) ?_
  refine V2.to (l' := [some (.ref 0), some (.int sh)]) ?_ rfl rfl rfl rfl
  refine V2_iload_n (i := 1) d_P_sheetAt_0 rfl rfl ?_
  refine V2_if_lt (tgt := 22) d_P_sheetAt_1 rfl (fun c1 => ?_) (fun c1 => ?_)
  · refine V2_null d_P_sheetAt_22 ?_
    refine V2_areturnN d_P_sheetAt_23 rfl (Or.inl ⟨_, rfl⟩) ?_
    refine V2.to (st' := [.null]) ?_ rfl rfl rfl rfl
    refine V2_astore_nN (i := 2) (l' := [some (.ref 0), some (.int sh), some (.null), none, none, none]) d_P_levels_5 rfl (xst_i (Nat.le_of_ble_eq_true rfl) rfl rfl) ?_
    refine V2_aload_nN (i := 2) d_P_levels_6 rfl rfl ?_
    refine V2_ifnonnullN d_P_levels_7 ?_
    refine V2_aload_n (i := 0) d_P_levels_10 rfl rfl ?_
    refine V2_iconst (v := 1) d_P_levels_11 rfl ?_
    refine V2_callV [.int (1 : Int32)] d_P_levels_12 rfl rfl lk_P_66 mo_P_fails (by decide) rfl rfl rfl (Nat.le_of_ble_eq_true rfl) (Nat.le_of_ble_eq_true rfl) ?_
    refine c_P_fails1 ?_
    refine V2_topi (fun v2 ev2 => ?_)
    refine V2_ireturn d_P_levels_15 rfl ?_
    have hb0 : ¬ (0 ≤ sh.toInt ∧ sh.toInt < 4) := (by (try clear hQ); (try subst ev2); ((try simp only [xb_eq, xb_ne, Int32.lt_iff_toInt_lt, Int32.le_iff_toInt_le] at *) <;> (try simp only [← Int32.toInt_inj, true_and, false_and, or_false, false_or, or_true, true_or, and_true, and_false] at *) <;> omega))
    have e : k_levels F sh = (-1000000000 - 1, errF F 1) := if_neg hb0
    rw [e] at hQ
    subst ev2
    exact xQi (hQ _ (mid_err hR (by decide))) rfl rfl
  · refine V2_iload_n (i := 1) d_P_sheetAt_4 rfl rfl ?_
    refine V2_aload_n (i := 0) d_P_sheetAt_5 rfl rfl ?_
    refine V2_getr (a := 55) d_P_sheetAt_6 fl_P_49 (by decide) rfl (by decide) rfl ?_
    refine V2_alen (t := 1) (v := 4) d_P_sheetAt_9 (by decide) rfl (by decide) rfl ?_
    refine V2_icmp_ge (tgt := 22) d_P_sheetAt_10 rfl (fun c3 => ?_) (fun c3 => ?_)
    · refine V2_null d_P_sheetAt_22 ?_
      refine V2_areturnN d_P_sheetAt_23 rfl (Or.inl ⟨_, rfl⟩) ?_
      refine V2.to (st' := [.null]) ?_ rfl rfl rfl rfl
      refine V2_astore_nN (i := 2) (l' := [some (.ref 0), some (.int sh), some (.null), none, none, none]) d_P_levels_5 rfl (xst_i (Nat.le_of_ble_eq_true rfl) rfl rfl) ?_
      refine V2_aload_nN (i := 2) d_P_levels_6 rfl rfl ?_
      refine V2_ifnonnullN d_P_levels_7 ?_
      refine V2_aload_n (i := 0) d_P_levels_10 rfl rfl ?_
      refine V2_iconst (v := 1) d_P_levels_11 rfl ?_
      refine V2_callV [.int (1 : Int32)] d_P_levels_12 rfl rfl lk_P_66 mo_P_fails (by decide) rfl rfl rfl (Nat.le_of_ble_eq_true rfl) (Nat.le_of_ble_eq_true rfl) ?_
      refine c_P_fails1 ?_
      refine V2_topi (fun v4 ev4 => ?_)
      refine V2_ireturn d_P_levels_15 rfl ?_
      have hb0 : ¬ (0 ≤ sh.toInt ∧ sh.toInt < 4) := (by (try clear hQ); (try subst ev4); ((try simp only [xb_eq, xb_ne, Int32.lt_iff_toInt_lt, Int32.le_iff_toInt_le] at *) <;> (try simp only [← Int32.toInt_inj, true_and, false_and, or_false, false_or, or_true, true_or, and_true, and_false] at *) <;> omega))
      have e : k_levels F sh = (-1000000000 - 1, errF F 1) := if_neg hb0
      rw [e] at hQ
      subst ev4
      exact xQi (hQ _ (mid_err hR (by decide))) rfl rfl
    · obtain ⟨t, ht, ept⟩ := in_of (x := sh) (P := 4) (by (try clear hQ); (try skip); ((try simp only [xb_eq, xb_ne, Int32.lt_iff_toInt_lt, Int32.le_iff_toInt_le] at *) <;> (try simp only [← Int32.toInt_inj, true_and, false_and, or_false, false_or, or_true, true_or, and_true, and_false] at *) <;> omega)) (by (try clear hQ); (try skip); ((try simp only [xb_eq, xb_ne, Int32.lt_iff_toInt_lt, Int32.le_iff_toInt_le] at *) <;> (try simp only [← Int32.toInt_inj, true_and, false_and, or_false, false_or, or_true, true_or, and_true, and_false] at *) <;> omega)) (by omega)
      subst ept
      have nt : (nI t).toInt = (t : Int) := nI_toInt (by omega)
      have kt : (nI t).toNatClampNeg = t := nI_clamp (by omega)
      obtain ⟨N, hN, eN, nN, e2, eb, hb⟩ := inv_sz hR ht
      refine V2_aload_n (i := 0) d_P_sheetAt_13 rfl rfl ?_
      refine V2_getr (a := 55) d_P_sheetAt_14 fl_P_49 (by decide) rfl (by decide) rfl ?_
      refine V2_iload_n (i := 1) d_P_sheetAt_17 rfl rfl ?_
      refine V2_aaload (t := 0) (a := (57 + 2 * t)) d_P_sheetAt_18 (by decide) rfl (by decide) (vp_in_nI ht (by omega)) (sh_s ht) ?_
      refine V2_goto (tgt := 23) d_P_sheetAt_19 rfl ?_
      refine V2_areturn d_P_sheetAt_23 rfl (Or.inl ⟨_, rfl⟩) ?_
      refine V2.to (st' := [.ref (57 + 2 * t)]) ?_ rfl rfl rfl rfl
      refine V2_astore_n (i := 2) (l' := [some (.ref 0), some (.int (nI t)), some (.ref (57 + 2 * t)), none, none, none]) d_P_levels_5 rfl (xst_i (Nat.le_of_ble_eq_true rfl) rfl rfl) ?_
      refine V2_aload_n (i := 2) d_P_levels_6 rfl rfl ?_
      refine V2_ifnonnull (tgt := 16) d_P_levels_7 rfl ?_
      refine V2_aload_n (i := 2) d_P_levels_16 rfl rfl ?_
      refine V2_callV [] d_P_levels_17 rfl rfl lk_P_272 mo_Sheet_isMissing (by omega) (sh_k1 ht) rfl rfl (Nat.le_of_ble_eq_true rfl) (Nat.le_of_ble_eq_true rfl) ?_
      refine V2.to (l' := [some (.ref (57 + 2 * t))]) ?_ rfl rfl rfl rfl
      refine V2_aload_n (i := 0) d_Sheet_isMissing_0 rfl rfl ?_
      refine V2_get d_Sheet_isMissing_1 fl_Sheet_13 (by omega) (sh_k ht) (by decide) (sh_n ht (by decide)) rfl ?_
      refine V2_topi (fun v5 ev5 => ?_)
      refine V2_if_ne (tgt := 11) d_Sheet_isMissing_4 rfl (fun c6 => ?_) (fun c6 => ?_)
      · refine V2_iconst (v := 0) d_Sheet_isMissing_11 rfl ?_
        refine V2_zreturn d_Sheet_isMissing_12 rfl (by decide) ?_
        refine V2.to (st' := [.int (0 : Int32)]) ?_ rfl rfl rfl rfl
        refine V2_if_eq (tgt := 29) d_P_levels_20 rfl (fun _ => ?_) (fun c => (by first | exact absurd c (by decide) | exact absurd (by decide) c))
        have hz : ¬ F 74 t = 0 := by
          have h9 := c6
          subst ev5
          rw [← eb]
          exact h9
        refine V2_aload_n (i := 2) d_P_levels_29 rfl rfl ?_
        refine V2_callV [] d_P_levels_30 rfl rfl lk_P_275 mo_Sheet_size (by omega) (sh_k1 ht) rfl rfl (Nat.le_of_ble_eq_true rfl) (Nat.le_of_ble_eq_true rfl) ?_
        refine V2.to (l' := [some (.ref (57 + 2 * t))]) ?_ rfl rfl rfl rfl
        refine V2_aload_n (i := 0) d_Sheet_size_0 rfl rfl ?_
        refine V2_get d_Sheet_size_1 fl_Sheet_17 (by omega) (sh_k ht) (by decide) (sh_n ht (by decide)) rfl ?_
        refine V2_topi (fun v7 ev7 => ?_)
        refine V2_ireturn d_Sheet_size_4 rfl ?_
        refine V2.to (st' := [.int v7]) ?_ rfl rfl rfl rfl
        refine V2_aload_n (i := 0) d_P_levels_33 rfl rfl ?_
        refine V2_getr (a := 1) d_P_levels_34 fl_P_10 (by decide) rfl (by decide) rfl ?_
        refine V2_getr (a := 3) d_P_levels_37 fl_P_70 (by decide) rfl (by decide) rfl ?_
        refine V2_callV [] d_P_levels_40 rfl rfl lk_P_116 mo_Push_size (by decide) rfl rfl rfl (Nat.le_of_ble_eq_true rfl) (Nat.le_of_ble_eq_true rfl) ?_
        refine c_Push_size (P := PN (F 66)) (hR.1.1.2.1.1.trans eP) ?_
        refine V2_mmin d_P_levels_43 lz_P_328 (Nat.le_of_ble_eq_true rfl) ?_
        refine V2_topi (fun v8 ev8 => ?_)
        refine V2_istore_n (i := 3) (l' := [some (.ref 0), some (.int (nI t)), some (.ref (57 + 2 * t)), some (.int v8), none, none]) d_P_levels_46 rfl (xst_r (Nat.le_of_ble_eq_true rfl) rfl rfl) ?_
        refine V2_iconst (v := 0) d_P_levels_47 rfl ?_
        refine V2_istore (i := 4) (l' := [some (.ref 0), some (.int (nI t)), some (.ref (57 + 2 * t)), some (.int v8), some (.int (0 : Int32)), none]) d_P_levels_48 (xst_i (Nat.le_of_ble_eq_true rfl) rfl rfl) ?_
        have eL : LN F t = if N ≤ PN (F 66) then N else PN (F 66) := by
          unfold LN
          rw [eN, nI_clamp (by omega)]
        have hLN : LN F t ≤ N ∧ LN F t ≤ PN (F 66) := by
          rw [eL]
          split <;> omega
        have e3 : v8 = nI (LN F t) := by
          subst ev8 ev7 ev5
          rw [e2, eL]
          by_cases h : N ≤ PN (F 66)
          · rw [if_pos h]
            by_cases h9 : nI (PN (F 66)) < nI N
            · exact absurd ((nI_ltI (by omega) (by omega)).mp h9) (by omega)
            · first | exact if_neg h9 | (rw [if_neg h9]; done)
          · rw [if_neg h]
            exact if_pos (nI_lt (by omega) (by omega))
        have hb0 : 0 ≤ (nI t).toInt ∧ (nI t).toInt < 4 := (by (try clear hQ); (try subst ev8 ev7 ev5); ((try simp only [xb_eq, xb_ne, Int32.lt_iff_toInt_lt, Int32.le_iff_toInt_le] at *) <;> (try simp only [← Int32.toInt_inj, true_and, false_and, or_false, false_or, or_true, true_or, and_true, and_false] at *) <;> omega))
        have e : k_levels F (nI t) = (nI (lev F t).1, xrw F 66 (lev F t).2) := (if_pos hb0).trans (by rw [kt]; exact if_neg hz)
        rw [e] at hQ
        rw [e3]
        refine V2.weak (l' := [some (.ref 0), some (.int (nI t)), some (.ref (57 + 2 * t)), some (.int (nI (LN F t))), some (.int (nI 0)), none]) ?_ ⟨rfl, rfl, rfl, rfl, rfl, trivial⟩
        refine V2.to (c_P_levels_loop hR ht hN eN hLN.1 hLN.2 hP6 eP (LN F t + 1) 0 (LN F t) F (F 66) hR.1.1.2.1 (fun a _ _ => rfl) rfl (by omega) (by omega) (fun G2 h1 h2 => hQ G2 (mid_W hR (fun k hk => h2 k (by omega) (by omega)) (relW_people hR.1.1 hR.2.1 h1 (fun k hk => h2 k (by omega) (by omega)) (fun j hj => levS_o _ _ _ _ (by omega) j (by omega)))))) rfl rfl rfl rfl
      · refine V2_iconst (v := 1) d_Sheet_isMissing_7 rfl ?_
        refine V2_goto (tgt := 12) d_Sheet_isMissing_8 rfl ?_
        refine V2_zreturn d_Sheet_isMissing_12 rfl (by decide) ?_
        refine V2.to (st' := [.int (1 : Int32)]) ?_ rfl rfl rfl rfl
        refine V2_if_eq (tgt := 29) d_P_levels_20 rfl (fun c => (by first | exact absurd c (by decide) | exact absurd (by decide) c)) (fun _ => ?_)
        have hz : F 74 t = 0 := by
          have h9 := c6
          subst ev5
          rw [← eb]
          exact h9
        refine V2_aload_n (i := 0) d_P_levels_23 rfl rfl ?_
        refine V2_iconst (v := 2) d_P_levels_24 rfl ?_
        refine V2_callV [.int (2 : Int32)] d_P_levels_25 rfl rfl lk_P_66 mo_P_fails (by decide) rfl rfl rfl (Nat.le_of_ble_eq_true rfl) (Nat.le_of_ble_eq_true rfl) ?_
        refine c_P_fails2 ?_
        refine V2_topi (fun v9 ev9 => ?_)
        refine V2_ireturn d_P_levels_28 rfl ?_
        have hb0 : 0 ≤ (nI t).toInt ∧ (nI t).toInt < 4 := (by (try clear hQ); (try subst ev9 ev5); ((try simp only [xb_eq, xb_ne, Int32.lt_iff_toInt_lt, Int32.le_iff_toInt_le] at *) <;> (try simp only [← Int32.toInt_inj, true_and, false_and, or_false, false_or, or_true, true_or, and_true, and_false] at *) <;> omega))
        have e : k_levels F (nI t) = (-1000000000 - 2, errF F 2) := (if_pos hb0).trans (by rw [kt]; exact if_pos hz)
        rw [e] at hQ
        subst ev9 ev5
        exact xQi (hQ _ (mid_err hR (by decide))) rfl rfl
theorem c_R_levels_loop {L : Nat} {xs : Nat → Int32} {d : Nat} {Q : Option Value → xF → Prop} {F : xF} {t N P : Nat} {z : Int32} (ht : t < 4) (hN : N ≤ 24) (eN : F 75 t = nI N) (hP6 : P ≤ 6) (eP : F 66 11 = nI P) : ∀ (n_ : Nat) (k m : Nat) (S : Nat → Int32), S 11 = F 66 11 → k + m = (if N ≤ P then N else P) → m < n_ → (Q (some (.int (nI (levS (fun k => F 76 (24 * t + k)) m k S).1))) (xrw F 66 (levS (fun k => F 76 (24 * t + k)) m k S).2)) → V2 L xs (d + 3) m_R_levels 18 [some (.ref 65), some (.int (nI t)), some (.int z), some (.int (nI k))] [] (xrw F 66 S) Q := by
  intro n_
  induction n_ with
  | zero => exact fun k m S g3 h1 h2 => absurd h2 (by omega)
  | succ n_ ih =>
    intro k m S g3 h1 h2 hQ
    have hNP : k + m ≤ N ∧ k + m ≤ P ∧ (k + m = N ∨ k + m = P) := by
      rw [h1]
      split <;> omega
    have s1 : (S 11 - 1).toInt = (P : Int) - 1 := sub_any (n := P) (g3.trans eP) (by omega) (by decide)
    refine V2_iload_n (i := 3) d_R_levels_18 rfl rfl ?_
    refine V2_aload_n (i := 0) d_R_levels_19 rfl rfl ?_
    refine V2_getr (a := 75) d_R_levels_20 fl_R_41 (by decide) rfl (by decide) rfl ?_
    refine V2_iload_n (i := 1) d_R_levels_23 rfl rfl ?_
    refine V2_ialoadJ (t) d_R_levels_24 (by decide) rfl (xixA (n := t) rfl (by omega) (by decide)) (xixB (n := t) rfl (by omega)) rfl ?_
    refine V2_topi (fun v1 ev1 => ?_)
    refine V2_icmp_ge (tgt := 79) d_R_levels_25 rfl (fun c2 => ?_) (fun c2 => ?_)
    · refine V2_iload_n (i := 3) d_R_levels_79 rfl rfl ?_
      refine V2_ireturn d_R_levels_80 rfl ?_
      have hm : m = 0 := by
        have h9 := c2
        subst ev1
        rw [xrw_ne (by decide), eN] at h9
        have := (nI_leI (by omega) (by omega)).mp h9
        omega
      subst hm
      exact hQ
    · have hkN : k < N := by
        have h9 := c2
        subst ev1
        rw [xrw_ne (by decide), eN] at h9
        exact Nat.not_le.mp (fun hh => h9 ((nI_leI (by omega) (by omega)).mpr hh))
      refine V2_aload_n (i := 0) d_R_levels_28 rfl rfl ?_
      refine V2_iload_n (i := 3) d_R_levels_29 rfl rfl ?_
      refine V2_callV [.int (nI k)] d_R_levels_30 rfl rfl lk_R_168 mo_R_isPusher (by decide) rfl rfl rfl (Nat.le_of_ble_eq_true rfl) (Nat.le_of_ble_eq_true rfl) ?_
      refine c_R_isPusher ?_
      refine V2_topi (fun v3 ev3 => ?_)
      refine V2_if_eq (tgt := 79) d_R_levels_33 rfl (fun c4 => ?_) (fun c4 => ?_)
      · refine V2_iload_n (i := 3) d_R_levels_79 rfl rfl ?_
        refine V2_ireturn d_R_levels_80 rfl ?_
        have hm : m = 0 := by
          have h9 := xb_eq.mp (by have h8 := c4; subst ev3 ev1; exact h8)
          rw [xrw_same, toI_le, toI_le, s1, nI_toInt (by omega)] at h9
          have q0 : (0 : Int32).toInt = 0 := by decide
          omega
        subst hm
        exact hQ
      · have hkP : k < P := by
          have h9 := xb_ne.mp (by have h8 := c4; subst ev3 ev1; exact h8)
          rw [xrw_same, toI_le, toI_le, s1, nI_toInt (by omega)] at h9
          omega
        refine V2_aload_n (i := 0) d_R_levels_36 rfl rfl ?_
        refine V2_getr (a := 76) d_R_levels_37 fl_R_44 (by decide) rfl (by decide) rfl ?_
        refine V2_bipush (v := 24) d_R_levels_40 rfl ?_
        refine V2_iload_n (i := 1) d_R_levels_42 rfl rfl ?_
        refine V2_imul d_R_levels_43 ?_
        refine V2_topi (fun v5 ev5 => ?_)
        refine V2_iload_n (i := 3) d_R_levels_44 rfl rfl ?_
        refine V2_iadd d_R_levels_45 ?_
        refine V2_topi (fun v6 ev6 => ?_)
        refine V2_ialoadJ (24 * t + k) d_R_levels_46 (by decide) rfl (xixA (n := 24 * t + k) (by subst ev6 ev5 ev3 ev1; simp only [nI, Int32.ofNat_add, Int32.ofNat_mul]; rfl) (by omega) (by decide)) (xixB (n := 24 * t + k) (by subst ev6 ev5 ev3 ev1; simp only [nI, Int32.ofNat_add, Int32.ofNat_mul]; rfl) (by omega)) rfl ?_
        refine V2_topi (fun v7 ev7 => ?_)
        refine V2_iconst (v := 0) d_R_levels_47 rfl ?_
        refine V2_bipush (v := 9) d_R_levels_48 rfl ?_
        refine V2_callS [.int v7, .int (0 : Int32), .int (9 : Int32)] d_R_levels_50 rfl rfl lk_R_51 mo_R_in (Nat.le_of_ble_eq_true rfl) (Nat.le_of_ble_eq_true rfl) ?_
        refine c_R_in ?_
        refine V2_topi (fun v8 ev8 => ?_)
        refine V2_if_eq (tgt := 79) d_R_levels_53 rfl (fun c9 => ?_) (fun c9 => ?_)
        · refine V2_iload_n (i := 3) d_R_levels_79 rfl rfl ?_
          refine V2_ireturn d_R_levels_80 rfl ?_
          have hng : ¬ (0 ≤ (F 76 (24 * t + k)).toInt ∧ (F 76 (24 * t + k)).toInt ≤ 9) := by
            have h9 := xb_eq.mp (by have h8 := c9; subst ev8 ev7 ev6 ev5 ev3 ev1; exact h8)
            rw [xrw_ne (by decide), toI_le, toI_le] at h9
            exact h9
          rcases m with _ | m
          · exact hQ
          · rw [levS_f (f := fun k => F 76 (24 * t + k)) hng] at hQ
            exact hQ
        · refine V2_aload_n (i := 0) d_R_levels_56 rfl rfl ?_
          refine V2_iload_n (i := 3) d_R_levels_57 rfl rfl ?_
          refine V2_iconst (v := 1) d_R_levels_58 rfl ?_
          refine V2_aload_n (i := 0) d_R_levels_59 rfl rfl ?_
          refine V2_getr (a := 76) d_R_levels_60 fl_R_44 (by decide) rfl (by decide) rfl ?_
          refine V2_bipush (v := 24) d_R_levels_63 rfl ?_
          refine V2_iload_n (i := 1) d_R_levels_65 rfl rfl ?_
          refine V2_imul d_R_levels_66 ?_
          refine V2_topi (fun v10 ev10 => ?_)
          refine V2_iload_n (i := 3) d_R_levels_67 rfl rfl ?_
          refine V2_iadd d_R_levels_68 ?_
          refine V2_topi (fun v11 ev11 => ?_)
          refine V2_ialoadJ (24 * t + k) d_R_levels_69 (by decide) rfl (xixA (n := 24 * t + k) (by subst ev11 ev10 ev8 ev7 ev6 ev5 ev3 ev1; simp only [nI, Int32.ofNat_add, Int32.ofNat_mul]; rfl) (by omega) (by decide)) (xixB (n := 24 * t + k) (by subst ev11 ev10 ev8 ev7 ev6 ev5 ev3 ev1; simp only [nI, Int32.ofNat_add, Int32.ofNat_mul]; rfl) (by omega)) rfl ?_
          refine V2_topi (fun v12 ev12 => ?_)
          refine V2_callV [.int (nI k), .int (1 : Int32), .int v12] d_R_levels_70 rfl rfl lk_R_164 mo_R_lays1 (by decide) rfl rfl rfl (Nat.le_of_ble_eq_true rfl) (Nat.le_of_ble_eq_true rfl) ?_
          refine c_R_lays1 (p := k) (by omega) ?_
          obtain ⟨v13, ev13⟩ : ∃ y : Int32, y = nI k + 1 := ⟨_, rfl⟩
          refine V2_iinc (i := 3) (v := v13) (l' := [some (.ref 65), some (.int (nI t)), some (.int z), some (.int v13)]) d_R_levels_73 rfl (by rw [ev13]; rfl) (xst_i (Nat.le_of_ble_eq_true rfl) rfl rfl) ?_
          refine V2_goto (tgt := 18) d_R_levels_76 rfl ?_
          have hg : 0 ≤ (F 76 (24 * t + k)).toInt ∧ (F 76 (24 * t + k)).toInt ≤ 9 := by
            have h9 := xb_ne.mp (by have h8 := c9; subst ev13 ev12 ev11 ev10 ev8 ev7 ev6 ev5 ev3 ev1; exact h8)
            rw [xrw_ne (by decide), toI_le, toI_le] at h9
            exact h9
          obtain ⟨m, rfl⟩ : ∃ m2, m = m2 + 1 := ⟨m - 1, by omega⟩
          rw [levS_t (f := fun k => F 76 (24 * t + k)) hg] at hQ
          refine V2.to (ih (k + 1) m (upd S (12 + 2 * k + 1) (F 76 (24 * t + k))) ((upd_ne (by omega)).trans g3) (by omega) (by omega) hQ) rfl ?_ rfl ?_
          · rw [ev13, nI_1]
          · subst ev13 ev12 ev11 ev10 ev8 ev7 ev6 ev5 ev3 ev1
            rw [xp_xrw, xrw_ne (show ¬ 76 = 66 by decide)]
theorem c_mod_levels {L : Nat} {xs : Nat → Int32} {d : Nat} {Q : Option Value → xF → Prop} {F : xF} {sh : Int32} {F0 : xF} (hR : Rel F0) (hM : Mid F0 F (k_levels F0 sh).2) (hQ : ∀ F2, Rel F2 → Q (some (.int (k_levels F0 sh).1)) F2) : V2 L xs (d + 3) m_R_levels 0 (xEntry [.ref 65, .int sh] 4) [] F Q := by
  have q0 : (0 : Int32).toInt = 0 := by decide
  have q1 : (1 : Int32).toInt = 1 := by decide
  have q2 : (2 : Int32).toInt = 2 := by decide
  have q3 : (3 : Int32).toInt = 3 := by decide
  have q4 : (4 : Int32).toInt = 4 := by decide
  have q5 : (5 : Int32).toInt = 5 := by decide
  have q6 : (6 : Int32).toInt = 6 := by decide
  have q7 : (7 : Int32).toInt = 7 := by decide
  have q8 : (8 : Int32).toInt = 8 := by decide
  have q9 : (9 : Int32).toInt = 9 := by decide
  have q10 : (10 : Int32).toInt = 10 := by decide
  have q12 : (12 : Int32).toInt = 12 := by decide
  have q16 : (16 : Int32).toInt = 16 := by decide
  have q20 : (20 : Int32).toInt = 20 := by decide
  have q24 : (24 : Int32).toInt = 24 := by decide
  have q30 : (30 : Int32).toInt = 30 := by decide
  have q32 : (32 : Int32).toInt = 32 := by decide
  have q40 : (40 : Int32).toInt = 40 := by decide
  have q60 : (60 : Int32).toInt = 60 := by decide
  have q69 : (69 : Int32).toInt = 69 := by decide
  have q99 : (99 : Int32).toInt = 99 := by decide
  have q9999 : (9999 : Int32).toInt = 9999 := by decide
  have q274 : (274 : Int32).toInt = 274 := by decide
  have q334 : (334 : Int32).toInt = 334 := by decide
  obtain ⟨eP, hP6⟩ := inv_PN hR.2.1.2.2.1
  have nP : (F0 66 11).toInt = (PN (F0 66) : Int) := PN_int hR.2.1.2.2.1
  have e66 : F 66 = F0 66 := hM.1 66 (by decide)
  have e74 : F 74 = F0 74 := hM.1 74 (by decide)
  have e75 : F 75 = F0 75 := hM.1 75 (by decide)
  have e76 : F 76 = F0 76 := hM.1 76 (by decide)
  refine V2.to (l' := [some (.ref 65), some (.int sh), none, none]) ?_ rfl rfl rfl rfl
  refine V2_aload_n (i := 0) d_R_levels_0 rfl rfl ?_
  refine V2_iload_n (i := 1) d_R_levels_1 rfl rfl ?_
  refine V2_callV [.int sh] d_R_levels_2 rfl rfl lk_R_218 mo_R_lacks (by decide) rfl rfl rfl (Nat.le_of_ble_eq_true rfl) (Nat.le_of_ble_eq_true rfl) ?_
  refine V2.to (l' := [some (.ref 65), some (.int sh)]) ?_ rfl rfl rfl rfl
  refine V2_iload_n (i := 1) d_R_lacks_0 rfl rfl ?_
  refine V2_callS [.int sh] d_R_lacks_1 rfl rfl lk_R_258 mo_R_isSheet (Nat.le_of_ble_eq_true rfl) (Nat.le_of_ble_eq_true rfl) ?_
  refine c_R_isSheet ?_
  refine V2_topi (fun v1 ev1 => ?_)
  refine V2_if_ne (tgt := 11) d_R_lacks_4 rfl (fun c2 => ?_) (fun c2 => ?_)
  · obtain ⟨t, ht, ept⟩ := in_of (x := sh) (P := 4) (by (try clear hQ); (try subst ev1); ((try simp only [xb_eq, xb_ne, Int32.lt_iff_toInt_lt, Int32.le_iff_toInt_le] at *) <;> (try simp only [← Int32.toInt_inj, true_and, false_and, or_false, false_or, or_true, true_or, and_true, and_false] at *) <;> omega)) (by (try clear hQ); (try subst ev1); ((try simp only [xb_eq, xb_ne, Int32.lt_iff_toInt_lt, Int32.le_iff_toInt_le] at *) <;> (try simp only [← Int32.toInt_inj, true_and, false_and, or_false, false_or, or_true, true_or, and_true, and_false] at *) <;> omega)) (by omega)
    subst ept
    have nt : (nI t).toInt = (t : Int) := nI_toInt (by omega)
    have kt : (nI t).toNatClampNeg = t := nI_clamp (by omega)
    obtain ⟨N, hN, eN, nN, e2, eb, hb⟩ := inv_sz hR ht
    refine V2_aload_n (i := 0) d_R_lacks_11 rfl rfl ?_
    refine V2_getr (a := 74) d_R_lacks_12 fl_R_38 (by decide) rfl (by decide) rfl ?_
    refine V2_iload_n (i := 1) d_R_lacks_15 rfl rfl ?_
    refine V2_ialoadJ (t) d_R_lacks_16 (by decide) rfl (xixA (n := t) rfl (by omega) (by decide)) (xixB (n := t) rfl (by omega)) rfl ?_
    refine V2_topi (fun v3 ev3 => ?_)
    refine V2_if_ne (tgt := 24) d_R_lacks_17 rfl (fun c4 => ?_) (fun c4 => ?_)
    · have hz : ¬ F0 74 t = 0 := by
        have h9 := c4
        subst ev3 ev1
        rw [← congrFun e74 t]
        exact h9
      refine V2_iconst (v := 0) d_R_lacks_24 rfl ?_
      refine V2_ireturn d_R_lacks_25 rfl ?_
      refine V2.to (st' := [.int (0 : Int32)]) ?_ rfl rfl rfl rfl
      refine V2_istore_n (i := 2) (l' := [some (.ref 65), some (.int (nI t)), some (.int (0 : Int32)), none]) d_R_levels_5 rfl (xst_i (Nat.le_of_ble_eq_true rfl) rfl rfl) ?_
      refine V2_iload_n (i := 2) d_R_levels_6 rfl rfl ?_
      refine V2_if_eq (tgt := 16) d_R_levels_7 rfl (fun _ => ?_) (fun c => (by first | exact absurd c (by decide) | exact absurd (by decide) c))
      refine V2_iconst (v := 0) d_R_levels_16 rfl ?_
      refine V2_istore_n (i := 3) (l' := [some (.ref 65), some (.int (nI t)), some (.int (0 : Int32)), some (.int (0 : Int32))]) d_R_levels_17 rfl (xst_i (Nat.le_of_ble_eq_true rfl) rfl rfl) ?_
      have eL : LN F0 t = if N ≤ PN (F0 66) then N else PN (F0 66) := by
        unfold LN
        rw [eN, nI_clamp (by omega)]
      have hL6 : LN F0 t + 0 ≤ 6 := by
        rw [eL]
        split <;> omega
      have hb0 : 0 ≤ (nI t).toInt ∧ (nI t).toInt < 4 := (by (try clear hQ); (try subst ev3 ev1); ((try simp only [xb_eq, xb_ne, Int32.lt_iff_toInt_lt, Int32.le_iff_toInt_le] at *) <;> (try simp only [← Int32.toInt_inj, true_and, false_and, or_false, false_or, or_true, true_or, and_true, and_false] at *) <;> omega))
      have e : k_levels F0 (nI t) = (nI (lev F0 t).1, xrw F0 66 (lev F0 t).2) := (if_pos hb0).trans (by rw [kt]; exact if_neg hz)
      rw [e] at hQ hM
      have hfin := hQ (xrw F 66 (lev F0 t).2) (rel_W hR hM (invS_people hR.2.1 (levS_inv _ _ _ _ hR.2.1.2.2.1) (fun j hj => levS_o _ _ _ _ hL6 j (by omega))))
      have ef : lev F0 t = levS (fun k => F 76 (24 * t + k)) (LN F0 t) 0 (F 66) := by
        unfold lev
        rw [e66, e76]
      rw [ef] at hfin
      refine V2.to (c_R_levels_loop ht hN ((congrFun e75 t).trans eN) hP6 (by rw [e66]; exact eP) (LN F0 t + 1) 0 (LN F0 t) (F 66) rfl (by omega) (by omega) hfin) rfl rfl rfl (xrw_self F 66).symm
    · have hz : F0 74 t = 0 := by
        have h9 := c4
        subst ev3 ev1
        rw [← congrFun e74 t]
        exact h9
      refine V2_iconst (v := 2) d_R_lacks_20 rfl ?_
      refine V2_goto (tgt := 25) d_R_lacks_21 rfl ?_
      refine V2_ireturn d_R_lacks_25 rfl ?_
      refine V2.to (st' := [.int (2 : Int32)]) ?_ rfl rfl rfl rfl
      refine V2_istore_n (i := 2) (l' := [some (.ref 65), some (.int (nI t)), some (.int (2 : Int32)), none]) d_R_levels_5 rfl (xst_i (Nat.le_of_ble_eq_true rfl) rfl rfl) ?_
      refine V2_iload_n (i := 2) d_R_levels_6 rfl rfl ?_
      refine V2_if_eq (tgt := 16) d_R_levels_7 rfl (fun c => (by first | exact absurd c (by decide) | exact absurd (by decide) c)) (fun _ => ?_)
      refine V2_aload_n (i := 0) d_R_levels_10 rfl rfl ?_
      refine V2_iload_n (i := 2) d_R_levels_11 rfl rfl ?_
      refine V2_callV [.int (2 : Int32)] d_R_levels_12 rfl rfl lk_R_55 mo_R_error (by decide) rfl rfl rfl (Nat.le_of_ble_eq_true rfl) (Nat.le_of_ble_eq_true rfl) ?_
      refine c_R_error2 ?_
      refine V2_topi (fun v5 ev5 => ?_)
      refine V2_ireturn d_R_levels_15 rfl ?_
      have hb0 : 0 ≤ (nI t).toInt ∧ (nI t).toInt < 4 := (by (try clear hQ); (try subst ev5 ev3 ev1); ((try simp only [xb_eq, xb_ne, Int32.lt_iff_toInt_lt, Int32.le_iff_toInt_le] at *) <;> (try simp only [← Int32.toInt_inj, true_and, false_and, or_false, false_or, or_true, true_or, and_true, and_false] at *) <;> omega))
      have e : k_levels F0 (nI t) = (-1000000000 - 2, errF F0 2) := (if_pos hb0).trans (by rw [kt]; exact if_pos hz)
      rw [e] at hQ hM
      subst ev5 ev3 ev1
      exact xQi (hQ _ (rel_err hR hM)) rfl rfl
  · refine V2_iconst (v := 1) d_R_lacks_7 rfl ?_
    refine V2_goto (tgt := 25) d_R_lacks_8 rfl ?_
    refine V2_ireturn d_R_lacks_25 rfl ?_
    refine V2.to (st' := [.int (1 : Int32)]) ?_ rfl rfl rfl rfl
    refine V2_istore_n (i := 2) (l' := [some (.ref 65), some (.int sh), some (.int (1 : Int32)), none]) d_R_levels_5 rfl (xst_i (Nat.le_of_ble_eq_true rfl) rfl rfl) ?_
    refine V2_iload_n (i := 2) d_R_levels_6 rfl rfl ?_
    refine V2_if_eq (tgt := 16) d_R_levels_7 rfl (fun c => (by first | exact absurd c (by decide) | exact absurd (by decide) c)) (fun _ => ?_)
    refine V2_aload_n (i := 0) d_R_levels_10 rfl rfl ?_
    refine V2_iload_n (i := 2) d_R_levels_11 rfl rfl ?_
    refine V2_callV [.int (1 : Int32)] d_R_levels_12 rfl rfl lk_R_55 mo_R_error (by decide) rfl rfl rfl (Nat.le_of_ble_eq_true rfl) (Nat.le_of_ble_eq_true rfl) ?_
    refine c_R_error1 ?_
    refine V2_topi (fun v6 ev6 => ?_)
    refine V2_ireturn d_R_levels_15 rfl ?_
    have hb0 : ¬ (0 ≤ sh.toInt ∧ sh.toInt < 4) := (by (try clear hQ); (try subst ev6 ev1); ((try simp only [xb_eq, xb_ne, Int32.lt_iff_toInt_lt, Int32.le_iff_toInt_le] at *) <;> (try simp only [← Int32.toInt_inj, true_and, false_and, or_false, false_or, or_true, true_or, and_true, and_false] at *) <;> omega))
    have e : k_levels F0 sh = (-1000000000 - 1, errF F0 1) := if_neg hb0
    rw [e] at hQ hM
    subst ev6 ev1
    exact xQi (hQ _ (rel_err hR hM)) rfl rfl
