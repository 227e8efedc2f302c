/-! fits -/
noncomputable def procF (f : Nat → Int32) (n : Nat) (S : Nat → Int32) (row : Nat) (s : Int32 × Nat) : Int32 × Nat := @ite _ (cmN f (PN S) n 0 row S) (Classical.propDecidable _) ((if s.2 = 0 then nI row else s.1), s.2 + 1) s
theorem pF_t {f : Nat → Int32} {n row : Nat} {S : Nat → Int32} {s : Int32 × Nat} (h : cmN f (PN S) n 0 row S) : procF f n S row s = ((if s.2 = 0 then nI row else s.1), s.2 + 1) := if_pos h
theorem pF_f {f : Nat → Int32} {n row : Nat} {S : Nat → Int32} {s : Int32 × Nat} (h : ¬ cmN f (PN S) n 0 row S) : procF f n S row s = s := if_neg h
theorem pF_B {f : Nat → Int32} {n : Nat} {S : Nat → Int32} (a : Nat) (s : Int32 × Nat) (h : s.2 ≤ a) : (procF f n S a s).2 ≤ a + 1 := by
  by_cases hc : cmN f (PN S) n 0 a S
  · rw [pF_t hc]
    show s.2 + 1 ≤ a + 1
    omega
  · rw [pF_f hc]
    omega
/-- what a search for rows that fit has, always -/
def fitI (n : Nat) (s : Int32 × Nat) : Prop := (s.2 = 0 ∧ s.1 = -1) ∨ (0 < s.2 ∧ ∃ b, s.1 = nI b ∧ b < 10 ^ n)
theorem fit_inv {f : Nat → Int32} {n : Nat} {S : Nat → Int32} : ∀ (m a : Nat) (s : Int32 × Nat), a + m ≤ 10 ^ n → fitI n s → fitI n (blk (procF f n S) a m s) := by
  intro m
  induction m with
  | zero => intro a s _ h; exact h
  | succ m ih =>
    intro a s hm h
    refine ih (a + 1) _ (by omega) ?_
    by_cases hc : cmN f (PN S) n 0 a S
    · rw [pF_t hc]
      refine Or.inr ⟨Nat.succ_pos _, ?_⟩
      rcases h with ⟨h1, h2⟩ | ⟨h1, h2⟩
      · exact ⟨a, if_pos h1, by omega⟩
      · obtain ⟨b, e, hb⟩ := h2
        exact ⟨b, (if_neg (by omega)).trans e, hb⟩
    · rw [pF_f hc]
      exact h
noncomputable def fitS (F : xF) (t n : Nat) : Int32 × Nat := blk (procF (fun k => F 76 (24 * t + k)) n (F 66)) 0 (10 ^ n) (-1, 0)
theorem fitS_i (F : xF) (t n : Nat) : fitI n (fitS F t n) ∧ (fitS F t n).2 ≤ 10 ^ n := by
  refine ⟨fit_inv _ _ _ (by omega) (Or.inl ⟨rfl, rfl⟩), ?_⟩
  have := blk_B (f := procF (fun k => F 76 (24 * t + k)) n (F 66)) (B := fun a s => s.2 ≤ a) (fun a s h => pF_B a s h) (10 ^ n) 0 (-1, 0) (Nat.le_refl 0)
  have h2 : (fitS F t n).2 ≤ 0 + 10 ^ n := this
  omega
def fitsA (F : xF) (n : Nat) (s : Int32 × Nat) (w : Int32) : Int32 × xF := if w.toInt = -1 then (nI s.2, F) else if s.2 = 0 ∨ (n : Int) ≤ w.toInt then (-1000000000 - 2, errF F 2) else (nI (s.1.toNatClampNeg / 10 ^ (n - 1 - w.toNatClampNeg) % 10), F)
noncomputable def k_fits (F : xF) (sh w : Int32) : Int32 × xF := if (0 ≤ sh.toInt ∧ sh.toInt < 4) ∧ -1 ≤ w.toInt ∧ w.toInt ≤ 2 then (if (F 74 sh.toNatClampNeg).toInt = 0 ∨ (F 75 sh.toNatClampNeg).toInt < 1 ∨ 3 < (F 75 sh.toNatClampNeg).toInt then (-1000000000 - 2, errF F 2) else fitsA F (F 75 sh.toNatClampNeg).toNatClampNeg (fitS F sh.toNatClampNeg (F 75 sh.toNatClampNeg).toNatClampNeg) w) else (-1000000000 - 1, errF F 1)
def fitsR (n : Nat) (num : Nat → Int32) (G : xF) (s : Int32 × Nat) : Prop := G 36 8 = nI s.2 ∧ (0 < s.2 → ∃ b, s.1 = nI b ∧ b < 10 ^ n ∧ ∀ i, i < n → G 41 i = nI (b / 10 ^ (n - 1 - i) % 10)) ∧ G 38 1 = nI n ∧ ∀ i, i < n → G 39 i = num i
def fitK (f : Nat → Int32) (n : Nat) (S : Nat → Int32) (l pre : Nat) (T : Nat → Int32) : Prop := ∀ q, q < 10 ^ (n - l) → (cmN f (PN S) n 0 (pre * 10 ^ (n - l) + q) S ↔ cmN f (PN S) (n - l) l q T)
def fitJ (f : Nat → Int32) (n : Nat) (S : Nat → Int32) (l pre : Nat) (T : Nat → Int32) : Prop := ∀ q, q < 10 ^ (n - l) → (cmN f (PN S) n 0 (pre * 10 ^ (n - l) + q) S ↔ (T 2 = f (l - 1) ∧ cmN f (PN S) (n - l) l q T))
theorem fit_J {f : Nat → Int32} {n : Nat} {S : Nat → Int32} (l pre g : Nat) (T : Nat → Int32) (hl : l < n) (hg : g < 10) (h5 : ¬ T 5 = 1) (hk : fitK f n S l pre T) : fitJ f n S (l + 1) (pre * 10 + g) (goS T (nI g) 63 (PN S)) := by
  obtain ⟨r, hr⟩ : ∃ r, n - l = r + 1 := ⟨n - l - 1, by omega⟩
  have hr2 : n - (l + 1) = r := by omega
  unfold fitK at hk
  unfold fitJ
  rw [hr2]
  rw [hr] at hk
  intro q hq
  have hlt : g * 10 ^ r + q < 10 ^ (r + 1) := by
    rw [Nat.pow_succ]
    have : (g + 1) * 10 ^ r ≤ 10 * 10 ^ r := Nat.mul_le_mul_right _ (by omega)
    rw [Nat.add_mul, Nat.one_mul] at this
    rw [Nat.mul_comm (10 ^ r) 10]
    omega
  have e1 : pre * 10 ^ (r + 1) + (g * 10 ^ r + q) = (pre * 10 + g) * 10 ^ r + q := by
    rw [Nat.pow_succ, Nat.add_mul, Nat.mul_assoc pre 10, Nat.mul_comm 10 (10 ^ r)]
    omega
  have hpos : 0 < 10 ^ r := Nat.pow_pos (by decide)
  have e2 : (g * 10 ^ r + q) / 10 ^ r = g := by
    rw [Nat.add_comm, Nat.mul_comm, Nat.add_mul_div_left _ _ hpos, Nat.div_eq_of_lt hq, Nat.zero_add]
  have e3 : (g * 10 ^ r + q) % 10 ^ r = q := by
    rw [Nat.add_comm, Nat.mul_comm, Nat.add_mul_mod_self_left, Nat.mod_eq_of_lt hq]
  have h9 := hk (g * 10 ^ r + q) hlt
  rw [e1] at h9
  rw [h9, show l + 1 - 1 = l from Nat.add_sub_cancel l 1]
  show (¬ T 5 = 1 ∧ goS T (nI ((g * 10 ^ r + q) / 10 ^ r)) 63 (PN S) 2 = f l ∧ cmN f (PN S) r (l + 1) ((g * 10 ^ r + q) % 10 ^ r) (goS T (nI ((g * 10 ^ r + q) / 10 ^ r)) 63 (PN S))) ↔ _
  rw [e2, e3]
  exact ⟨fun h => h.2, fun h => ⟨h5, h⟩⟩
theorem fit_lt {n l pre : Nat} (hl : l + 1 ≤ n) (h : pre < 10 ^ (l + 1)) : pre * 10 ^ (n - (l + 1)) < 10 ^ n := by
  have e : 10 ^ n = 10 ^ (l + 1) * 10 ^ (n - (l + 1)) := by
    rw [← Nat.pow_add, show l + 1 + (n - (l + 1)) = n by omega]
  rw [e]
  exact Nat.mul_lt_mul_of_pos_right h (Nat.pow_pos (by decide))
theorem fitsR_st {n : Nat} {num : Nat → Int32} : stabR (fitsR n num) := by
  intro G G2 s h ha hj
  obtain ⟨h1, h2, h3, h4⟩ := h
  refine ⟨(hj 8 (by decide)).trans h1, fun hp => ?_, (congrFun (ha 38 (by omega)) 1).trans h3, fun i hi => (congrFun (ha 39 (by omega)) i).trans (h4 i hi)⟩
  obtain ⟨b, e, hb, hd⟩ := h2 hp
  exact ⟨b, e, hb, fun i hi => (congrFun (ha 41 (by omega)) i).trans (hd i hi)⟩
theorem c_visF_0 {L : Nat} {xs : Nat → Int32} {d : Nat} {Q : Option Value → xF → Prop} {F G : xF} {S T : Nat → Int32} {n pre : Nat} {s : Int32 × Nat} {f num : Nat → Int32} (hn : n ≤ 3) (hnum : ∀ i, i < n → ∃ bits, eqBits bits (num i) (f i)) (hl : 0 < n) (hx : ctxV F G S T 1 n (0 + 1) pre 43) (hj : fitJ f n S (0 + 1) pre T) (hb : s.2 ≤ pre * 10 ^ (n - (0 + 1))) (hR : fitsR n num G s) (hQ : ∀ (G2 : xF) (b : Int32), frV G G2 → ((b = 1 ∧ ¬ T 5 = 1 ∧ 0 + 1 < n ∧ fitK f n S (0 + 1) pre T ∧ fitsR n num G2 s) ∨ ((b = 0 ∨ b = 1 ∧ (T 5 = 1 ∨ 0 + 1 = n)) ∧ fitsR n num G2 (blk (procF f n S) (pre * 10 ^ (n - (0 + 1))) (10 ^ (n - (0 + 1))) s))) → Q (some (.int b)) G2) : V2 L xs (d + 4) m_Rows_goesOn 0 (xEntry [.ref 36, .int (0 : Int32), .ref 43] 3) [] G Q := by
  have hC2 := hx.2.2.2.2.2.2.2.1.2.2.1
  replace hnum : ∀ i, i < n → ∃ bits, eqBits bits (num i) (f i) := hnum
  obtain ⟨bits9, hnum⟩ : ∃ bt : Nat → Int32, ∀ i, i < n → eqBits (bt i) (num i) (f i) := ⟨fun i => if h : i < n then Classical.choose (hnum i h) else 0, fun i hi => by
    show eqBits (if h : i < n then Classical.choose (hnum i h) else 0) (num i) (f i)
    rw [dif_pos hi]
    exact Classical.choose_spec (hnum i hi)⟩
  refine V2.to (l' := [some (.ref 36), some (.int (0 : Int32)), some (.ref 43)]) ?_ rfl rfl rfl rfl
  refine V2_aload_n (i := 0) d_Rows_goesOn_0 rfl rfl ?_
  refine V2_get (v := G 36 4) d_Rows_goesOn_1 fl_Rows_33 (by decide) rfl (by decide) rfl rfl ?_
  refine V2_topi (fun v1 ev1 => ?_)
  have c2 : v1 = 1 := (by subst ev1; exact hx.2.1)
  refine V2_lookup (tgt := 32) d_Rows_goesOn_4 (by decide) (by rw [c2]; first | done | rfl | decide +kernel) rfl ?_
  refine V2_aload_n (i := 0) d_Rows_goesOn_32 rfl rfl ?_
  refine V2_iload_n (i := 1) d_Rows_goesOn_33 rfl rfl ?_
  refine V2_aload_n (i := 2) d_Rows_goesOn_34 rfl rfl ?_
  refine V2_callV [.int (0 : Int32), .ref 43] d_Rows_goesOn_35 rfl rfl lk_Rows_117 mo_Rows_fitsSoFar (by decide) rfl rfl rfl (Nat.le_of_ble_eq_true rfl) (Nat.le_of_ble_eq_true rfl) ?_
  refine V2.to (l' := [some (.ref 36), some (.int (0 : Int32)), some (.ref 43)]) ?_ rfl rfl rfl rfl
  refine V2_aload_n (i := 2) d_Rows_fitsSoFar_0 rfl rfl ?_
  refine V2_get (v := G 43 2) d_Rows_fitsSoFar_1 fl_Rows_126 (by decide) rfl (by decide) rfl rfl ?_
  refine V2_topi (fun v3 ev3 => ?_)
  refine V2_aload_n (i := 0) d_Rows_fitsSoFar_4 rfl rfl ?_
  refine V2_getr (a := 38) d_Rows_fitsSoFar_5 fl_Rows_22 (by decide) rfl (by decide) rfl ?_
  refine V2_iload_n (i := 1) d_Rows_fitsSoFar_8 rfl rfl ?_
  refine V2_callV [.int (0 : Int32)] d_Rows_fitsSoFar_9 rfl rfl lk_Rows_135 mo_Nums_at (by decide) rfl rfl rfl (Nat.le_of_ble_eq_true rfl) (Nat.le_of_ble_eq_true rfl) ?_
  refine c_Nums_at_38 (p := 0) (P := n) hR.2.2.1 hn (by omega) ?_
  refine V2_topi (fun v4 ev4 => ?_)
  refine V2_icmp_eq (tgt := 17) d_Rows_fitsSoFar_12 rfl (fun c5 => ?_) (fun c5 => ?_)
  · refine V2_iload_n (i := 1) d_Rows_fitsSoFar_17 rfl rfl ?_
    refine V2_iconst (v := 1) d_Rows_fitsSoFar_18 rfl ?_
    refine V2_iadd d_Rows_fitsSoFar_19 ?_
    refine V2_lit (v := 1) (by decide) ?_
    refine V2_aload_n (i := 0) d_Rows_fitsSoFar_20 rfl rfl ?_
    refine V2_get (v := G 36 5) d_Rows_fitsSoFar_21 fl_Rows_37 (by decide) rfl (by decide) rfl rfl ?_
    refine V2_topi (fun v6 ev6 => ?_)
    refine V2_icmp_ne (tgt := 49) d_Rows_fitsSoFar_24 rfl (fun c7 => ?_) (fun c7 => ?_)
    · refine V2_iconst (v := 1) d_Rows_fitsSoFar_49 rfl ?_
      refine V2_zreturn d_Rows_fitsSoFar_50 rfl (by decide) ?_
      refine V2.to (st' := [.int (1 : Int32)]) ?_ rfl rfl rfl rfl
      refine V2_zreturn d_Rows_goesOn_38 rfl (by decide) ?_
      have heq : T 2 = f 0 := by
        have h9 := c5
        subst ev6 ev4 ev3 ev1
        rw [hx.2.2.2.2.2.1.2.2.1, hR.2.2.2 0 (by omega)] at h9
        obtain ⟨k9, hk9, ek9⟩ := in_of (x := T 2) (P := 100) hC2.1 (by omega) (by omega)
        rw [ek9] at h9
        exact ek9.trans ((eq_small (hnum 0 (by omega)) hk9).mp h9.symm).symm
      have hln : ¬ 0 + 1 = n := by
        intro hh
        apply c7
        subst ev6 ev4 ev3 ev1
        rw [hx.2.2.1, ← hh]
        rfl
      refine hQ G 1 (frV.refl G) ?_
      by_cases h5 : T 5 = 1
      · refine Or.inr ⟨Or.inr ⟨rfl, Or.inl h5⟩, ?_⟩
        rw [blk_id _ _ _ _ (fun i h1 h2 => ?_)]
        · exact hR
        · have h9 := hj (i - pre * 10 ^ (n - (0 + 1))) (by omega)
          rw [show pre * 10 ^ (n - (0 + 1)) + (i - pre * 10 ^ (n - (0 + 1))) = i by omega, show n - (0 + 1) = (n - (0 + 1) - 1) + 1 by omega] at h9
          exact pF_f (fun hh => (h9.mp hh).2.1 h5)
      · exact Or.inl ⟨rfl, h5, by omega, fun q hq => (hj q hq).trans ⟨fun h => h.2, fun h => ⟨heq, h⟩⟩, hR⟩
    · refine V2_aload_n (i := 0) d_Rows_fitsSoFar_27 rfl rfl ?_
      refine V2_get (v := G 36 8) d_Rows_fitsSoFar_28 fl_Rows_46 (by decide) rfl (by decide) rfl rfl ?_
      refine V2_topi (fun v8 ev8 => ?_)
      refine V2_if_ne (tgt := 39) d_Rows_fitsSoFar_31 rfl (fun c9 => ?_) (fun c9 => ?_)
      · refine V2_aload_n (i := 0) d_Rows_fitsSoFar_39 rfl rfl ?_
        refine V2_dup d_Rows_fitsSoFar_40 rfl ?_
        refine V2_get (v := G 36 8) d_Rows_fitsSoFar_41 fl_Rows_46 (by decide) rfl (by decide) rfl rfl ?_
        refine V2_topi (fun v10 ev10 => ?_)
        refine V2_iconst (v := 1) d_Rows_fitsSoFar_44 rfl ?_
        refine V2_iadd d_Rows_fitsSoFar_45 ?_
        refine V2_topi (fun v11 ev11 => ?_)
        refine V2_put d_Rows_fitsSoFar_46 fl_Rows_46 (by decide) rfl (by decide) rfl ?_
        refine V2_iconst (v := 1) d_Rows_fitsSoFar_49 rfl ?_
        refine V2_zreturn d_Rows_fitsSoFar_50 rfl (by decide) ?_
        refine V2.to (st' := [.int (1 : Int32)]) ?_ rfl rfl rfl rfl
        refine V2_zreturn d_Rows_goesOn_38 rfl (by decide) ?_
        have heq : T 2 = f 0 := by
          have h9 := c5
          subst ev11 ev10 ev8 ev6 ev4 ev3 ev1
          rw [hx.2.2.2.2.2.1.2.2.1, hR.2.2.2 0 (by omega)] at h9
          obtain ⟨k9, hk9, ek9⟩ := in_of (x := T 2) (P := 100) hC2.1 (by omega) (by omega)
          rw [ek9] at h9
          exact ek9.trans ((eq_small (hnum 0 (by omega)) hk9).mp h9.symm).symm
        have hln : n = 0 + 1 := by
          have h9 := c7
          subst ev11 ev10 ev8 ev6 ev4 ev3 ev1
          rw [hx.2.2.1] at h9
          exact ((nI_eq (a := 1) (b := n) (by omega) (by omega)).mp h9).symm
        subst hln
        have hB2 : s.2 ≤ 1000 := by have := fit_lt (n := 0 + 1) (l := 0) (Nat.le_refl _) hx.2.2.2.2.1; have := p10 (n := 0 + 1) (by omega); omega
        have hcm : cmN f (PN S) (0 + 1) 0 pre S := by
          have h9 := hj 0 (Nat.pow_pos (by decide))
          rw [Nat.sub_self, Nat.pow_zero, Nat.mul_one, Nat.add_zero] at h9
          exact h9.mpr ⟨heq, trivial⟩
        have hz : ¬ s.2 = 0 := by
          intro hh
          apply c9
          subst ev11 ev10 ev8 ev6 ev4 ev3 ev1
          rw [hR.1, hh]
          rfl
        subst ev11 ev10 ev8 ev6 ev4 ev3 ev1
        refine hQ _ 1 ⟨fun a h1 h2 => ?_, ?_, ?_⟩ (Or.inr ⟨Or.inr ⟨rfl, Or.inr rfl⟩, ?_⟩)
        · repeat (first | rw [xp_row_ne h1] | rw [xp_row_ne h2])
          try rfl
        · rfl
        · rfl
        · rw [Nat.sub_self, Nat.pow_zero, Nat.mul_one, blk_1, pF_t hcm]
          refine ⟨?_, fun _ => ?_, hR.2.2.1, hR.2.2.2⟩
          · show G 36 8 + 1 = nI (s.2 + 1)
            rw [hR.1, nI_1]
          · obtain ⟨b, e, hb9, hd⟩ := hR.2.1 (by omega)
            exact ⟨b, (if_neg hz).trans e, hb9, hd⟩
      · refine V2_aload_n (i := 0) d_Rows_fitsSoFar_34 rfl rfl ?_
        refine V2_iload_n (i := 1) d_Rows_fitsSoFar_35 rfl rfl ?_
        refine V2_callV [.int (0 : Int32)] d_Rows_fitsSoFar_36 rfl rfl lk_Rows_132 mo_Rows_keep (by decide) rfl rfl rfl (Nat.le_of_ble_eq_true rfl) (Nat.le_of_ble_eq_true rfl) ?_
        refine V2.to (l' := [some (.ref 36), some (.int (0 : Int32)), none]) ?_ rfl rfl rfl rfl
        refine V2_iconst (v := 0) d_Rows_keep_0 rfl ?_
        refine V2_istore_n (i := 2) (l' := [some (.ref 36), some (.int (0 : Int32)), some (.int (0 : Int32))]) d_Rows_keep_1 rfl (xst_i (Nat.le_of_ble_eq_true rfl) rfl rfl) ?_
        refine V2_iload_n (i := 2) d_Rows_keep_2 rfl rfl ?_
        refine V2_aload_n (i := 0) d_Rows_keep_3 rfl rfl ?_
        refine V2_getr (a := 40) d_Rows_keep_4 fl_Rows_26 (by decide) rfl (by decide) rfl ?_
        refine V2_alen (t := 0) (v := 4) d_Rows_keep_7 (by decide) rfl (by decide) rfl ?_
        refine V2_icmp_ge (tgt := 47) d_Rows_keep_8 rfl (fun c => (by first | exact absurd c (by decide) | exact absurd (by decide) c)) (fun _ => ?_)
        refine V2_iload_n (i := 2) d_Rows_keep_11 rfl rfl ?_
        refine V2_aload_n (i := 0) d_Rows_keep_12 rfl rfl ?_
        refine V2_getr (a := 41) d_Rows_keep_13 fl_Rows_30 (by decide) rfl (by decide) rfl ?_
        refine V2_alen (t := 0) (v := 4) d_Rows_keep_16 (by decide) rfl (by decide) rfl ?_
        refine V2_icmp_ge (tgt := 47) d_Rows_keep_17 rfl (fun c => (by first | exact absurd c (by decide) | exact absurd (by decide) c)) (fun _ => ?_)
        refine V2_aload_n (i := 0) d_Rows_keep_20 rfl rfl ?_
        refine V2_getr (a := 41) d_Rows_keep_21 fl_Rows_30 (by decide) rfl (by decide) rfl ?_
        refine V2_iload_n (i := 2) d_Rows_keep_24 rfl rfl ?_
        refine V2_iload_n (i := 2) d_Rows_keep_25 rfl rfl ?_
        refine V2_iload_n (i := 1) d_Rows_keep_26 rfl rfl ?_
        refine V2_icmp_gt (tgt := 39) d_Rows_keep_27 rfl (fun c => (by first | exact absurd c (by decide) | exact absurd (by decide) c)) (fun _ => ?_)
        refine V2_aload_n (i := 0) d_Rows_keep_30 rfl rfl ?_
        refine V2_getr (a := 40) d_Rows_keep_31 fl_Rows_26 (by decide) rfl (by decide) rfl ?_
        refine V2_iload_n (i := 2) d_Rows_keep_34 rfl rfl ?_
        refine V2_iaload (v := G 40 0) d_Rows_keep_35 (by decide) rfl (xixA (n := 0) rfl (by decide) (by decide)) rfl ?_
        refine V2_topi (fun v12 ev12 => ?_)
        refine V2_goto (tgt := 40) d_Rows_keep_36 rfl ?_
        refine V2_iastore (j := 0) d_Rows_keep_40 (by decide) rfl (xixA (n := 0) rfl (by decide) (by decide)) rfl ?_
        refine V2_iinc (i := 2) (v := 1) (l' := [some (.ref 36), some (.int (0 : Int32)), some (.int (1 : Int32))]) d_Rows_keep_41 rfl (by decide) (xst_i (Nat.le_of_ble_eq_true rfl) rfl rfl) ?_
        refine V2_goto (tgt := 2) d_Rows_keep_44 rfl ?_
        refine V2_iload_n (i := 2) d_Rows_keep_2 rfl rfl ?_
        refine V2_aload_n (i := 0) d_Rows_keep_3 rfl rfl ?_
        refine V2_getr (a := 40) d_Rows_keep_4 fl_Rows_26 (by decide) rfl (by decide) rfl ?_
        refine V2_alen (t := 0) (v := 4) d_Rows_keep_7 (by decide) rfl (by decide) rfl ?_
        refine V2_icmp_ge (tgt := 47) d_Rows_keep_8 rfl (fun c => (by first | exact absurd c (by decide) | exact absurd (by decide) c)) (fun _ => ?_)
        refine V2_iload_n (i := 2) d_Rows_keep_11 rfl rfl ?_
        refine V2_aload_n (i := 0) d_Rows_keep_12 rfl rfl ?_
        refine V2_getr (a := 41) d_Rows_keep_13 fl_Rows_30 (by decide) rfl (by decide) rfl ?_
        refine V2_alen (t := 0) (v := 4) d_Rows_keep_16 (by decide) rfl (by decide) rfl ?_
        refine V2_icmp_ge (tgt := 47) d_Rows_keep_17 rfl (fun c => (by first | exact absurd c (by decide) | exact absurd (by decide) c)) (fun _ => ?_)
        refine V2_aload_n (i := 0) d_Rows_keep_20 rfl rfl ?_
        refine V2_getr (a := 41) d_Rows_keep_21 fl_Rows_30 (by decide) rfl (by decide) rfl ?_
        refine V2_iload_n (i := 2) d_Rows_keep_24 rfl rfl ?_
        refine V2_iload_n (i := 2) d_Rows_keep_25 rfl rfl ?_
        refine V2_iload_n (i := 1) d_Rows_keep_26 rfl rfl ?_
        refine V2_icmp_gt (tgt := 39) d_Rows_keep_27 rfl (fun _ => ?_) (fun c => (by first | exact absurd c (by decide) | exact absurd (by decide) c))
        refine V2_iconst (v := 0) d_Rows_keep_39 rfl ?_
        refine V2_iastore (j := 1) d_Rows_keep_40 (by decide) rfl (xixA (n := 1) rfl (by decide) (by decide)) rfl ?_
        refine V2_iinc (i := 2) (v := 2) (l' := [some (.ref 36), some (.int (0 : Int32)), some (.int (2 : Int32))]) d_Rows_keep_41 rfl (by decide) (xst_i (Nat.le_of_ble_eq_true rfl) rfl rfl) ?_
        refine V2_goto (tgt := 2) d_Rows_keep_44 rfl ?_
        refine V2_iload_n (i := 2) d_Rows_keep_2 rfl rfl ?_
        refine V2_aload_n (i := 0) d_Rows_keep_3 rfl rfl ?_
        refine V2_getr (a := 40) d_Rows_keep_4 fl_Rows_26 (by decide) rfl (by decide) rfl ?_
        refine V2_alen (t := 0) (v := 4) d_Rows_keep_7 (by decide) rfl (by decide) rfl ?_
        refine V2_icmp_ge (tgt := 47) d_Rows_keep_8 rfl (fun c => (by first | exact absurd c (by decide) | exact absurd (by decide) c)) (fun _ => ?_)
        refine V2_iload_n (i := 2) d_Rows_keep_11 rfl rfl ?_
        refine V2_aload_n (i := 0) d_Rows_keep_12 rfl rfl ?_
        refine V2_getr (a := 41) d_Rows_keep_13 fl_Rows_30 (by decide) rfl (by decide) rfl ?_
        refine V2_alen (t := 0) (v := 4) d_Rows_keep_16 (by decide) rfl (by decide) rfl ?_
        refine V2_icmp_ge (tgt := 47) d_Rows_keep_17 rfl (fun c => (by first | exact absurd c (by decide) | exact absurd (by decide) c)) (fun _ => ?_)
        refine V2_aload_n (i := 0) d_Rows_keep_20 rfl rfl ?_
        refine V2_getr (a := 41) d_Rows_keep_21 fl_Rows_30 (by decide) rfl (by decide) rfl ?_
        refine V2_iload_n (i := 2) d_Rows_keep_24 rfl rfl ?_
        refine V2_iload_n (i := 2) d_Rows_keep_25 rfl rfl ?_
        refine V2_iload_n (i := 1) d_Rows_keep_26 rfl rfl ?_
        refine V2_icmp_gt (tgt := 39) d_Rows_keep_27 rfl (fun _ => ?_) (fun c => (by first | exact absurd c (by decide) | exact absurd (by decide) c))
        refine V2_iconst (v := 0) d_Rows_keep_39 rfl ?_
        refine V2_iastore (j := 2) d_Rows_keep_40 (by decide) rfl (xixA (n := 2) rfl (by decide) (by decide)) rfl ?_
        refine V2_iinc (i := 2) (v := 3) (l' := [some (.ref 36), some (.int (0 : Int32)), some (.int (3 : Int32))]) d_Rows_keep_41 rfl (by decide) (xst_i (Nat.le_of_ble_eq_true rfl) rfl rfl) ?_
        refine V2_goto (tgt := 2) d_Rows_keep_44 rfl ?_
        refine V2_iload_n (i := 2) d_Rows_keep_2 rfl rfl ?_
        refine V2_aload_n (i := 0) d_Rows_keep_3 rfl rfl ?_
        refine V2_getr (a := 40) d_Rows_keep_4 fl_Rows_26 (by decide) rfl (by decide) rfl ?_
        refine V2_alen (t := 0) (v := 4) d_Rows_keep_7 (by decide) rfl (by decide) rfl ?_
        refine V2_icmp_ge (tgt := 47) d_Rows_keep_8 rfl (fun c => (by first | exact absurd c (by decide) | exact absurd (by decide) c)) (fun _ => ?_)
        refine V2_iload_n (i := 2) d_Rows_keep_11 rfl rfl ?_
        refine V2_aload_n (i := 0) d_Rows_keep_12 rfl rfl ?_
        refine V2_getr (a := 41) d_Rows_keep_13 fl_Rows_30 (by decide) rfl (by decide) rfl ?_
        refine V2_alen (t := 0) (v := 4) d_Rows_keep_16 (by decide) rfl (by decide) rfl ?_
        refine V2_icmp_ge (tgt := 47) d_Rows_keep_17 rfl (fun c => (by first | exact absurd c (by decide) | exact absurd (by decide) c)) (fun _ => ?_)
        refine V2_aload_n (i := 0) d_Rows_keep_20 rfl rfl ?_
        refine V2_getr (a := 41) d_Rows_keep_21 fl_Rows_30 (by decide) rfl (by decide) rfl ?_
        refine V2_iload_n (i := 2) d_Rows_keep_24 rfl rfl ?_
        refine V2_iload_n (i := 2) d_Rows_keep_25 rfl rfl ?_
        refine V2_iload_n (i := 1) d_Rows_keep_26 rfl rfl ?_
        refine V2_icmp_gt (tgt := 39) d_Rows_keep_27 rfl (fun _ => ?_) (fun c => (by first | exact absurd c (by decide) | exact absurd (by decide) c))
        refine V2_iconst (v := 0) d_Rows_keep_39 rfl ?_
        refine V2_iastore (j := 3) d_Rows_keep_40 (by decide) rfl (xixA (n := 3) rfl (by decide) (by decide)) rfl ?_
        refine V2_iinc (i := 2) (v := 4) (l' := [some (.ref 36), some (.int (0 : Int32)), some (.int (4 : Int32))]) d_Rows_keep_41 rfl (by decide) (xst_i (Nat.le_of_ble_eq_true rfl) rfl rfl) ?_
        refine V2_goto (tgt := 2) d_Rows_keep_44 rfl ?_
        refine V2_iload_n (i := 2) d_Rows_keep_2 rfl rfl ?_
        refine V2_aload_n (i := 0) d_Rows_keep_3 rfl rfl ?_
        refine V2_getr (a := 40) d_Rows_keep_4 fl_Rows_26 (by decide) rfl (by decide) rfl ?_
        refine V2_alen (t := 0) (v := 4) d_Rows_keep_7 (by decide) rfl (by decide) rfl ?_
        refine V2_icmp_ge (tgt := 47) d_Rows_keep_8 rfl (fun _ => ?_) (fun c => (by first | exact absurd c (by decide) | exact absurd (by decide) c))
        refine V2_return d_Rows_keep_47 rfl ?_
        refine V2.to (st' := []) ?_ rfl rfl rfl rfl
        refine V2_aload_n (i := 0) d_Rows_fitsSoFar_39 rfl rfl ?_
        refine V2_dup d_Rows_fitsSoFar_40 rfl ?_
        refine V2_get (v := G 36 8) d_Rows_fitsSoFar_41 fl_Rows_46 (by decide) rfl (by decide) rfl rfl ?_
        refine V2_topi (fun v17 ev17 => ?_)
        refine V2_iconst (v := 1) d_Rows_fitsSoFar_44 rfl ?_
        refine V2_iadd d_Rows_fitsSoFar_45 ?_
        refine V2_topi (fun v18 ev18 => ?_)
        refine V2_put d_Rows_fitsSoFar_46 fl_Rows_46 (by decide) rfl (by decide) rfl ?_
        refine V2_iconst (v := 1) d_Rows_fitsSoFar_49 rfl ?_
        refine V2_zreturn d_Rows_fitsSoFar_50 rfl (by decide) ?_
        refine V2.to (st' := [.int (1 : Int32)]) ?_ rfl rfl rfl rfl
        refine V2_zreturn d_Rows_goesOn_38 rfl (by decide) ?_
        have heq : T 2 = f 0 := by
          have h9 := c5
          subst ev18 ev17 ev12 ev8 ev6 ev4 ev3 ev1
          rw [hx.2.2.2.2.2.1.2.2.1, hR.2.2.2 0 (by omega)] at h9
          obtain ⟨k9, hk9, ek9⟩ := in_of (x := T 2) (P := 100) hC2.1 (by omega) (by omega)
          rw [ek9] at h9
          exact ek9.trans ((eq_small (hnum 0 (by omega)) hk9).mp h9.symm).symm
        have hln : n = 0 + 1 := by
          have h9 := c7
          subst ev18 ev17 ev12 ev8 ev6 ev4 ev3 ev1
          rw [hx.2.2.1] at h9
          exact ((nI_eq (a := 1) (b := n) (by omega) (by omega)).mp h9).symm
        subst hln
        have hB2 : s.2 ≤ 1000 := by have := fit_lt (n := 0 + 1) (l := 0) (Nat.le_refl _) hx.2.2.2.2.1; have := p10 (n := 0 + 1) (by omega); omega
        have hcm : cmN f (PN S) (0 + 1) 0 pre S := by
          have h9 := hj 0 (Nat.pow_pos (by decide))
          rw [Nat.sub_self, Nat.pow_zero, Nat.mul_one, Nat.add_zero] at h9
          exact h9.mpr ⟨heq, trivial⟩
        have hz : s.2 = 0 := by
          have h9 := c9
          subst ev18 ev17 ev12 ev8 ev6 ev4 ev3 ev1
          rw [hR.1] at h9
          exact (nI_eq (b := 0) (by omega) (by omega)).mp h9
        subst ev18 ev17 ev12 ev8 ev6 ev4 ev3 ev1
        refine hQ _ 1 ⟨fun a h1 h2 => ?_, ?_, ?_⟩ (Or.inr ⟨Or.inr ⟨rfl, Or.inr rfl⟩, ?_⟩)
        · repeat (first | rw [xp_row_ne h1] | rw [xp_row_ne h2])
          try rfl
        · rfl
        · rfl
        · rw [Nat.sub_self, Nat.pow_zero, Nat.mul_one, blk_1, pF_t hcm]
          refine ⟨?_, fun _ => ?_, hR.2.2.1, hR.2.2.2⟩
          · show G 36 8 + 1 = nI (s.2 + 1)
            rw [hR.1, nI_1]
          · refine ⟨pre, if_pos hz, hx.2.2.2.2.1, fun i hi => ?_⟩
            have h9 : i = 0 := by omega
            subst h9
            exact hx.2.2.2.1 0 (by omega)
  · refine V2_iconst (v := 0) d_Rows_fitsSoFar_15 rfl ?_
    refine V2_zreturn d_Rows_fitsSoFar_16 rfl (by decide) ?_
    refine V2.to (st' := [.int (0 : Int32)]) ?_ rfl rfl rfl rfl
    refine V2_zreturn d_Rows_goesOn_38 rfl (by decide) ?_
    have hne : ¬ T 2 = f 0 := by
      intro hh
      apply c5
      subst ev4 ev3 ev1
      rw [hx.2.2.2.2.2.1.2.2.1, hR.2.2.2 0 (by omega)]
      obtain ⟨k9, hk9, ek9⟩ := in_of (x := T 2) (P := 100) hC2.1 (by omega) (by omega)
      rw [ek9]
      exact ((eq_small (hnum 0 (by omega)) hk9).mpr (hh.symm.trans ek9)).symm
    refine hQ G 0 (frV.refl G) (Or.inr ⟨Or.inl rfl, ?_⟩)
    rw [blk_id _ _ _ _ (fun i h1 h2 => ?_)]
    · exact hR
    · have h9 := hj (i - pre * 10 ^ (n - (0 + 1))) (by omega)
      rw [show pre * 10 ^ (n - (0 + 1)) + (i - pre * 10 ^ (n - (0 + 1))) = i by omega] at h9
      exact pF_f (fun hh => hne (h9.mp hh).1)
theorem c_visF_1 {L : Nat} {xs : Nat → Int32} {d : Nat} {Q : Option Value → xF → Prop} {F G : xF} {S T : Nat → Int32} {n pre : Nat} {s : Int32 × Nat} {f num : Nat → Int32} (hn : n ≤ 3) (hnum : ∀ i, i < n → ∃ bits, eqBits bits (num i) (f i)) (hl : 1 < n) (hx : ctxV F G S T 1 n (1 + 1) pre 44) (hj : fitJ f n S (1 + 1) pre T) (hb : s.2 ≤ pre * 10 ^ (n - (1 + 1))) (hR : fitsR n num G s) (hQ : ∀ (G2 : xF) (b : Int32), frV G G2 → ((b = 1 ∧ ¬ T 5 = 1 ∧ 1 + 1 < n ∧ fitK f n S (1 + 1) pre T ∧ fitsR n num G2 s) ∨ ((b = 0 ∨ b = 1 ∧ (T 5 = 1 ∨ 1 + 1 = n)) ∧ fitsR n num G2 (blk (procF f n S) (pre * 10 ^ (n - (1 + 1))) (10 ^ (n - (1 + 1))) s))) → Q (some (.int b)) G2) : V2 L xs (d + 4) m_Rows_goesOn 0 (xEntry [.ref 36, .int (1 : Int32), .ref 44] 3) [] G Q := by
  have hC2 := hx.2.2.2.2.2.2.2.1.2.2.1
  replace hnum : ∀ i, i < n → ∃ bits, eqBits bits (num i) (f i) := hnum
  obtain ⟨bits9, hnum⟩ : ∃ bt : Nat → Int32, ∀ i, i < n → eqBits (bt i) (num i) (f i) := ⟨fun i => if h : i < n then Classical.choose (hnum i h) else 0, fun i hi => by
    show eqBits (if h : i < n then Classical.choose (hnum i h) else 0) (num i) (f i)
    rw [dif_pos hi]
    exact Classical.choose_spec (hnum i hi)⟩
  refine V2.to (l' := [some (.ref 36), some (.int (1 : Int32)), some (.ref 44)]) ?_ rfl rfl rfl rfl
  refine V2_aload_n (i := 0) d_Rows_goesOn_0 rfl rfl ?_
  refine V2_get (v := G 36 4) d_Rows_goesOn_1 fl_Rows_33 (by decide) rfl (by decide) rfl rfl ?_
  refine V2_topi (fun v1 ev1 => ?_)
  have c2 : v1 = 1 := (by subst ev1; exact hx.2.1)
  refine V2_lookup (tgt := 32) d_Rows_goesOn_4 (by decide) (by rw [c2]; first | done | rfl | decide +kernel) rfl ?_
  refine V2_aload_n (i := 0) d_Rows_goesOn_32 rfl rfl ?_
  refine V2_iload_n (i := 1) d_Rows_goesOn_33 rfl rfl ?_
  refine V2_aload_n (i := 2) d_Rows_goesOn_34 rfl rfl ?_
  refine V2_callV [.int (1 : Int32), .ref 44] d_Rows_goesOn_35 rfl rfl lk_Rows_117 mo_Rows_fitsSoFar (by decide) rfl rfl rfl (Nat.le_of_ble_eq_true rfl) (Nat.le_of_ble_eq_true rfl) ?_
  refine V2.to (l' := [some (.ref 36), some (.int (1 : Int32)), some (.ref 44)]) ?_ rfl rfl rfl rfl
  refine V2_aload_n (i := 2) d_Rows_fitsSoFar_0 rfl rfl ?_
  refine V2_get (v := G 44 2) d_Rows_fitsSoFar_1 fl_Rows_126 (by decide) rfl (by decide) rfl rfl ?_
  refine V2_topi (fun v3 ev3 => ?_)
  refine V2_aload_n (i := 0) d_Rows_fitsSoFar_4 rfl rfl ?_
  refine V2_getr (a := 38) d_Rows_fitsSoFar_5 fl_Rows_22 (by decide) rfl (by decide) rfl ?_
  refine V2_iload_n (i := 1) d_Rows_fitsSoFar_8 rfl rfl ?_
  refine V2_callV [.int (1 : Int32)] d_Rows_fitsSoFar_9 rfl rfl lk_Rows_135 mo_Nums_at (by decide) rfl rfl rfl (Nat.le_of_ble_eq_true rfl) (Nat.le_of_ble_eq_true rfl) ?_
  refine c_Nums_at_38 (p := 1) (P := n) hR.2.2.1 hn (by omega) ?_
  refine V2_topi (fun v4 ev4 => ?_)
  refine V2_icmp_eq (tgt := 17) d_Rows_fitsSoFar_12 rfl (fun c5 => ?_) (fun c5 => ?_)
  · refine V2_iload_n (i := 1) d_Rows_fitsSoFar_17 rfl rfl ?_
    refine V2_iconst (v := 1) d_Rows_fitsSoFar_18 rfl ?_
    refine V2_iadd d_Rows_fitsSoFar_19 ?_
    refine V2_lit (v := 2) (by decide) ?_
    refine V2_aload_n (i := 0) d_Rows_fitsSoFar_20 rfl rfl ?_
    refine V2_get (v := G 36 5) d_Rows_fitsSoFar_21 fl_Rows_37 (by decide) rfl (by decide) rfl rfl ?_
    refine V2_topi (fun v6 ev6 => ?_)
    refine V2_icmp_ne (tgt := 49) d_Rows_fitsSoFar_24 rfl (fun c7 => ?_) (fun c7 => ?_)
    · refine V2_iconst (v := 1) d_Rows_fitsSoFar_49 rfl ?_
      refine V2_zreturn d_Rows_fitsSoFar_50 rfl (by decide) ?_
      refine V2.to (st' := [.int (1 : Int32)]) ?_ rfl rfl rfl rfl
      refine V2_zreturn d_Rows_goesOn_38 rfl (by decide) ?_
      have heq : T 2 = f 1 := by
        have h9 := c5
        subst ev6 ev4 ev3 ev1
        rw [hx.2.2.2.2.2.1.2.2.1, hR.2.2.2 1 (by omega)] at h9
        obtain ⟨k9, hk9, ek9⟩ := in_of (x := T 2) (P := 100) hC2.1 (by omega) (by omega)
        rw [ek9] at h9
        exact ek9.trans ((eq_small (hnum 1 (by omega)) hk9).mp h9.symm).symm
      have hln : ¬ 1 + 1 = n := by
        intro hh
        apply c7
        subst ev6 ev4 ev3 ev1
        rw [hx.2.2.1, ← hh]
        rfl
      refine hQ G 1 (frV.refl G) ?_
      by_cases h5 : T 5 = 1
      · refine Or.inr ⟨Or.inr ⟨rfl, Or.inl h5⟩, ?_⟩
        rw [blk_id _ _ _ _ (fun i h1 h2 => ?_)]
        · exact hR
        · have h9 := hj (i - pre * 10 ^ (n - (1 + 1))) (by omega)
          rw [show pre * 10 ^ (n - (1 + 1)) + (i - pre * 10 ^ (n - (1 + 1))) = i by omega, show n - (1 + 1) = (n - (1 + 1) - 1) + 1 by omega] at h9
          exact pF_f (fun hh => (h9.mp hh).2.1 h5)
      · exact Or.inl ⟨rfl, h5, by omega, fun q hq => (hj q hq).trans ⟨fun h => h.2, fun h => ⟨heq, h⟩⟩, hR⟩
    · refine V2_aload_n (i := 0) d_Rows_fitsSoFar_27 rfl rfl ?_
      refine V2_get (v := G 36 8) d_Rows_fitsSoFar_28 fl_Rows_46 (by decide) rfl (by decide) rfl rfl ?_
      refine V2_topi (fun v8 ev8 => ?_)
      refine V2_if_ne (tgt := 39) d_Rows_fitsSoFar_31 rfl (fun c9 => ?_) (fun c9 => ?_)
      · refine V2_aload_n (i := 0) d_Rows_fitsSoFar_39 rfl rfl ?_
        refine V2_dup d_Rows_fitsSoFar_40 rfl ?_
        refine V2_get (v := G 36 8) d_Rows_fitsSoFar_41 fl_Rows_46 (by decide) rfl (by decide) rfl rfl ?_
        refine V2_topi (fun v10 ev10 => ?_)
        refine V2_iconst (v := 1) d_Rows_fitsSoFar_44 rfl ?_
        refine V2_iadd d_Rows_fitsSoFar_45 ?_
        refine V2_topi (fun v11 ev11 => ?_)
        refine V2_put d_Rows_fitsSoFar_46 fl_Rows_46 (by decide) rfl (by decide) rfl ?_
        refine V2_iconst (v := 1) d_Rows_fitsSoFar_49 rfl ?_
        refine V2_zreturn d_Rows_fitsSoFar_50 rfl (by decide) ?_
        refine V2.to (st' := [.int (1 : Int32)]) ?_ rfl rfl rfl rfl
        refine V2_zreturn d_Rows_goesOn_38 rfl (by decide) ?_
        have heq : T 2 = f 1 := by
          have h9 := c5
          subst ev11 ev10 ev8 ev6 ev4 ev3 ev1
          rw [hx.2.2.2.2.2.1.2.2.1, hR.2.2.2 1 (by omega)] at h9
          obtain ⟨k9, hk9, ek9⟩ := in_of (x := T 2) (P := 100) hC2.1 (by omega) (by omega)
          rw [ek9] at h9
          exact ek9.trans ((eq_small (hnum 1 (by omega)) hk9).mp h9.symm).symm
        have hln : n = 1 + 1 := by
          have h9 := c7
          subst ev11 ev10 ev8 ev6 ev4 ev3 ev1
          rw [hx.2.2.1] at h9
          exact ((nI_eq (a := 2) (b := n) (by omega) (by omega)).mp h9).symm
        subst hln
        have hB2 : s.2 ≤ 1000 := by have := fit_lt (n := 1 + 1) (l := 1) (Nat.le_refl _) hx.2.2.2.2.1; have := p10 (n := 1 + 1) (by omega); omega
        have hcm : cmN f (PN S) (1 + 1) 0 pre S := by
          have h9 := hj 0 (Nat.pow_pos (by decide))
          rw [Nat.sub_self, Nat.pow_zero, Nat.mul_one, Nat.add_zero] at h9
          exact h9.mpr ⟨heq, trivial⟩
        have hz : ¬ s.2 = 0 := by
          intro hh
          apply c9
          subst ev11 ev10 ev8 ev6 ev4 ev3 ev1
          rw [hR.1, hh]
          rfl
        subst ev11 ev10 ev8 ev6 ev4 ev3 ev1
        refine hQ _ 1 ⟨fun a h1 h2 => ?_, ?_, ?_⟩ (Or.inr ⟨Or.inr ⟨rfl, Or.inr rfl⟩, ?_⟩)
        · repeat (first | rw [xp_row_ne h1] | rw [xp_row_ne h2])
          try rfl
        · rfl
        · rfl
        · rw [Nat.sub_self, Nat.pow_zero, Nat.mul_one, blk_1, pF_t hcm]
          refine ⟨?_, fun _ => ?_, hR.2.2.1, hR.2.2.2⟩
          · show G 36 8 + 1 = nI (s.2 + 1)
            rw [hR.1, nI_1]
          · obtain ⟨b, e, hb9, hd⟩ := hR.2.1 (by omega)
            exact ⟨b, (if_neg hz).trans e, hb9, hd⟩
      · refine V2_aload_n (i := 0) d_Rows_fitsSoFar_34 rfl rfl ?_
        refine V2_iload_n (i := 1) d_Rows_fitsSoFar_35 rfl rfl ?_
        refine V2_callV [.int (1 : Int32)] d_Rows_fitsSoFar_36 rfl rfl lk_Rows_132 mo_Rows_keep (by decide) rfl rfl rfl (Nat.le_of_ble_eq_true rfl) (Nat.le_of_ble_eq_true rfl) ?_
        refine V2.to (l' := [some (.ref 36), some (.int (1 : Int32)), none]) ?_ rfl rfl rfl rfl
        refine V2_iconst (v := 0) d_Rows_keep_0 rfl ?_
        refine V2_istore_n (i := 2) (l' := [some (.ref 36), some (.int (1 : Int32)), some (.int (0 : Int32))]) d_Rows_keep_1 rfl (xst_i (Nat.le_of_ble_eq_true rfl) rfl rfl) ?_
        refine V2_iload_n (i := 2) d_Rows_keep_2 rfl rfl ?_
        refine V2_aload_n (i := 0) d_Rows_keep_3 rfl rfl ?_
        refine V2_getr (a := 40) d_Rows_keep_4 fl_Rows_26 (by decide) rfl (by decide) rfl ?_
        refine V2_alen (t := 0) (v := 4) d_Rows_keep_7 (by decide) rfl (by decide) rfl ?_
        refine V2_icmp_ge (tgt := 47) d_Rows_keep_8 rfl (fun c => (by first | exact absurd c (by decide) | exact absurd (by decide) c)) (fun _ => ?_)
        refine V2_iload_n (i := 2) d_Rows_keep_11 rfl rfl ?_
        refine V2_aload_n (i := 0) d_Rows_keep_12 rfl rfl ?_
        refine V2_getr (a := 41) d_Rows_keep_13 fl_Rows_30 (by decide) rfl (by decide) rfl ?_
        refine V2_alen (t := 0) (v := 4) d_Rows_keep_16 (by decide) rfl (by decide) rfl ?_
        refine V2_icmp_ge (tgt := 47) d_Rows_keep_17 rfl (fun c => (by first | exact absurd c (by decide) | exact absurd (by decide) c)) (fun _ => ?_)
        refine V2_aload_n (i := 0) d_Rows_keep_20 rfl rfl ?_
        refine V2_getr (a := 41) d_Rows_keep_21 fl_Rows_30 (by decide) rfl (by decide) rfl ?_
        refine V2_iload_n (i := 2) d_Rows_keep_24 rfl rfl ?_
        refine V2_iload_n (i := 2) d_Rows_keep_25 rfl rfl ?_
        refine V2_iload_n (i := 1) d_Rows_keep_26 rfl rfl ?_
        refine V2_icmp_gt (tgt := 39) d_Rows_keep_27 rfl (fun c => (by first | exact absurd c (by decide) | exact absurd (by decide) c)) (fun _ => ?_)
        refine V2_aload_n (i := 0) d_Rows_keep_30 rfl rfl ?_
        refine V2_getr (a := 40) d_Rows_keep_31 fl_Rows_26 (by decide) rfl (by decide) rfl ?_
        refine V2_iload_n (i := 2) d_Rows_keep_34 rfl rfl ?_
        refine V2_iaload (v := G 40 0) d_Rows_keep_35 (by decide) rfl (xixA (n := 0) rfl (by decide) (by decide)) rfl ?_
        refine V2_topi (fun v12 ev12 => ?_)
        refine V2_goto (tgt := 40) d_Rows_keep_36 rfl ?_
        refine V2_iastore (j := 0) d_Rows_keep_40 (by decide) rfl (xixA (n := 0) rfl (by decide) (by decide)) rfl ?_
        refine V2_iinc (i := 2) (v := 1) (l' := [some (.ref 36), some (.int (1 : Int32)), some (.int (1 : Int32))]) d_Rows_keep_41 rfl (by decide) (xst_i (Nat.le_of_ble_eq_true rfl) rfl rfl) ?_
        refine V2_goto (tgt := 2) d_Rows_keep_44 rfl ?_
        refine V2_iload_n (i := 2) d_Rows_keep_2 rfl rfl ?_
        refine V2_aload_n (i := 0) d_Rows_keep_3 rfl rfl ?_
        refine V2_getr (a := 40) d_Rows_keep_4 fl_Rows_26 (by decide) rfl (by decide) rfl ?_
        refine V2_alen (t := 0) (v := 4) d_Rows_keep_7 (by decide) rfl (by decide) rfl ?_
        refine V2_icmp_ge (tgt := 47) d_Rows_keep_8 rfl (fun c => (by first | exact absurd c (by decide) | exact absurd (by decide) c)) (fun _ => ?_)
        refine V2_iload_n (i := 2) d_Rows_keep_11 rfl rfl ?_
        refine V2_aload_n (i := 0) d_Rows_keep_12 rfl rfl ?_
        refine V2_getr (a := 41) d_Rows_keep_13 fl_Rows_30 (by decide) rfl (by decide) rfl ?_
        refine V2_alen (t := 0) (v := 4) d_Rows_keep_16 (by decide) rfl (by decide) rfl ?_
        refine V2_icmp_ge (tgt := 47) d_Rows_keep_17 rfl (fun c => (by first | exact absurd c (by decide) | exact absurd (by decide) c)) (fun _ => ?_)
        refine V2_aload_n (i := 0) d_Rows_keep_20 rfl rfl ?_
        refine V2_getr (a := 41) d_Rows_keep_21 fl_Rows_30 (by decide) rfl (by decide) rfl ?_
        refine V2_iload_n (i := 2) d_Rows_keep_24 rfl rfl ?_
        refine V2_iload_n (i := 2) d_Rows_keep_25 rfl rfl ?_
        refine V2_iload_n (i := 1) d_Rows_keep_26 rfl rfl ?_
        refine V2_icmp_gt (tgt := 39) d_Rows_keep_27 rfl (fun c => (by first | exact absurd c (by decide) | exact absurd (by decide) c)) (fun _ => ?_)
        refine V2_aload_n (i := 0) d_Rows_keep_30 rfl rfl ?_
        refine V2_getr (a := 40) d_Rows_keep_31 fl_Rows_26 (by decide) rfl (by decide) rfl ?_
        refine V2_iload_n (i := 2) d_Rows_keep_34 rfl rfl ?_
        refine V2_iaload (v := G 40 1) d_Rows_keep_35 (by decide) rfl (xixA (n := 1) rfl (by decide) (by decide)) rfl ?_
        refine V2_topi (fun v14 ev14 => ?_)
        refine V2_goto (tgt := 40) d_Rows_keep_36 rfl ?_
        refine V2_iastore (j := 1) d_Rows_keep_40 (by decide) rfl (xixA (n := 1) rfl (by decide) (by decide)) rfl ?_
        refine V2_iinc (i := 2) (v := 2) (l' := [some (.ref 36), some (.int (1 : Int32)), some (.int (2 : Int32))]) d_Rows_keep_41 rfl (by decide) (xst_i (Nat.le_of_ble_eq_true rfl) rfl rfl) ?_
        refine V2_goto (tgt := 2) d_Rows_keep_44 rfl ?_
        refine V2_iload_n (i := 2) d_Rows_keep_2 rfl rfl ?_
        refine V2_aload_n (i := 0) d_Rows_keep_3 rfl rfl ?_
        refine V2_getr (a := 40) d_Rows_keep_4 fl_Rows_26 (by decide) rfl (by decide) rfl ?_
        refine V2_alen (t := 0) (v := 4) d_Rows_keep_7 (by decide) rfl (by decide) rfl ?_
        refine V2_icmp_ge (tgt := 47) d_Rows_keep_8 rfl (fun c => (by first | exact absurd c (by decide) | exact absurd (by decide) c)) (fun _ => ?_)
        refine V2_iload_n (i := 2) d_Rows_keep_11 rfl rfl ?_
        refine V2_aload_n (i := 0) d_Rows_keep_12 rfl rfl ?_
        refine V2_getr (a := 41) d_Rows_keep_13 fl_Rows_30 (by decide) rfl (by decide) rfl ?_
        refine V2_alen (t := 0) (v := 4) d_Rows_keep_16 (by decide) rfl (by decide) rfl ?_
        refine V2_icmp_ge (tgt := 47) d_Rows_keep_17 rfl (fun c => (by first | exact absurd c (by decide) | exact absurd (by decide) c)) (fun _ => ?_)
        refine V2_aload_n (i := 0) d_Rows_keep_20 rfl rfl ?_
        refine V2_getr (a := 41) d_Rows_keep_21 fl_Rows_30 (by decide) rfl (by decide) rfl ?_
        refine V2_iload_n (i := 2) d_Rows_keep_24 rfl rfl ?_
        refine V2_iload_n (i := 2) d_Rows_keep_25 rfl rfl ?_
        refine V2_iload_n (i := 1) d_Rows_keep_26 rfl rfl ?_
        refine V2_icmp_gt (tgt := 39) d_Rows_keep_27 rfl (fun _ => ?_) (fun c => (by first | exact absurd c (by decide) | exact absurd (by decide) c))
        refine V2_iconst (v := 0) d_Rows_keep_39 rfl ?_
        refine V2_iastore (j := 2) d_Rows_keep_40 (by decide) rfl (xixA (n := 2) rfl (by decide) (by decide)) rfl ?_
        refine V2_iinc (i := 2) (v := 3) (l' := [some (.ref 36), some (.int (1 : Int32)), some (.int (3 : Int32))]) d_Rows_keep_41 rfl (by decide) (xst_i (Nat.le_of_ble_eq_true rfl) rfl rfl) ?_
        refine V2_goto (tgt := 2) d_Rows_keep_44 rfl ?_
        refine V2_iload_n (i := 2) d_Rows_keep_2 rfl rfl ?_
        refine V2_aload_n (i := 0) d_Rows_keep_3 rfl rfl ?_
        refine V2_getr (a := 40) d_Rows_keep_4 fl_Rows_26 (by decide) rfl (by decide) rfl ?_
        refine V2_alen (t := 0) (v := 4) d_Rows_keep_7 (by decide) rfl (by decide) rfl ?_
        refine V2_icmp_ge (tgt := 47) d_Rows_keep_8 rfl (fun c => (by first | exact absurd c (by decide) | exact absurd (by decide) c)) (fun _ => ?_)
        refine V2_iload_n (i := 2) d_Rows_keep_11 rfl rfl ?_
        refine V2_aload_n (i := 0) d_Rows_keep_12 rfl rfl ?_
        refine V2_getr (a := 41) d_Rows_keep_13 fl_Rows_30 (by decide) rfl (by decide) rfl ?_
        refine V2_alen (t := 0) (v := 4) d_Rows_keep_16 (by decide) rfl (by decide) rfl ?_
        refine V2_icmp_ge (tgt := 47) d_Rows_keep_17 rfl (fun c => (by first | exact absurd c (by decide) | exact absurd (by decide) c)) (fun _ => ?_)
        refine V2_aload_n (i := 0) d_Rows_keep_20 rfl rfl ?_
        refine V2_getr (a := 41) d_Rows_keep_21 fl_Rows_30 (by decide) rfl (by decide) rfl ?_
        refine V2_iload_n (i := 2) d_Rows_keep_24 rfl rfl ?_
        refine V2_iload_n (i := 2) d_Rows_keep_25 rfl rfl ?_
        refine V2_iload_n (i := 1) d_Rows_keep_26 rfl rfl ?_
        refine V2_icmp_gt (tgt := 39) d_Rows_keep_27 rfl (fun _ => ?_) (fun c => (by first | exact absurd c (by decide) | exact absurd (by decide) c))
        refine V2_iconst (v := 0) d_Rows_keep_39 rfl ?_
        refine V2_iastore (j := 3) d_Rows_keep_40 (by decide) rfl (xixA (n := 3) rfl (by decide) (by decide)) rfl ?_
        refine V2_iinc (i := 2) (v := 4) (l' := [some (.ref 36), some (.int (1 : Int32)), some (.int (4 : Int32))]) d_Rows_keep_41 rfl (by decide) (xst_i (Nat.le_of_ble_eq_true rfl) rfl rfl) ?_
        refine V2_goto (tgt := 2) d_Rows_keep_44 rfl ?_
        refine V2_iload_n (i := 2) d_Rows_keep_2 rfl rfl ?_
        refine V2_aload_n (i := 0) d_Rows_keep_3 rfl rfl ?_
        refine V2_getr (a := 40) d_Rows_keep_4 fl_Rows_26 (by decide) rfl (by decide) rfl ?_
        refine V2_alen (t := 0) (v := 4) d_Rows_keep_7 (by decide) rfl (by decide) rfl ?_
        refine V2_icmp_ge (tgt := 47) d_Rows_keep_8 rfl (fun _ => ?_) (fun c => (by first | exact absurd c (by decide) | exact absurd (by decide) c))
        refine V2_return d_Rows_keep_47 rfl ?_
        refine V2.to (st' := []) ?_ rfl rfl rfl rfl
        refine V2_aload_n (i := 0) d_Rows_fitsSoFar_39 rfl rfl ?_
        refine V2_dup d_Rows_fitsSoFar_40 rfl ?_
        refine V2_get (v := G 36 8) d_Rows_fitsSoFar_41 fl_Rows_46 (by decide) rfl (by decide) rfl rfl ?_
        refine V2_topi (fun v18 ev18 => ?_)
        refine V2_iconst (v := 1) d_Rows_fitsSoFar_44 rfl ?_
        refine V2_iadd d_Rows_fitsSoFar_45 ?_
        refine V2_topi (fun v19 ev19 => ?_)
        refine V2_put d_Rows_fitsSoFar_46 fl_Rows_46 (by decide) rfl (by decide) rfl ?_
        refine V2_iconst (v := 1) d_Rows_fitsSoFar_49 rfl ?_
        refine V2_zreturn d_Rows_fitsSoFar_50 rfl (by decide) ?_
        refine V2.to (st' := [.int (1 : Int32)]) ?_ rfl rfl rfl rfl
        refine V2_zreturn d_Rows_goesOn_38 rfl (by decide) ?_
        have heq : T 2 = f 1 := by
          have h9 := c5
          subst ev19 ev18 ev14 ev12 ev8 ev6 ev4 ev3 ev1
          rw [hx.2.2.2.2.2.1.2.2.1, hR.2.2.2 1 (by omega)] at h9
          obtain ⟨k9, hk9, ek9⟩ := in_of (x := T 2) (P := 100) hC2.1 (by omega) (by omega)
          rw [ek9] at h9
          exact ek9.trans ((eq_small (hnum 1 (by omega)) hk9).mp h9.symm).symm
        have hln : n = 1 + 1 := by
          have h9 := c7
          subst ev19 ev18 ev14 ev12 ev8 ev6 ev4 ev3 ev1
          rw [hx.2.2.1] at h9
          exact ((nI_eq (a := 2) (b := n) (by omega) (by omega)).mp h9).symm
        subst hln
        have hB2 : s.2 ≤ 1000 := by have := fit_lt (n := 1 + 1) (l := 1) (Nat.le_refl _) hx.2.2.2.2.1; have := p10 (n := 1 + 1) (by omega); omega
        have hcm : cmN f (PN S) (1 + 1) 0 pre S := by
          have h9 := hj 0 (Nat.pow_pos (by decide))
          rw [Nat.sub_self, Nat.pow_zero, Nat.mul_one, Nat.add_zero] at h9
          exact h9.mpr ⟨heq, trivial⟩
        have hz : s.2 = 0 := by
          have h9 := c9
          subst ev19 ev18 ev14 ev12 ev8 ev6 ev4 ev3 ev1
          rw [hR.1] at h9
          exact (nI_eq (b := 0) (by omega) (by omega)).mp h9
        subst ev19 ev18 ev14 ev12 ev8 ev6 ev4 ev3 ev1
        refine hQ _ 1 ⟨fun a h1 h2 => ?_, ?_, ?_⟩ (Or.inr ⟨Or.inr ⟨rfl, Or.inr rfl⟩, ?_⟩)
        · repeat (first | rw [xp_row_ne h1] | rw [xp_row_ne h2])
          try rfl
        · rfl
        · rfl
        · rw [Nat.sub_self, Nat.pow_zero, Nat.mul_one, blk_1, pF_t hcm]
          refine ⟨?_, fun _ => ?_, hR.2.2.1, hR.2.2.2⟩
          · show G 36 8 + 1 = nI (s.2 + 1)
            rw [hR.1, nI_1]
          · refine ⟨pre, if_pos hz, hx.2.2.2.2.1, fun i hi => ?_⟩
            rcases (show i = 0 ∨ i = 1 by omega) with h9 | h9
            · subst h9
              exact hx.2.2.2.1 0 (by omega)
            · subst h9
              exact hx.2.2.2.1 1 (by omega)
  · refine V2_iconst (v := 0) d_Rows_fitsSoFar_15 rfl ?_
    refine V2_zreturn d_Rows_fitsSoFar_16 rfl (by decide) ?_
    refine V2.to (st' := [.int (0 : Int32)]) ?_ rfl rfl rfl rfl
    refine V2_zreturn d_Rows_goesOn_38 rfl (by decide) ?_
    have hne : ¬ T 2 = f 1 := by
      intro hh
      apply c5
      subst ev4 ev3 ev1
      rw [hx.2.2.2.2.2.1.2.2.1, hR.2.2.2 1 (by omega)]
      obtain ⟨k9, hk9, ek9⟩ := in_of (x := T 2) (P := 100) hC2.1 (by omega) (by omega)
      rw [ek9]
      exact ((eq_small (hnum 1 (by omega)) hk9).mpr (hh.symm.trans ek9)).symm
    refine hQ G 0 (frV.refl G) (Or.inr ⟨Or.inl rfl, ?_⟩)
    rw [blk_id _ _ _ _ (fun i h1 h2 => ?_)]
    · exact hR
    · have h9 := hj (i - pre * 10 ^ (n - (1 + 1))) (by omega)
      rw [show pre * 10 ^ (n - (1 + 1)) + (i - pre * 10 ^ (n - (1 + 1))) = i by omega] at h9
      exact pF_f (fun hh => hne (h9.mp hh).1)
theorem c_visF_2 {L : Nat} {xs : Nat → Int32} {d : Nat} {Q : Option Value → xF → Prop} {F G : xF} {S T : Nat → Int32} {n pre : Nat} {s : Int32 × Nat} {f num : Nat → Int32} (hn : n ≤ 3) (hnum : ∀ i, i < n → ∃ bits, eqBits bits (num i) (f i)) (hl : 2 < n) (hx : ctxV F G S T 1 n (2 + 1) pre 45) (hj : fitJ f n S (2 + 1) pre T) (hb : s.2 ≤ pre * 10 ^ (n - (2 + 1))) (hR : fitsR n num G s) (hQ : ∀ (G2 : xF) (b : Int32), frV G G2 → ((b = 1 ∧ ¬ T 5 = 1 ∧ 2 + 1 < n ∧ fitK f n S (2 + 1) pre T ∧ fitsR n num G2 s) ∨ ((b = 0 ∨ b = 1 ∧ (T 5 = 1 ∨ 2 + 1 = n)) ∧ fitsR n num G2 (blk (procF f n S) (pre * 10 ^ (n - (2 + 1))) (10 ^ (n - (2 + 1))) s))) → Q (some (.int b)) G2) : V2 L xs (d + 4) m_Rows_goesOn 0 (xEntry [.ref 36, .int (2 : Int32), .ref 45] 3) [] G Q := by
  have hC2 := hx.2.2.2.2.2.2.2.1.2.2.1
  replace hnum : ∀ i, i < n → ∃ bits, eqBits bits (num i) (f i) := hnum
  obtain ⟨bits9, hnum⟩ : ∃ bt : Nat → Int32, ∀ i, i < n → eqBits (bt i) (num i) (f i) := ⟨fun i => if h : i < n then Classical.choose (hnum i h) else 0, fun i hi => by
    show eqBits (if h : i < n then Classical.choose (hnum i h) else 0) (num i) (f i)
    rw [dif_pos hi]
    exact Classical.choose_spec (hnum i hi)⟩
  refine V2.to (l' := [some (.ref 36), some (.int (2 : Int32)), some (.ref 45)]) ?_ rfl rfl rfl rfl
  refine V2_aload_n (i := 0) d_Rows_goesOn_0 rfl rfl ?_
  refine V2_get (v := G 36 4) d_Rows_goesOn_1 fl_Rows_33 (by decide) rfl (by decide) rfl rfl ?_
  refine V2_topi (fun v1 ev1 => ?_)
  have c2 : v1 = 1 := (by subst ev1; exact hx.2.1)
  refine V2_lookup (tgt := 32) d_Rows_goesOn_4 (by decide) (by rw [c2]; first | done | rfl | decide +kernel) rfl ?_
  refine V2_aload_n (i := 0) d_Rows_goesOn_32 rfl rfl ?_
  refine V2_iload_n (i := 1) d_Rows_goesOn_33 rfl rfl ?_
  refine V2_aload_n (i := 2) d_Rows_goesOn_34 rfl rfl ?_
  refine V2_callV [.int (2 : Int32), .ref 45] d_Rows_goesOn_35 rfl rfl lk_Rows_117 mo_Rows_fitsSoFar (by decide) rfl rfl rfl (Nat.le_of_ble_eq_true rfl) (Nat.le_of_ble_eq_true rfl) ?_
  refine V2.to (l' := [some (.ref 36), some (.int (2 : Int32)), some (.ref 45)]) ?_ rfl rfl rfl rfl
  refine V2_aload_n (i := 2) d_Rows_fitsSoFar_0 rfl rfl ?_
  refine V2_get (v := G 45 2) d_Rows_fitsSoFar_1 fl_Rows_126 (by decide) rfl (by decide) rfl rfl ?_
  refine V2_topi (fun v3 ev3 => ?_)
  refine V2_aload_n (i := 0) d_Rows_fitsSoFar_4 rfl rfl ?_
  refine V2_getr (a := 38) d_Rows_fitsSoFar_5 fl_Rows_22 (by decide) rfl (by decide) rfl ?_
  refine V2_iload_n (i := 1) d_Rows_fitsSoFar_8 rfl rfl ?_
  refine V2_callV [.int (2 : Int32)] d_Rows_fitsSoFar_9 rfl rfl lk_Rows_135 mo_Nums_at (by decide) rfl rfl rfl (Nat.le_of_ble_eq_true rfl) (Nat.le_of_ble_eq_true rfl) ?_
  refine c_Nums_at_38 (p := 2) (P := n) hR.2.2.1 hn (by omega) ?_
  refine V2_topi (fun v4 ev4 => ?_)
  refine V2_icmp_eq (tgt := 17) d_Rows_fitsSoFar_12 rfl (fun c5 => ?_) (fun c5 => ?_)
  · refine V2_iload_n (i := 1) d_Rows_fitsSoFar_17 rfl rfl ?_
    refine V2_iconst (v := 1) d_Rows_fitsSoFar_18 rfl ?_
    refine V2_iadd d_Rows_fitsSoFar_19 ?_
    refine V2_lit (v := 3) (by decide) ?_
    refine V2_aload_n (i := 0) d_Rows_fitsSoFar_20 rfl rfl ?_
    refine V2_get (v := G 36 5) d_Rows_fitsSoFar_21 fl_Rows_37 (by decide) rfl (by decide) rfl rfl ?_
    refine V2_topi (fun v6 ev6 => ?_)
    refine V2_icmp_ne (tgt := 49) d_Rows_fitsSoFar_24 rfl (fun c7 => ?_) (fun c7 => ?_)
    · refine V2_iconst (v := 1) d_Rows_fitsSoFar_49 rfl ?_
      refine V2_zreturn d_Rows_fitsSoFar_50 rfl (by decide) ?_
      refine V2.to (st' := [.int (1 : Int32)]) ?_ rfl rfl rfl rfl
      refine V2_zreturn d_Rows_goesOn_38 rfl (by decide) ?_
      have heq : T 2 = f 2 := by
        have h9 := c5
        subst ev6 ev4 ev3 ev1
        rw [hx.2.2.2.2.2.1.2.2.1, hR.2.2.2 2 (by omega)] at h9
        obtain ⟨k9, hk9, ek9⟩ := in_of (x := T 2) (P := 100) hC2.1 (by omega) (by omega)
        rw [ek9] at h9
        exact ek9.trans ((eq_small (hnum 2 (by omega)) hk9).mp h9.symm).symm
      have hln : ¬ 2 + 1 = n := by
        intro hh
        apply c7
        subst ev6 ev4 ev3 ev1
        rw [hx.2.2.1, ← hh]
        rfl
      refine hQ G 1 (frV.refl G) ?_
      by_cases h5 : T 5 = 1
      · refine Or.inr ⟨Or.inr ⟨rfl, Or.inl h5⟩, ?_⟩
        rw [blk_id _ _ _ _ (fun i h1 h2 => ?_)]
        · exact hR
        · have h9 := hj (i - pre * 10 ^ (n - (2 + 1))) (by omega)
          rw [show pre * 10 ^ (n - (2 + 1)) + (i - pre * 10 ^ (n - (2 + 1))) = i by omega, show n - (2 + 1) = (n - (2 + 1) - 1) + 1 by omega] at h9
          exact pF_f (fun hh => (h9.mp hh).2.1 h5)
      · exact Or.inl ⟨rfl, h5, by omega, fun q hq => (hj q hq).trans ⟨fun h => h.2, fun h => ⟨heq, h⟩⟩, hR⟩
    · refine V2_aload_n (i := 0) d_Rows_fitsSoFar_27 rfl rfl ?_
      refine V2_get (v := G 36 8) d_Rows_fitsSoFar_28 fl_Rows_46 (by decide) rfl (by decide) rfl rfl ?_
      refine V2_topi (fun v8 ev8 => ?_)
      refine V2_if_ne (tgt := 39) d_Rows_fitsSoFar_31 rfl (fun c9 => ?_) (fun c9 => ?_)
      · refine V2_aload_n (i := 0) d_Rows_fitsSoFar_39 rfl rfl ?_
        refine V2_dup d_Rows_fitsSoFar_40 rfl ?_
        refine V2_get (v := G 36 8) d_Rows_fitsSoFar_41 fl_Rows_46 (by decide) rfl (by decide) rfl rfl ?_
        refine V2_topi (fun v10 ev10 => ?_)
        refine V2_iconst (v := 1) d_Rows_fitsSoFar_44 rfl ?_
        refine V2_iadd d_Rows_fitsSoFar_45 ?_
        refine V2_topi (fun v11 ev11 => ?_)
        refine V2_put d_Rows_fitsSoFar_46 fl_Rows_46 (by decide) rfl (by decide) rfl ?_
        refine V2_iconst (v := 1) d_Rows_fitsSoFar_49 rfl ?_
        refine V2_zreturn d_Rows_fitsSoFar_50 rfl (by decide) ?_
        refine V2.to (st' := [.int (1 : Int32)]) ?_ rfl rfl rfl rfl
        refine V2_zreturn d_Rows_goesOn_38 rfl (by decide) ?_
        have heq : T 2 = f 2 := by
          have h9 := c5
          subst ev11 ev10 ev8 ev6 ev4 ev3 ev1
          rw [hx.2.2.2.2.2.1.2.2.1, hR.2.2.2 2 (by omega)] at h9
          obtain ⟨k9, hk9, ek9⟩ := in_of (x := T 2) (P := 100) hC2.1 (by omega) (by omega)
          rw [ek9] at h9
          exact ek9.trans ((eq_small (hnum 2 (by omega)) hk9).mp h9.symm).symm
        have hln : n = 2 + 1 := by
          have h9 := c7
          subst ev11 ev10 ev8 ev6 ev4 ev3 ev1
          rw [hx.2.2.1] at h9
          exact ((nI_eq (a := 3) (b := n) (by omega) (by omega)).mp h9).symm
        subst hln
        have hB2 : s.2 ≤ 1000 := by have := fit_lt (n := 2 + 1) (l := 2) (Nat.le_refl _) hx.2.2.2.2.1; have := p10 (n := 2 + 1) (by omega); omega
        have hcm : cmN f (PN S) (2 + 1) 0 pre S := by
          have h9 := hj 0 (Nat.pow_pos (by decide))
          rw [Nat.sub_self, Nat.pow_zero, Nat.mul_one, Nat.add_zero] at h9
          exact h9.mpr ⟨heq, trivial⟩
        have hz : ¬ s.2 = 0 := by
          intro hh
          apply c9
          subst ev11 ev10 ev8 ev6 ev4 ev3 ev1
          rw [hR.1, hh]
          rfl
        subst ev11 ev10 ev8 ev6 ev4 ev3 ev1
        refine hQ _ 1 ⟨fun a h1 h2 => ?_, ?_, ?_⟩ (Or.inr ⟨Or.inr ⟨rfl, Or.inr rfl⟩, ?_⟩)
        · repeat (first | rw [xp_row_ne h1] | rw [xp_row_ne h2])
          try rfl
        · rfl
        · rfl
        · rw [Nat.sub_self, Nat.pow_zero, Nat.mul_one, blk_1, pF_t hcm]
          refine ⟨?_, fun _ => ?_, hR.2.2.1, hR.2.2.2⟩
          · show G 36 8 + 1 = nI (s.2 + 1)
            rw [hR.1, nI_1]
          · obtain ⟨b, e, hb9, hd⟩ := hR.2.1 (by omega)
            exact ⟨b, (if_neg hz).trans e, hb9, hd⟩
      · refine V2_aload_n (i := 0) d_Rows_fitsSoFar_34 rfl rfl ?_
        refine V2_iload_n (i := 1) d_Rows_fitsSoFar_35 rfl rfl ?_
        refine V2_callV [.int (2 : Int32)] d_Rows_fitsSoFar_36 rfl rfl lk_Rows_132 mo_Rows_keep (by decide) rfl rfl rfl (Nat.le_of_ble_eq_true rfl) (Nat.le_of_ble_eq_true rfl) ?_
        refine V2.to (l' := [some (.ref 36), some (.int (2 : Int32)), none]) ?_ rfl rfl rfl rfl
        refine V2_iconst (v := 0) d_Rows_keep_0 rfl ?_
        refine V2_istore_n (i := 2) (l' := [some (.ref 36), some (.int (2 : Int32)), some (.int (0 : Int32))]) d_Rows_keep_1 rfl (xst_i (Nat.le_of_ble_eq_true rfl) rfl rfl) ?_
        refine V2_iload_n (i := 2) d_Rows_keep_2 rfl rfl ?_
        refine V2_aload_n (i := 0) d_Rows_keep_3 rfl rfl ?_
        refine V2_getr (a := 40) d_Rows_keep_4 fl_Rows_26 (by decide) rfl (by decide) rfl ?_
        refine V2_alen (t := 0) (v := 4) d_Rows_keep_7 (by decide) rfl (by decide) rfl ?_
        refine V2_icmp_ge (tgt := 47) d_Rows_keep_8 rfl (fun c => (by first | exact absurd c (by decide) | exact absurd (by decide) c)) (fun _ => ?_)
        refine V2_iload_n (i := 2) d_Rows_keep_11 rfl rfl ?_
        refine V2_aload_n (i := 0) d_Rows_keep_12 rfl rfl ?_
        refine V2_getr (a := 41) d_Rows_keep_13 fl_Rows_30 (by decide) rfl (by decide) rfl ?_
        refine V2_alen (t := 0) (v := 4) d_Rows_keep_16 (by decide) rfl (by decide) rfl ?_
        refine V2_icmp_ge (tgt := 47) d_Rows_keep_17 rfl (fun c => (by first | exact absurd c (by decide) | exact absurd (by decide) c)) (fun _ => ?_)
        refine V2_aload_n (i := 0) d_Rows_keep_20 rfl rfl ?_
        refine V2_getr (a := 41) d_Rows_keep_21 fl_Rows_30 (by decide) rfl (by decide) rfl ?_
        refine V2_iload_n (i := 2) d_Rows_keep_24 rfl rfl ?_
        refine V2_iload_n (i := 2) d_Rows_keep_25 rfl rfl ?_
        refine V2_iload_n (i := 1) d_Rows_keep_26 rfl rfl ?_
        refine V2_icmp_gt (tgt := 39) d_Rows_keep_27 rfl (fun c => (by first | exact absurd c (by decide) | exact absurd (by decide) c)) (fun _ => ?_)
        refine V2_aload_n (i := 0) d_Rows_keep_30 rfl rfl ?_
        refine V2_getr (a := 40) d_Rows_keep_31 fl_Rows_26 (by decide) rfl (by decide) rfl ?_
        refine V2_iload_n (i := 2) d_Rows_keep_34 rfl rfl ?_
        refine V2_iaload (v := G 40 0) d_Rows_keep_35 (by decide) rfl (xixA (n := 0) rfl (by decide) (by decide)) rfl ?_
        refine V2_topi (fun v12 ev12 => ?_)
        refine V2_goto (tgt := 40) d_Rows_keep_36 rfl ?_
        refine V2_iastore (j := 0) d_Rows_keep_40 (by decide) rfl (xixA (n := 0) rfl (by decide) (by decide)) rfl ?_
        refine V2_iinc (i := 2) (v := 1) (l' := [some (.ref 36), some (.int (2 : Int32)), some (.int (1 : Int32))]) d_Rows_keep_41 rfl (by decide) (xst_i (Nat.le_of_ble_eq_true rfl) rfl rfl) ?_
        refine V2_goto (tgt := 2) d_Rows_keep_44 rfl ?_
        refine V2_iload_n (i := 2) d_Rows_keep_2 rfl rfl ?_
        refine V2_aload_n (i := 0) d_Rows_keep_3 rfl rfl ?_
        refine V2_getr (a := 40) d_Rows_keep_4 fl_Rows_26 (by decide) rfl (by decide) rfl ?_
        refine V2_alen (t := 0) (v := 4) d_Rows_keep_7 (by decide) rfl (by decide) rfl ?_
        refine V2_icmp_ge (tgt := 47) d_Rows_keep_8 rfl (fun c => (by first | exact absurd c (by decide) | exact absurd (by decide) c)) (fun _ => ?_)
        refine V2_iload_n (i := 2) d_Rows_keep_11 rfl rfl ?_
        refine V2_aload_n (i := 0) d_Rows_keep_12 rfl rfl ?_
        refine V2_getr (a := 41) d_Rows_keep_13 fl_Rows_30 (by decide) rfl (by decide) rfl ?_
        refine V2_alen (t := 0) (v := 4) d_Rows_keep_16 (by decide) rfl (by decide) rfl ?_
        refine V2_icmp_ge (tgt := 47) d_Rows_keep_17 rfl (fun c => (by first | exact absurd c (by decide) | exact absurd (by decide) c)) (fun _ => ?_)
        refine V2_aload_n (i := 0) d_Rows_keep_20 rfl rfl ?_
        refine V2_getr (a := 41) d_Rows_keep_21 fl_Rows_30 (by decide) rfl (by decide) rfl ?_
        refine V2_iload_n (i := 2) d_Rows_keep_24 rfl rfl ?_
        refine V2_iload_n (i := 2) d_Rows_keep_25 rfl rfl ?_
        refine V2_iload_n (i := 1) d_Rows_keep_26 rfl rfl ?_
        refine V2_icmp_gt (tgt := 39) d_Rows_keep_27 rfl (fun c => (by first | exact absurd c (by decide) | exact absurd (by decide) c)) (fun _ => ?_)
        refine V2_aload_n (i := 0) d_Rows_keep_30 rfl rfl ?_
        refine V2_getr (a := 40) d_Rows_keep_31 fl_Rows_26 (by decide) rfl (by decide) rfl ?_
        refine V2_iload_n (i := 2) d_Rows_keep_34 rfl rfl ?_
        refine V2_iaload (v := G 40 1) d_Rows_keep_35 (by decide) rfl (xixA (n := 1) rfl (by decide) (by decide)) rfl ?_
        refine V2_topi (fun v14 ev14 => ?_)
        refine V2_goto (tgt := 40) d_Rows_keep_36 rfl ?_
        refine V2_iastore (j := 1) d_Rows_keep_40 (by decide) rfl (xixA (n := 1) rfl (by decide) (by decide)) rfl ?_
        refine V2_iinc (i := 2) (v := 2) (l' := [some (.ref 36), some (.int (2 : Int32)), some (.int (2 : Int32))]) d_Rows_keep_41 rfl (by decide) (xst_i (Nat.le_of_ble_eq_true rfl) rfl rfl) ?_
        refine V2_goto (tgt := 2) d_Rows_keep_44 rfl ?_
        refine V2_iload_n (i := 2) d_Rows_keep_2 rfl rfl ?_
        refine V2_aload_n (i := 0) d_Rows_keep_3 rfl rfl ?_
        refine V2_getr (a := 40) d_Rows_keep_4 fl_Rows_26 (by decide) rfl (by decide) rfl ?_
        refine V2_alen (t := 0) (v := 4) d_Rows_keep_7 (by decide) rfl (by decide) rfl ?_
        refine V2_icmp_ge (tgt := 47) d_Rows_keep_8 rfl (fun c => (by first | exact absurd c (by decide) | exact absurd (by decide) c)) (fun _ => ?_)
        refine V2_iload_n (i := 2) d_Rows_keep_11 rfl rfl ?_
        refine V2_aload_n (i := 0) d_Rows_keep_12 rfl rfl ?_
        refine V2_getr (a := 41) d_Rows_keep_13 fl_Rows_30 (by decide) rfl (by decide) rfl ?_
        refine V2_alen (t := 0) (v := 4) d_Rows_keep_16 (by decide) rfl (by decide) rfl ?_
        refine V2_icmp_ge (tgt := 47) d_Rows_keep_17 rfl (fun c => (by first | exact absurd c (by decide) | exact absurd (by decide) c)) (fun _ => ?_)
        refine V2_aload_n (i := 0) d_Rows_keep_20 rfl rfl ?_
        refine V2_getr (a := 41) d_Rows_keep_21 fl_Rows_30 (by decide) rfl (by decide) rfl ?_
        refine V2_iload_n (i := 2) d_Rows_keep_24 rfl rfl ?_
        refine V2_iload_n (i := 2) d_Rows_keep_25 rfl rfl ?_
        refine V2_iload_n (i := 1) d_Rows_keep_26 rfl rfl ?_
        refine V2_icmp_gt (tgt := 39) d_Rows_keep_27 rfl (fun c => (by first | exact absurd c (by decide) | exact absurd (by decide) c)) (fun _ => ?_)
        refine V2_aload_n (i := 0) d_Rows_keep_30 rfl rfl ?_
        refine V2_getr (a := 40) d_Rows_keep_31 fl_Rows_26 (by decide) rfl (by decide) rfl ?_
        refine V2_iload_n (i := 2) d_Rows_keep_34 rfl rfl ?_
        refine V2_iaload (v := G 40 2) d_Rows_keep_35 (by decide) rfl (xixA (n := 2) rfl (by decide) (by decide)) rfl ?_
        refine V2_topi (fun v16 ev16 => ?_)
        refine V2_goto (tgt := 40) d_Rows_keep_36 rfl ?_
        refine V2_iastore (j := 2) d_Rows_keep_40 (by decide) rfl (xixA (n := 2) rfl (by decide) (by decide)) rfl ?_
        refine V2_iinc (i := 2) (v := 3) (l' := [some (.ref 36), some (.int (2 : Int32)), some (.int (3 : Int32))]) d_Rows_keep_41 rfl (by decide) (xst_i (Nat.le_of_ble_eq_true rfl) rfl rfl) ?_
        refine V2_goto (tgt := 2) d_Rows_keep_44 rfl ?_
        refine V2_iload_n (i := 2) d_Rows_keep_2 rfl rfl ?_
        refine V2_aload_n (i := 0) d_Rows_keep_3 rfl rfl ?_
        refine V2_getr (a := 40) d_Rows_keep_4 fl_Rows_26 (by decide) rfl (by decide) rfl ?_
        refine V2_alen (t := 0) (v := 4) d_Rows_keep_7 (by decide) rfl (by decide) rfl ?_
        refine V2_icmp_ge (tgt := 47) d_Rows_keep_8 rfl (fun c => (by first | exact absurd c (by decide) | exact absurd (by decide) c)) (fun _ => ?_)
        refine V2_iload_n (i := 2) d_Rows_keep_11 rfl rfl ?_
        refine V2_aload_n (i := 0) d_Rows_keep_12 rfl rfl ?_
        refine V2_getr (a := 41) d_Rows_keep_13 fl_Rows_30 (by decide) rfl (by decide) rfl ?_
        refine V2_alen (t := 0) (v := 4) d_Rows_keep_16 (by decide) rfl (by decide) rfl ?_
        refine V2_icmp_ge (tgt := 47) d_Rows_keep_17 rfl (fun c => (by first | exact absurd c (by decide) | exact absurd (by decide) c)) (fun _ => ?_)
        refine V2_aload_n (i := 0) d_Rows_keep_20 rfl rfl ?_
        refine V2_getr (a := 41) d_Rows_keep_21 fl_Rows_30 (by decide) rfl (by decide) rfl ?_
        refine V2_iload_n (i := 2) d_Rows_keep_24 rfl rfl ?_
        refine V2_iload_n (i := 2) d_Rows_keep_25 rfl rfl ?_
        refine V2_iload_n (i := 1) d_Rows_keep_26 rfl rfl ?_
        refine V2_icmp_gt (tgt := 39) d_Rows_keep_27 rfl (fun _ => ?_) (fun c => (by first | exact absurd c (by decide) | exact absurd (by decide) c))
        refine V2_iconst (v := 0) d_Rows_keep_39 rfl ?_
        refine V2_iastore (j := 3) d_Rows_keep_40 (by decide) rfl (xixA (n := 3) rfl (by decide) (by decide)) rfl ?_
        refine V2_iinc (i := 2) (v := 4) (l' := [some (.ref 36), some (.int (2 : Int32)), some (.int (4 : Int32))]) d_Rows_keep_41 rfl (by decide) (xst_i (Nat.le_of_ble_eq_true rfl) rfl rfl) ?_
        refine V2_goto (tgt := 2) d_Rows_keep_44 rfl ?_
        refine V2_iload_n (i := 2) d_Rows_keep_2 rfl rfl ?_
        refine V2_aload_n (i := 0) d_Rows_keep_3 rfl rfl ?_
        refine V2_getr (a := 40) d_Rows_keep_4 fl_Rows_26 (by decide) rfl (by decide) rfl ?_
        refine V2_alen (t := 0) (v := 4) d_Rows_keep_7 (by decide) rfl (by decide) rfl ?_
        refine V2_icmp_ge (tgt := 47) d_Rows_keep_8 rfl (fun _ => ?_) (fun c => (by first | exact absurd c (by decide) | exact absurd (by decide) c))
        refine V2_return d_Rows_keep_47 rfl ?_
        refine V2.to (st' := []) ?_ rfl rfl rfl rfl
        refine V2_aload_n (i := 0) d_Rows_fitsSoFar_39 rfl rfl ?_
        refine V2_dup d_Rows_fitsSoFar_40 rfl ?_
        refine V2_get (v := G 36 8) d_Rows_fitsSoFar_41 fl_Rows_46 (by decide) rfl (by decide) rfl rfl ?_
        refine V2_topi (fun v19 ev19 => ?_)
        refine V2_iconst (v := 1) d_Rows_fitsSoFar_44 rfl ?_
        refine V2_iadd d_Rows_fitsSoFar_45 ?_
        refine V2_topi (fun v20 ev20 => ?_)
        refine V2_put d_Rows_fitsSoFar_46 fl_Rows_46 (by decide) rfl (by decide) rfl ?_
        refine V2_iconst (v := 1) d_Rows_fitsSoFar_49 rfl ?_
        refine V2_zreturn d_Rows_fitsSoFar_50 rfl (by decide) ?_
        refine V2.to (st' := [.int (1 : Int32)]) ?_ rfl rfl rfl rfl
        refine V2_zreturn d_Rows_goesOn_38 rfl (by decide) ?_
        have heq : T 2 = f 2 := by
          have h9 := c5
          subst ev20 ev19 ev16 ev14 ev12 ev8 ev6 ev4 ev3 ev1
          rw [hx.2.2.2.2.2.1.2.2.1, hR.2.2.2 2 (by omega)] at h9
          obtain ⟨k9, hk9, ek9⟩ := in_of (x := T 2) (P := 100) hC2.1 (by omega) (by omega)
          rw [ek9] at h9
          exact ek9.trans ((eq_small (hnum 2 (by omega)) hk9).mp h9.symm).symm
        have hln : n = 2 + 1 := by
          have h9 := c7
          subst ev20 ev19 ev16 ev14 ev12 ev8 ev6 ev4 ev3 ev1
          rw [hx.2.2.1] at h9
          exact ((nI_eq (a := 3) (b := n) (by omega) (by omega)).mp h9).symm
        subst hln
        have hB2 : s.2 ≤ 1000 := by have := fit_lt (n := 2 + 1) (l := 2) (Nat.le_refl _) hx.2.2.2.2.1; have := p10 (n := 2 + 1) (by omega); omega
        have hcm : cmN f (PN S) (2 + 1) 0 pre S := by
          have h9 := hj 0 (Nat.pow_pos (by decide))
          rw [Nat.sub_self, Nat.pow_zero, Nat.mul_one, Nat.add_zero] at h9
          exact h9.mpr ⟨heq, trivial⟩
        have hz : s.2 = 0 := by
          have h9 := c9
          subst ev20 ev19 ev16 ev14 ev12 ev8 ev6 ev4 ev3 ev1
          rw [hR.1] at h9
          exact (nI_eq (b := 0) (by omega) (by omega)).mp h9
        subst ev20 ev19 ev16 ev14 ev12 ev8 ev6 ev4 ev3 ev1
        refine hQ _ 1 ⟨fun a h1 h2 => ?_, ?_, ?_⟩ (Or.inr ⟨Or.inr ⟨rfl, Or.inr rfl⟩, ?_⟩)
        · repeat (first | rw [xp_row_ne h1] | rw [xp_row_ne h2])
          try rfl
        · rfl
        · rfl
        · rw [Nat.sub_self, Nat.pow_zero, Nat.mul_one, blk_1, pF_t hcm]
          refine ⟨?_, fun _ => ?_, hR.2.2.1, hR.2.2.2⟩
          · show G 36 8 + 1 = nI (s.2 + 1)
            rw [hR.1, nI_1]
          · refine ⟨pre, if_pos hz, hx.2.2.2.2.1, fun i hi => ?_⟩
            rcases (show i = 0 ∨ i = 1 ∨ i = 2 by omega) with h9 | h9 | h9
            · subst h9
              exact hx.2.2.2.1 0 (by omega)
            · subst h9
              exact hx.2.2.2.1 1 (by omega)
            · subst h9
              exact hx.2.2.2.1 2 (by omega)
  · refine V2_iconst (v := 0) d_Rows_fitsSoFar_15 rfl ?_
    refine V2_zreturn d_Rows_fitsSoFar_16 rfl (by decide) ?_
    refine V2.to (st' := [.int (0 : Int32)]) ?_ rfl rfl rfl rfl
    refine V2_zreturn d_Rows_goesOn_38 rfl (by decide) ?_
    have hne : ¬ T 2 = f 2 := by
      intro hh
      apply c5
      subst ev4 ev3 ev1
      rw [hx.2.2.2.2.2.1.2.2.1, hR.2.2.2 2 (by omega)]
      obtain ⟨k9, hk9, ek9⟩ := in_of (x := T 2) (P := 100) hC2.1 (by omega) (by omega)
      rw [ek9]
      exact ((eq_small (hnum 2 (by omega)) hk9).mpr (hh.symm.trans ek9)).symm
    refine hQ G 0 (frV.refl G) (Or.inr ⟨Or.inl rfl, ?_⟩)
    rw [blk_id _ _ _ _ (fun i h1 h2 => ?_)]
    · exact hR
    · have h9 := hj (i - pre * 10 ^ (n - (2 + 1))) (by omega)
      rw [show pre * 10 ^ (n - (2 + 1)) + (i - pre * 10 ^ (n - (2 + 1))) = i by omega] at h9
      exact pF_f (fun hh => hne (h9.mp hh).1)
theorem vis_fits {L : Nat} {xs : Nat → Int32} {F : xF} {S : Nat → Int32} {n : Nat} {f num : Nat → Int32} (hn : n ≤ 3) (hnum : ∀ i, i < n → ∃ bits, eqBits bits (num i) (f i)) : visV L xs F S 1 n (procF f n S) (fitsR n num) (fitJ f n S) (fitK f n S) (fun a s => s.2 ≤ a) := by
  intro d Q G T pre l s hl hx hj hB hR hQ
  rcases (show l = 0 ∨ l = 1 ∨ l = 2 by omega) with h | h | h <;> subst h
  · exact c_visF_0 hn hnum hl hx hj hB hR hQ
  · exact c_visF_1 hn hnum hl hx hj hB hR hQ
  · exact c_visF_2 hn hnum hl hx hj hB hR hQ
theorem c_Rows_seek_loop {L : Nat} {xs : Nat → Int32} {d : Nat} {Q : Option Value → xF → Prop} {F : xF} {t N : Nat} (ht : t < 4) (hN : N ≤ 3) (e2 : F (57 + 2 * t) 2 = nI N) (hK : ∀ G : xF, (∀ a, ¬ a = 38 → ¬ a = 39 → G a = F a) → G 38 1 = nI N → (∀ i, i < N → G 39 i = F (58 + 2 * t) i) → V2 L xs (d + 24) m_Rows_seekFits 35 [some (.ref 36), some (.ref 1), some (.ref (57 + 2 * t)), none] [] G Q) : ∀ (n_ : Nat) (k : Nat) (G : xF), k ≤ N → N < n_ + k → (∀ a, ¬ a = 38 → ¬ a = 39 → G a = F a) → G 38 1 = nI k → (∀ i, i < k → G 39 i = F (58 + 2 * t) i) → V2 L xs (d + 24) m_Rows_seekFits 9 [some (.ref 36), some (.ref 1), some (.ref (57 + 2 * t)), some (.int (nI k))] [] G Q := by
  intro n_
  induction n_ with
  | zero => exact fun k G h1 h2 => absurd h2 (by omega)
  | succ n_ ih =>
    intro k G h1 h2 g1 g2 g3
    have s2 : G (57 + 2 * t) 2 = nI N := (congrFun (g1 _ (by omega) (by omega)) 2).trans e2
    refine V2_iload_n (i := 3) d_Rows_seekFits_9 rfl rfl ?_
    refine V2_aload_n (i := 2) d_Rows_seekFits_10 rfl rfl ?_
    refine V2_callV [] d_Rows_seekFits_11 rfl rfl lk_Rows_57 mo_Sheet_size (by omega) (sh_k1 ht) rfl rfl (Nat.le_of_ble_eq_true rfl) (Nat.le_of_ble_eq_true rfl) ?_
    refine V2.to (l' := [some (.ref (57 + 2 * t))]) ?_ rfl rfl rfl rfl
    refine V2_aload_n (i := 0) d_Sheet_size_0 rfl rfl ?_
    refine V2_get d_Sheet_size_1 fl_Sheet_17 (by omega) (sh_k ht) (by decide) (sh_n ht (by decide)) rfl ?_
    refine V2_topi (fun v1 ev1 => ?_)
    refine V2_ireturn d_Sheet_size_4 rfl ?_
    refine V2.to (st' := [.int v1, .int (nI k)]) ?_ rfl rfl rfl rfl
    refine V2_icmp_ge (tgt := 35) d_Rows_seekFits_14 rfl (fun c2 => ?_) (fun c2 => ?_)
    · have hk : k = N := by
        have h9 := c2
        subst ev1
        rw [s2] at h9
        have := (nI_leI (by omega) (by omega)).mp h9
        omega
      subst hk
      refine V2.weak (l' := [some (.ref 36), some (.ref 1), some (.ref (57 + 2 * t)), none]) ?_ ⟨rfl, rfl, rfl, trivial⟩
      exact hK G g1 g2 g3
    · have hk : k < N := by
        have h9 := c2
        subst ev1
        rw [s2] at h9
        exact Nat.not_le.mp (fun hh => h9 ((nI_leI (by omega) (by omega)).mpr hh))
      refine V2_aload_n (i := 0) d_Rows_seekFits_17 rfl rfl ?_
      refine V2_getr (a := 38) d_Rows_seekFits_18 fl_Rows_22 (by decide) rfl (by decide) rfl ?_
      refine V2_aload_n (i := 2) d_Rows_seekFits_21 rfl rfl ?_
      refine V2_iload_n (i := 3) d_Rows_seekFits_22 rfl rfl ?_
      refine V2_callV [.int (nI k)] d_Rows_seekFits_23 rfl rfl lk_Rows_63 mo_Sheet_at (by omega) (sh_k1 ht) rfl rfl (Nat.le_of_ble_eq_true rfl) (Nat.le_of_ble_eq_true rfl) ?_
      refine V2.to (l' := [some (.ref (57 + 2 * t)), some (.int (nI k))]) ?_ rfl rfl rfl rfl
      refine V2_iload_n (i := 1) d_Sheet_at_0 rfl rfl ?_
      refine V2_if_lt (tgt := 30) d_Sheet_at_1 rfl (fun c3 => (by first | exact absurd c3 (show ¬ nI k < 0 from nI_pos (by omega)) | exact absurd (show ¬ nI k < 0 from nI_pos (by omega)) c3)) (fun c3 => ?_)
      refine V2_iload_n (i := 1) d_Sheet_at_4 rfl rfl ?_
      refine V2_aload_n (i := 0) d_Sheet_at_5 rfl rfl ?_
      refine V2_get d_Sheet_at_6 fl_Sheet_17 (by omega) (sh_k ht) (by decide) (sh_n ht (by decide)) rfl ?_
      refine V2_topi (fun v4 ev4 => ?_)
      refine V2_icmp_ge (tgt := 30) d_Sheet_at_9 rfl (fun c5 => (by first | exact absurd c5 (show ¬ v4 ≤ nI k from by subst ev4 ev1; rw [s2]; exact nI_ge (by omega) (by omega)) | exact absurd (show ¬ v4 ≤ nI k from by subst ev4 ev1; rw [s2]; exact nI_ge (by omega) (by omega)) c5)) (fun c5 => ?_)
      refine V2_iload_n (i := 1) d_Sheet_at_12 rfl rfl ?_
      refine V2_aload_n (i := 0) d_Sheet_at_13 rfl rfl ?_
      refine V2_getr (a := (58 + 2 * t)) d_Sheet_at_14 fl_Sheet_9 (by omega) (sh_k ht) (by decide) (sh_r ht) ?_
      refine V2_alen (t := 0) (v := 24) d_Sheet_at_17 (by omega) (sh_a ht) (by decide) rfl ?_
      refine V2_icmp_ge (tgt := 30) d_Sheet_at_18 rfl (fun c6 => (by first | exact absurd c6 (show ¬ (24 : Int32) ≤ nI k from nI_ge (a := k) (b := 24) (by omega) (by decide)) | exact absurd (show ¬ (24 : Int32) ≤ nI k from nI_ge (a := k) (b := 24) (by omega) (by decide)) c6)) (fun c6 => ?_)
      refine V2_aload_n (i := 0) d_Sheet_at_21 rfl rfl ?_
      refine V2_getr (a := (58 + 2 * t)) d_Sheet_at_22 fl_Sheet_9 (by omega) (sh_k ht) (by decide) (sh_r ht) ?_
      refine V2_iload_n (i := 1) d_Sheet_at_25 rfl rfl ?_
      refine V2_ialoadJ (k) d_Sheet_at_26 (by omega) (sh_a ht) (xixA (n := k) rfl (by omega) (by decide)) (xixB (n := k) rfl (by omega)) rfl ?_
      refine V2_topi (fun v7 ev7 => ?_)
      refine V2_goto (tgt := 31) d_Sheet_at_27 rfl ?_
      refine V2_ireturn d_Sheet_at_31 rfl ?_
      refine V2.to (st' := [.int v7, .ref 38]) ?_ rfl rfl rfl rfl
      refine V2_callV [.int v7] d_Rows_seekFits_26 rfl rfl lk_Rows_67 mo_Nums_add (by decide) rfl rfl rfl (Nat.le_of_ble_eq_true rfl) (Nat.le_of_ble_eq_true rfl) ?_
      refine c_Nums_add_38 (P := k) g2 (by omega) ?_
      obtain ⟨v8, ev8⟩ : ∃ y : Int32, y = nI k + 1 := ⟨_, rfl⟩
      refine V2_iinc (i := 3) (v := v8) (l' := [some (.ref 36), some (.ref 1), some (.ref (57 + 2 * t)), some (.int v8)]) d_Rows_seekFits_29 rfl (by rw [ev8]; rfl) (xst_r (Nat.le_of_ble_eq_true rfl) rfl rfl) ?_
      refine V2_goto (tgt := 9) d_Rows_seekFits_32 rfl ?_
      rw [ev8, nI_1]
      refine V2.to (ih (k + 1) _ (by omega) (by omega) (fun a b c => (xp_row_ne b).trans ((xp_row_ne c).trans (g1 a b c))) (xp_same _ _ _ _) (fun i hi => ?_)) rfl rfl rfl rfl
      rw [xp_ne (Or.inl (by decide))]
      by_cases hc : i = k
      · subst hc
        rw [xp_same]
        subst ev8 ev7 ev4 ev1
        exact congrFun (g1 _ (by omega) (by omega)) i
      · rw [xp_ne (Or.inr hc)]
        exact g3 i (by omega)
theorem c_Rows_seekEnd {L : Nat} {xs : Nat → Int32} {d : Nat} {Q : Option Value → xF → Prop} {F G : xF} {t N : Nat} (hR : Rel F) (ht : t < 4) (h1 : 1 ≤ N) (h3 : N ≤ 3) (eN : F 75 t = nI N) (g1 : ∀ a, ¬ a = 38 → ¬ a = 39 → G a = F a) (g2 : G 38 1 = nI N) (g3 : ∀ i, i < N → G 39 i = F (58 + 2 * t) i) (hQ : ∀ G : xF, scrC F G → fitsR N (fun i => F (58 + 2 * t) i) G (fitS F t N) → Q (some (.int (nI (fitS F t N).2))) G) : V2 L xs (d + 26) m_Rows_seekFits 35 ([some (.ref 36), some (.ref 1), some (.ref (57 + 2 * t)), none]) [] G Q := by
  have cz7 : F 2 7 = F 66 5 := hR.1.1.1.2.2.2.2.2.2.2
  have s5 : F 66 5 = 0 ∨ F 66 5 = 1 := hR.2.1.1.2.2.2.2.2.1
  have e2 : G (57 + 2 * t) 2 = nI N := (congrFun (g1 _ (by omega) (by omega)) 2).trans ((hR.1.2.2.2.2.2.2 t ht).2.1.trans eN)
  have hscG : scrC F G := fun a b c e => g1 a (by omega) (by omega)
  refine V2_aload_n (i := 0) d_Rows_seekFits_35 rfl rfl ?_
  refine V2_aload_n (i := 1) d_Rows_seekFits_36 rfl rfl ?_
  refine V2_iconst (v := 1) d_Rows_seekFits_37 rfl ?_
  refine V2_aload_n (i := 2) d_Rows_seekFits_38 rfl rfl ?_
  refine V2_callV [] d_Rows_seekFits_39 rfl rfl lk_Rows_57 mo_Sheet_size (by omega) (sh_k1 ht) rfl rfl (Nat.le_of_ble_eq_true rfl) (Nat.le_of_ble_eq_true rfl) ?_
  refine V2.to (l' := [some (.ref (57 + 2 * t))]) ?_ rfl rfl rfl rfl
  refine V2_aload_n (i := 0) d_Sheet_size_0 rfl rfl ?_
  refine V2_get d_Sheet_size_1 fl_Sheet_17 (by omega) (sh_k ht) (by decide) (sh_n ht (by decide)) rfl ?_
  refine V2_topi (fun v1 ev1 => ?_)
  refine V2_ireturn d_Sheet_size_4 rfl ?_
  refine V2.to (st' := [.int v1, .int (1 : Int32), .ref 1, .ref 36]) ?_ rfl rfl rfl rfl
  refine V2_callV [.ref 1, .int (1 : Int32), .int v1] d_Rows_seekFits_42 rfl rfl lk_Rows_50 mo_Rows_tryAll (by decide) rfl rfl rfl (Nat.le_of_ble_eq_true rfl) (Nat.le_of_ble_eq_true rfl) ?_
  refine V2.to (l' := [some (.ref 36), some (.ref 1), some (.int (1 : Int32)), some (.int v1), none]) ?_ rfl rfl rfl rfl
  refine V2_aload_n (i := 0) d_Rows_tryAll_0 rfl rfl ?_
  refine V2_iload_n (i := 2) d_Rows_tryAll_1 rfl rfl ?_
  refine V2_put d_Rows_tryAll_2 fl_Rows_33 (by decide) rfl (by decide) rfl ?_
  refine V2_aload_n (i := 0) d_Rows_tryAll_5 rfl rfl ?_
  refine V2_iload_n (i := 3) d_Rows_tryAll_6 rfl rfl ?_
  refine V2_put d_Rows_tryAll_7 fl_Rows_37 (by decide) rfl (by decide) rfl ?_
  refine V2_aload_n (i := 0) d_Rows_tryAll_10 rfl rfl ?_
  refine V2_iconst (v := 0) d_Rows_tryAll_11 rfl ?_
  refine V2_put d_Rows_tryAll_12 fl_Rows_46 (by decide) rfl (by decide) rfl ?_
  refine V2_aload_n (i := 0) d_Rows_tryAll_15 rfl rfl ?_
  refine V2_iconst (v := 0) d_Rows_tryAll_16 rfl ?_
  refine V2_callV [.int (0 : Int32)] d_Rows_tryAll_17 rfl rfl lk_Rows_70 mo_Rows_carAt (by decide) rfl rfl rfl (Nat.le_of_ble_eq_true rfl) (Nat.le_of_ble_eq_true rfl) ?_
  refine V2.to (l' := [some (.ref 36), some (.int (0 : Int32))]) ?_ rfl rfl rfl rfl
  refine V2_iload_n (i := 1) d_Rows_carAt_0 rfl rfl ?_
  refine V2_if_lt (tgt := 22) d_Rows_carAt_1 rfl (fun c => (by first | exact absurd c (by decide) | exact absurd (by decide) c)) (fun _ => ?_)
  refine V2_iload_n (i := 1) d_Rows_carAt_4 rfl rfl ?_
  refine V2_aload_n (i := 0) d_Rows_carAt_5 rfl rfl ?_
  refine V2_getr (a := 37) d_Rows_carAt_6 fl_Rows_13 (by decide) rfl (by decide) rfl ?_
  refine V2_alen (t := 2) (v := 5) d_Rows_carAt_9 (by decide) rfl (by decide) rfl ?_
  refine V2_icmp_ge (tgt := 22) d_Rows_carAt_10 rfl (fun c => (by first | exact absurd c (by decide) | exact absurd (by decide) c)) (fun _ => ?_)
  refine V2_aload_n (i := 0) d_Rows_carAt_13 rfl rfl ?_
  refine V2_getr (a := 37) d_Rows_carAt_14 fl_Rows_13 (by decide) rfl (by decide) rfl ?_
  refine V2_iload_n (i := 1) d_Rows_carAt_17 rfl rfl ?_
  refine V2_aaload (t := 1) (a := 42) d_Rows_carAt_18 (by decide) rfl (by decide) (xixA (n := 0) rfl (by decide) (by decide)) rfl ?_
  refine V2_goto (tgt := 23) d_Rows_carAt_19 rfl ?_
  refine V2_areturn d_Rows_carAt_23 rfl (Or.inl ⟨_, rfl⟩) ?_
  refine V2.to (st' := [.ref 42]) ?_ rfl rfl rfl rfl
  refine V2_astore (i := 4) (l' := [some (.ref 36), some (.ref 1), some (.int (1 : Int32)), some (.int v1), some (.ref 42)]) d_Rows_tryAll_20 (xst_i (Nat.le_of_ble_eq_true rfl) rfl rfl) ?_
  refine V2_aload (i := 4) d_Rows_tryAll_22 rfl ?_
  refine V2_ifnull d_Rows_tryAll_24 ?_
  refine V2_aload_n (i := 1) d_Rows_tryAll_27 rfl rfl ?_
  refine V2_getr (a := 2) d_Rows_tryAll_28 fl_Rows_74 (by decide) rfl (by decide) rfl ?_
  refine V2_get (v := G 2 7) d_Rows_tryAll_31 fl_Rows_80 (by decide) rfl (by decide) rfl rfl ?_
  refine V2_topi (fun v2 ev2 => ?_)
  refine V2_if_ne (tgt := 52) d_Rows_tryAll_34 rfl (fun c3 => ?_) (fun c3 => ?_)
  · refine V2_return d_Rows_tryAll_52 rfl ?_
    refine V2.to (st' := []) ?_ rfl rfl rfl rfl
    refine V2_aload_n (i := 0) d_Rows_seekFits_45 rfl rfl ?_
    refine V2_get (v := (0 : Int32)) d_Rows_seekFits_46 fl_Rows_46 (by decide) rfl (by decide) rfl rfl ?_
    refine V2_ireturn d_Rows_seekFits_49 rfl ?_
    have h5 : F 66 5 = 1 := by
      have h9 := c3
      subst ev2 ev1
      have h7 : ¬ G 2 7 = 0 := h9
      rw [g1 2 (by decide) (by decide), cz7] at h7
      exact s5.resolve_left h7
    have hfz : fitS F t N = (-1, 0) := blk_id _ _ _ _ (fun i _ _ => pF_f (fun hh => by
      rw [show N = (N - 1) + 1 by omega] at hh
      exact hh.1 h5))
    rw [hfz] at hQ
    subst ev2 ev1
    refine xQi (hQ _ (fun a b c e => (xp_row_ne (by omega)).trans ((xp_row_ne (by omega)).trans ((xp_row_ne (by omega)).trans (hscG a b c e)))) ⟨?_, fun h => absurd h (Nat.lt_irrefl 0), ?_, ?_⟩) rfl rfl
    · rfl
    · exact g2
    · exact g3
  · refine V2_aload (i := 4) d_Rows_tryAll_37 rfl ?_
    refine V2_aload_n (i := 1) d_Rows_tryAll_39 rfl rfl ?_
    refine V2_getr (a := 2) d_Rows_tryAll_40 fl_Rows_74 (by decide) rfl (by decide) rfl ?_
    refine V2_callV [.ref 2] d_Rows_tryAll_43 rfl rfl lk_Rows_84 mo_Car_copyFrom (by decide) rfl rfl rfl (Nat.le_of_ble_eq_true rfl) (Nat.le_of_ble_eq_true rfl) ?_
    refine c_Car_copy_42_2 (show G 2 7 = 0 ∨ G 2 7 = 1 by rw [g1 2 (by decide) (by decide), cz7]; exact s5) (fun H2 p0 g0 => ?_)
    refine V2_aload_n (i := 0) d_Rows_tryAll_46 rfl rfl ?_
    refine V2_aload_n (i := 1) d_Rows_tryAll_47 rfl rfl ?_
    refine V2_iconst (v := 0) d_Rows_tryAll_48 rfl ?_
    refine V2_callV [.ref 1, .int (0 : Int32)] d_Rows_tryAll_49 rfl rfl lk_Rows_88 mo_Rows_tryFrom (by decide) rfl rfl rfl (Nat.le_of_ble_eq_true rfl) (Nat.le_of_ble_eq_true rfl) ?_
    have hscr : scrC F H2 := fun a b c e => (g0 a (by omega)).trans ((xp_row_ne (by omega)).trans ((xp_row_ne (by omega)).trans ((xp_row_ne (by omega)).trans (hscG a b c e))))
    have h36 : ∀ j, H2 36 j = _ := fun j => congrFun (g0 36 (by decide)) j
    have h5 : ¬ F 66 5 = 1 := by
      intro hh
      have h9 := c3
      subst ev2 ev1
      apply absurd h9
      intro h8
      have h7 : G 2 7 = 0 := h8
      rw [g1 2 (by decide) (by decide), cz7, hh] at h7
      exact absurd h7 (by decide)
    have hcx : ctxV F H2 (F 66) (F 66) 1 N 0 0 42 := ⟨hscr, (h36 4).trans rfl, (h36 5).trans (by subst ev2 ev1; exact e2), fun i hi => absurd hi (Nat.not_lt_zero i), by decide, relCr_row hR.1.1.1 (fun j hj => (p0 j hj).trans (congrFun (g1 2 (by decide) (by decide)) j)), like.refl _, hR.2.1.1, fun q _ => by rw [Nat.zero_mul, Nat.zero_add]; exact Prod.ext (by cases (trN (PN (F 66)) (N - 0) q (F 66)).1 <;> rfl) rfl⟩
    refine c_tryFrom_0 (f := procF (fun k => F 76 (24 * t + k)) N (F 66)) (R := fitsR N (fun i => F (58 + 2 * t) i)) (J := fitJ (fun k => F 76 (24 * t + k)) N (F 66)) (K := fitK (fun k => F 76 (24 * t + k)) N (F 66)) (B := fun a s => s.2 ≤ a) hR.1.1 hR.2.1 (by omega) (by omega) (vis_fits h3 (fun i hi => ⟨_, (hR.1.2.2.2.2.2.2 t ht).2.2 i (by rw [eN, nI_clamp (by omega)]; exact hi)⟩)) (fun a s h => pF_B a s h) fitsR_st (fun l pre g T a b c e => fit_J l pre g T a b c e) hcx h5 (fun q _ => by rw [Nat.zero_mul, Nat.zero_add]; exact Iff.rfl) (by rw [Nat.zero_mul]; exact Nat.le_refl 0) (s0 := (-1, 0)) ⟨(h36 8).trans rfl, fun h => absurd h (Nat.lt_irrefl 0), (congrFun (g0 38 (by decide)) 1).trans g2, fun i hi => (congrFun (g0 39 (by decide)) i).trans (g3 i hi)⟩ (fun G2 h2 _ _ _ _ h8 => ?_)
    rw [Nat.zero_mul, Nat.sub_zero] at h8
    refine V2_return d_Rows_tryAll_52 rfl ?_
    refine V2.to (st' := []) ?_ rfl rfl rfl rfl
    refine V2_aload_n (i := 0) d_Rows_seekFits_45 rfl rfl ?_
    refine V2_get (v := G2 36 8) d_Rows_seekFits_46 fl_Rows_46 (by decide) rfl (by decide) rfl rfl ?_
    refine V2_topi (fun v4 ev4 => ?_)
    refine V2_ireturn d_Rows_seekFits_49 rfl ?_
    subst ev4 ev2 ev1
    exact xQi (hQ G2 h2 h8) h8.1 rfl
theorem c_Rows_seekFits {L : Nat} {xs : Nat → Int32} {d : Nat} {Q : Option Value → xF → Prop} {F : xF} {t N : Nat} (hR : Rel F) (ht : t < 4) (h1 : 1 ≤ N) (h3 : N ≤ 3) (eN : F 75 t = nI N) (hQ : ∀ G : xF, scrC F G → fitsR N (fun i => F (58 + 2 * t) i) G (fitS F t N) → Q (some (.int (nI (fitS F t N).2))) G) : V2 L xs (d + 26) m_Rows_seekFits 0 (xEntry [.ref 36, .ref 1, .ref (57 + 2 * t)] 4) [] F Q := by
  refine V2.to (l' := [some (.ref 36), some (.ref 1), some (.ref (57 + 2 * t)), none]) ?_ rfl rfl rfl rfl
  refine V2_aload_n (i := 0) d_Rows_seekFits_0 rfl rfl ?_
  refine V2_getr (a := 38) d_Rows_seekFits_1 fl_Rows_22 (by decide) rfl (by decide) rfl ?_
  refine V2_callV [] d_Rows_seekFits_4 rfl rfl lk_Rows_54 mo_Nums_empty (by decide) rfl rfl rfl (Nat.le_of_ble_eq_true rfl) (Nat.le_of_ble_eq_true rfl) ?_
  refine c_Nums_empty_38 ?_
  refine V2_iconst (v := 0) d_Rows_seekFits_7 rfl ?_
  refine V2_istore_n (i := 3) (l' := [some (.ref 36), some (.ref 1), some (.ref (57 + 2 * t)), some (.int (0 : Int32))]) d_Rows_seekFits_8 rfl (xst_r (Nat.le_of_ble_eq_true rfl) rfl rfl) ?_
  obtain ⟨hb9, Nx, _, _⟩ := hR.2.2.2.2.2 t ht
  have e2 : F (57 + 2 * t) 2 = nI N := (hR.1.2.2.2.2.2.2 t ht).2.1.trans eN
  refine V2.to (c_Rows_seek_loop (F := xp F 38 1 0) ht h3 ((congrFun (xp_row_ne (by omega)) 2).trans e2) (fun G g1 g2 g3 => ?_) (N + 1) 0 (xp F 38 1 0) (by omega) (by omega) (fun a _ _ => rfl) (xp_same _ _ _ _) (fun i hi => absurd hi (Nat.not_lt_zero i))) rfl rfl rfl rfl
  exact c_Rows_seekEnd hR ht h1 h3 eN (fun a b c => (g1 a b c).trans (xp_row_ne b)) g2 (fun i hi => (g3 i hi).trans (congrFun (xp_row_ne (by omega)) i)) hQ
set_option maxHeartbeats 4000000 in
theorem c_cls_fits {L : Nat} {xs : Nat → Int32} {d : Nat} {Q : Option Value → xF → Prop} {F : xF} {sh w : Int32} (hR : Rel F) (hQ : ∀ F1, Mid F F1 (k_fits F sh w).2 → Q (some (.int (k_fits F sh w).1)) F1) : V2 L xs (d + 30) m_P_fits 0 (xEntry [.ref 0, .int sh, .int w] 5) [] F Q := by
  have q0 : (0 : Int32).toInt = 0 := by decide
  have q1 : (1 : Int32).toInt = 1 := by decide
  have q2 : (2 : Int32).toInt = 2 := by decide
  have q3 : (3 : Int32).toInt = 3 := by decide
  have q4 : (4 : Int32).toInt = 4 := by decide
  have q5 : (5 : Int32).toInt = 5 := by decide
  have q6 : (6 : Int32).toInt = 6 := by decide
  have q7 : (7 : Int32).toInt = 7 := by decide
  have q8 : (8 : Int32).toInt = 8 := by decide
  have q9 : (9 : Int32).toInt = 9 := by decide
  have q10 : (10 : Int32).toInt = 10 := by decide
  have q12 : (12 : Int32).toInt = 12 := by decide
  have q16 : (16 : Int32).toInt = 16 := by decide
  have q20 : (20 : Int32).toInt = 20 := by decide
  have q24 : (24 : Int32).toInt = 24 := by decide
  have q30 : (30 : Int32).toInt = 30 := by decide
  have q32 : (32 : Int32).toInt = 32 := by decide
  have q40 : (40 : Int32).toInt = 40 := by decide
  have q60 : (60 : Int32).toInt = 60 := by decide
  have q69 : (69 : Int32).toInt = 69 := by decide
  have q99 : (99 : Int32).toInt = 99 := by decide
  have q9999 : (9999 : Int32).toInt = 9999 := by decide
  have q274 : (274 : Int32).toInt = 274 := by decide
  have q334 : (334 : Int32).toInt = 334 := by decide
  have qm1 : (-1 : Int32).toInt = -1 := by decide
  refine V2.to (l' := [some (.ref 0), some (.int sh), some (.int w), none, none]) ?_ rfl rfl rfl rfl
  refine V2_aload_n (i := 0) d_P_fits_0 rfl rfl ?_
  refine V2_iload_n (i := 1) d_P_fits_1 rfl rfl ?_
  refine V2_callV [.int sh] d_P_fits_2 rfl rfl lk_P_268 mo_P_sheetAt (by decide) rfl rfl rfl (Nat.le_of_ble_eq_true rfl) (Nat.le_of_ble_eq_true rfl) ?_
  refine V2.to (l' := [some (.ref 0), some (.int sh)]) ?_ rfl rfl rfl rfl
  refine V2_iload_n (i := 1) d_P_sheetAt_0 rfl rfl ?_
  refine V2_if_lt (tgt := 22) d_P_sheetAt_1 rfl (fun c1 => ?_) (fun c1 => ?_)
  · refine V2_null d_P_sheetAt_22 ?_
    refine V2_areturnN d_P_sheetAt_23 rfl (Or.inl ⟨_, rfl⟩) ?_
    refine V2.to (st' := [.null]) ?_ rfl rfl rfl rfl
    refine V2_astore_nN (i := 3) (l' := [some (.ref 0), some (.int sh), some (.int w), some (.null), none]) d_P_fits_5 rfl (xst_i (Nat.le_of_ble_eq_true rfl) rfl rfl) ?_
    refine V2_aload_nN (i := 3) d_P_fits_6 rfl rfl ?_
    refine V2_ifnullN (tgt := 19) d_P_fits_7 rfl ?_
    refine V2_aload_n (i := 0) d_P_fits_19 rfl rfl ?_
    refine V2_iconst (v := 1) d_P_fits_20 rfl ?_
    refine V2_callV [.int (1 : Int32)] d_P_fits_21 rfl rfl lk_P_66 mo_P_fails (by decide) rfl rfl rfl (Nat.le_of_ble_eq_true rfl) (Nat.le_of_ble_eq_true rfl) ?_
    refine c_P_fails1 ?_
    refine V2_topi (fun v2 ev2 => ?_)
    refine V2_ireturn d_P_fits_24 rfl ?_
    have hb0 : ¬ ((0 ≤ sh.toInt ∧ sh.toInt < 4) ∧ -1 ≤ w.toInt ∧ w.toInt ≤ 2) := (by (try clear hQ); (try subst ev2); ((try simp only [xb_eq, xb_ne, Int32.lt_iff_toInt_lt, Int32.le_iff_toInt_le] at *) <;> (try simp only [← Int32.toInt_inj, true_and, false_and, or_false, false_or, or_true, true_or, and_true, and_false] at *) <;> omega))
    have e : k_fits F sh w = (-1000000000 - 1, errF F 1) := if_neg hb0
    rw [e] at hQ
    subst ev2
    exact xQi (hQ _ (mid_err hR (by decide))) rfl rfl
  · refine V2_iload_n (i := 1) d_P_sheetAt_4 rfl rfl ?_
    refine V2_aload_n (i := 0) d_P_sheetAt_5 rfl rfl ?_
    refine V2_getr (a := 55) d_P_sheetAt_6 fl_P_49 (by decide) rfl (by decide) rfl ?_
    refine V2_alen (t := 1) (v := 4) d_P_sheetAt_9 (by decide) rfl (by decide) rfl ?_
    refine V2_icmp_ge (tgt := 22) d_P_sheetAt_10 rfl (fun c3 => ?_) (fun c3 => ?_)
    · refine V2_null d_P_sheetAt_22 ?_
      refine V2_areturnN d_P_sheetAt_23 rfl (Or.inl ⟨_, rfl⟩) ?_
      refine V2.to (st' := [.null]) ?_ rfl rfl rfl rfl
      refine V2_astore_nN (i := 3) (l' := [some (.ref 0), some (.int sh), some (.int w), some (.null), none]) d_P_fits_5 rfl (xst_i (Nat.le_of_ble_eq_true rfl) rfl rfl) ?_
      refine V2_aload_nN (i := 3) d_P_fits_6 rfl rfl ?_
      refine V2_ifnullN (tgt := 19) d_P_fits_7 rfl ?_
      refine V2_aload_n (i := 0) d_P_fits_19 rfl rfl ?_
      refine V2_iconst (v := 1) d_P_fits_20 rfl ?_
      refine V2_callV [.int (1 : Int32)] d_P_fits_21 rfl rfl lk_P_66 mo_P_fails (by decide) rfl rfl rfl (Nat.le_of_ble_eq_true rfl) (Nat.le_of_ble_eq_true rfl) ?_
      refine c_P_fails1 ?_
      refine V2_topi (fun v4 ev4 => ?_)
      refine V2_ireturn d_P_fits_24 rfl ?_
      have hb0 : ¬ ((0 ≤ sh.toInt ∧ sh.toInt < 4) ∧ -1 ≤ w.toInt ∧ w.toInt ≤ 2) := (by (try clear hQ); (try subst ev4); ((try simp only [xb_eq, xb_ne, Int32.lt_iff_toInt_lt, Int32.le_iff_toInt_le] at *) <;> (try simp only [← Int32.toInt_inj, true_and, false_and, or_false, false_or, or_true, true_or, and_true, and_false] at *) <;> omega))
      have e : k_fits F sh w = (-1000000000 - 1, errF F 1) := if_neg hb0
      rw [e] at hQ
      subst ev4
      exact xQi (hQ _ (mid_err hR (by decide))) rfl rfl
    · obtain ⟨t, ht, ept⟩ := in_of (x := sh) (P := 4) (by (try clear hQ); (try skip); ((try simp only [xb_eq, xb_ne, Int32.lt_iff_toInt_lt, Int32.le_iff_toInt_le] at *) <;> (try simp only [← Int32.toInt_inj, true_and, false_and, or_false, false_or, or_true, true_or, and_true, and_false] at *) <;> omega)) (by (try clear hQ); (try skip); ((try simp only [xb_eq, xb_ne, Int32.lt_iff_toInt_lt, Int32.le_iff_toInt_le] at *) <;> (try simp only [← Int32.toInt_inj, true_and, false_and, or_false, false_or, or_true, true_or, and_true, and_false] at *) <;> omega)) (by omega)
      subst ept
      have nt : (nI t).toInt = (t : Int) := nI_toInt (by omega)
      have kt : (nI t).toNatClampNeg = t := nI_clamp (by omega)
      obtain ⟨N, hN, eN, nN, e2, eb, hb⟩ := inv_sz hR ht
      have n2 : (F (57 + 2 * t) 2).toInt = (N : Int) := by rw [e2]; exact nI_toInt (by omega)
      refine V2_aload_n (i := 0) d_P_sheetAt_13 rfl rfl ?_
      refine V2_getr (a := 55) d_P_sheetAt_14 fl_P_49 (by decide) rfl (by decide) rfl ?_
      refine V2_iload_n (i := 1) d_P_sheetAt_17 rfl rfl ?_
      refine V2_aaload (t := 0) (a := (57 + 2 * t)) d_P_sheetAt_18 (by decide) rfl (by decide) (vp_in_nI ht (by omega)) (sh_s ht) ?_
      refine V2_goto (tgt := 23) d_P_sheetAt_19 rfl ?_
      refine V2_areturn d_P_sheetAt_23 rfl (Or.inl ⟨_, rfl⟩) ?_
      refine V2.to (st' := [.ref (57 + 2 * t)]) ?_ rfl rfl rfl rfl
      refine V2_astore_n (i := 3) (l' := [some (.ref 0), some (.int (nI t)), some (.int w), some (.ref (57 + 2 * t)), none]) d_P_fits_5 rfl (xst_i (Nat.le_of_ble_eq_true rfl) rfl rfl) ?_
      refine V2_aload_n (i := 3) d_P_fits_6 rfl rfl ?_
      refine V2_ifnull d_P_fits_7 ?_
      refine V2_iload_n (i := 2) d_P_fits_10 rfl rfl ?_
      refine V2_iconst (v := -1) d_P_fits_11 rfl ?_
      refine V2_iconst (v := 2) d_P_fits_12 rfl ?_
      refine V2_callS [.int w, .int (-1 : Int32), .int (2 : Int32)] d_P_fits_13 rfl rfl lk_P_133 mo_P_within (Nat.le_of_ble_eq_true rfl) (Nat.le_of_ble_eq_true rfl) ?_
      refine V2.to (l' := [some (.int w), some (.int (-1 : Int32)), some (.int (2 : Int32))]) ?_ rfl rfl rfl rfl
      refine V2_iload_n (i := 0) d_P_within_0 rfl rfl ?_
      refine V2_iload_n (i := 1) d_P_within_1 rfl rfl ?_
      refine V2_icmp_lt (tgt := 14) d_P_within_2 rfl (fun c5 => ?_) (fun c5 => ?_)
      · refine V2_iconst (v := 0) d_P_within_14 rfl ?_
        refine V2_zreturn d_P_within_15 rfl (by decide) ?_
        refine V2.to (st' := [.int (0 : Int32)]) ?_ rfl rfl rfl rfl
        refine V2_if_ne (tgt := 25) d_P_fits_16 rfl (fun c => (by first | exact absurd c (by decide) | exact absurd (by decide) c)) (fun _ => ?_)
        refine V2_aload_n (i := 0) d_P_fits_19 rfl rfl ?_
        refine V2_iconst (v := 1) d_P_fits_20 rfl ?_
        refine V2_callV [.int (1 : Int32)] d_P_fits_21 rfl rfl lk_P_66 mo_P_fails (by decide) rfl rfl rfl (Nat.le_of_ble_eq_true rfl) (Nat.le_of_ble_eq_true rfl) ?_
        refine c_P_fails1 ?_
        refine V2_topi (fun v6 ev6 => ?_)
        refine V2_ireturn d_P_fits_24 rfl ?_
        have hb0 : ¬ ((0 ≤ (nI t).toInt ∧ (nI t).toInt < 4) ∧ -1 ≤ w.toInt ∧ w.toInt ≤ 2) := (by (try clear hQ); (try subst ev6); ((try simp only [xb_eq, xb_ne, Int32.lt_iff_toInt_lt, Int32.le_iff_toInt_le] at *) <;> (try simp only [← Int32.toInt_inj, true_and, false_and, or_false, false_or, or_true, true_or, and_true, and_false] at *) <;> omega))
        have e : k_fits F (nI t) w = (-1000000000 - 1, errF F 1) := if_neg hb0
        rw [e] at hQ
        subst ev6
        exact xQi (hQ _ (mid_err hR (by decide))) rfl rfl
      · refine V2_iload_n (i := 0) d_P_within_5 rfl rfl ?_
        refine V2_iload_n (i := 2) d_P_within_6 rfl rfl ?_
        refine V2_icmp_gt (tgt := 14) d_P_within_7 rfl (fun c7 => ?_) (fun c7 => ?_)
        · refine V2_iconst (v := 0) d_P_within_14 rfl ?_
          refine V2_zreturn d_P_within_15 rfl (by decide) ?_
          refine V2.to (st' := [.int (0 : Int32)]) ?_ rfl rfl rfl rfl
          refine V2_if_ne (tgt := 25) d_P_fits_16 rfl (fun c => (by first | exact absurd c (by decide) | exact absurd (by decide) c)) (fun _ => ?_)
          refine V2_aload_n (i := 0) d_P_fits_19 rfl rfl ?_
          refine V2_iconst (v := 1) d_P_fits_20 rfl ?_
          refine V2_callV [.int (1 : Int32)] d_P_fits_21 rfl rfl lk_P_66 mo_P_fails (by decide) rfl rfl rfl (Nat.le_of_ble_eq_true rfl) (Nat.le_of_ble_eq_true rfl) ?_
          refine c_P_fails1 ?_
          refine V2_topi (fun v8 ev8 => ?_)
          refine V2_ireturn d_P_fits_24 rfl ?_
          have hb0 : ¬ ((0 ≤ (nI t).toInt ∧ (nI t).toInt < 4) ∧ -1 ≤ w.toInt ∧ w.toInt ≤ 2) := (by (try clear hQ); (try subst ev8); ((try simp only [xb_eq, xb_ne, Int32.lt_iff_toInt_lt, Int32.le_iff_toInt_le] at *) <;> (try simp only [← Int32.toInt_inj, true_and, false_and, or_false, false_or, or_true, true_or, and_true, and_false] at *) <;> omega))
          have e : k_fits F (nI t) w = (-1000000000 - 1, errF F 1) := if_neg hb0
          rw [e] at hQ
          subst ev8
          exact xQi (hQ _ (mid_err hR (by decide))) rfl rfl
        · refine V2_iconst (v := 1) d_P_within_10 rfl ?_
          refine V2_goto (tgt := 15) d_P_within_11 rfl ?_
          refine V2_zreturn d_P_within_15 rfl (by decide) ?_
          refine V2.to (st' := [.int (1 : Int32)]) ?_ rfl rfl rfl rfl
          refine V2_if_ne (tgt := 25) d_P_fits_16 rfl (fun _ => ?_) (fun c => (by first | exact absurd c (by decide) | exact absurd (by decide) c))
          refine V2_aload_n (i := 3) d_P_fits_25 rfl rfl ?_
          refine V2_callV [] d_P_fits_26 rfl rfl lk_P_272 mo_Sheet_isMissing (by omega) (sh_k1 ht) rfl rfl (Nat.le_of_ble_eq_true rfl) (Nat.le_of_ble_eq_true rfl) ?_
          refine V2.to (l' := [some (.ref (57 + 2 * t))]) ?_ rfl rfl rfl rfl
          refine V2_aload_n (i := 0) d_Sheet_isMissing_0 rfl rfl ?_
          refine V2_get d_Sheet_isMissing_1 fl_Sheet_13 (by omega) (sh_k ht) (by decide) (sh_n ht (by decide)) rfl ?_
          refine V2_topi (fun v9 ev9 => ?_)
          refine V2_if_ne (tgt := 11) d_Sheet_isMissing_4 rfl (fun c10 => ?_) (fun c10 => ?_)
          · refine V2_iconst (v := 0) d_Sheet_isMissing_11 rfl ?_
            refine V2_zreturn d_Sheet_isMissing_12 rfl (by decide) ?_
            refine V2.to (st' := [.int (0 : Int32)]) ?_ rfl rfl rfl rfl
            refine V2_if_ne (tgt := 44) d_P_fits_29 rfl (fun c => (by first | exact absurd c (by decide) | exact absurd (by decide) c)) (fun _ => ?_)
            refine V2_aload_n (i := 3) d_P_fits_32 rfl rfl ?_
            refine V2_callV [] d_P_fits_33 rfl rfl lk_P_275 mo_Sheet_size (by omega) (sh_k1 ht) rfl rfl (Nat.le_of_ble_eq_true rfl) (Nat.le_of_ble_eq_true rfl) ?_
            refine V2.to (l' := [some (.ref (57 + 2 * t))]) ?_ rfl rfl rfl rfl
            refine V2_aload_n (i := 0) d_Sheet_size_0 rfl rfl ?_
            refine V2_get d_Sheet_size_1 fl_Sheet_17 (by omega) (sh_k ht) (by decide) (sh_n ht (by decide)) rfl ?_
            refine V2_topi (fun v11 ev11 => ?_)
            refine V2_ireturn d_Sheet_size_4 rfl ?_
            refine V2.to (st' := [.int v11]) ?_ rfl rfl rfl rfl
            refine V2_iconst (v := 1) d_P_fits_36 rfl ?_
            refine V2_iconst (v := 3) d_P_fits_37 rfl ?_
            refine V2_callS [.int v11, .int (1 : Int32), .int (3 : Int32)] d_P_fits_38 rfl rfl lk_P_133 mo_P_within (Nat.le_of_ble_eq_true rfl) (Nat.le_of_ble_eq_true rfl) ?_
            refine V2.to (l' := [some (.int v11), some (.int (1 : Int32)), some (.int (3 : Int32))]) ?_ rfl rfl rfl rfl
            refine V2_iload_n (i := 0) d_P_within_0 rfl rfl ?_
            refine V2_iload_n (i := 1) d_P_within_1 rfl rfl ?_
            refine V2_icmp_lt (tgt := 14) d_P_within_2 rfl (fun c12 => ?_) (fun c12 => ?_)
            · refine V2_iconst (v := 0) d_P_within_14 rfl ?_
              refine V2_zreturn d_P_within_15 rfl (by decide) ?_
              refine V2.to (st' := [.int (0 : Int32)]) ?_ rfl rfl rfl rfl
              refine V2_if_ne (tgt := 50) d_P_fits_41 rfl (fun c => (by first | exact absurd c (by decide) | exact absurd (by decide) c)) (fun _ => ?_)
              refine V2_aload_n (i := 0) d_P_fits_44 rfl rfl ?_
              refine V2_iconst (v := 2) d_P_fits_45 rfl ?_
              refine V2_callV [.int (2 : Int32)] d_P_fits_46 rfl rfl lk_P_66 mo_P_fails (by decide) rfl rfl rfl (Nat.le_of_ble_eq_true rfl) (Nat.le_of_ble_eq_true rfl) ?_
              refine c_P_fails2 ?_
              refine V2_topi (fun v13 ev13 => ?_)
              refine V2_ireturn d_P_fits_49 rfl ?_
              have hz : (F 74 t).toInt = 0 ∨ (F 75 t).toInt < 1 ∨ 3 < (F 75 t).toInt := (by (try clear hQ); (try subst ev13 ev11 ev9); ((try simp only [xb_eq, xb_ne, Int32.lt_iff_toInt_lt, Int32.le_iff_toInt_le] at *) <;> (try simp only [← Int32.toInt_inj, true_and, false_and, or_false, false_or, or_true, true_or, and_true, and_false] at *) <;> omega))
              have hb0 : (0 ≤ (nI t).toInt ∧ (nI t).toInt < 4) ∧ -1 ≤ w.toInt ∧ w.toInt ≤ 2 := (by (try clear hQ); (try subst ev13 ev11 ev9); ((try simp only [xb_eq, xb_ne, Int32.lt_iff_toInt_lt, Int32.le_iff_toInt_le] at *) <;> (try simp only [← Int32.toInt_inj, true_and, false_and, or_false, false_or, or_true, true_or, and_true, and_false] at *) <;> omega))
              have e : k_fits F (nI t) w = (-1000000000 - 2, errF F 2) := (if_pos hb0).trans (by rw [kt]; exact if_pos hz)
              rw [e] at hQ
              subst ev13 ev11 ev9
              exact xQi (hQ _ (mid_err hR (by decide))) rfl rfl
            · refine V2_iload_n (i := 0) d_P_within_5 rfl rfl ?_
              refine V2_iload_n (i := 2) d_P_within_6 rfl rfl ?_
              refine V2_icmp_gt (tgt := 14) d_P_within_7 rfl (fun c14 => ?_) (fun c14 => ?_)
              · refine V2_iconst (v := 0) d_P_within_14 rfl ?_
                refine V2_zreturn d_P_within_15 rfl (by decide) ?_
                refine V2.to (st' := [.int (0 : Int32)]) ?_ rfl rfl rfl rfl
                refine V2_if_ne (tgt := 50) d_P_fits_41 rfl (fun c => (by first | exact absurd c (by decide) | exact absurd (by decide) c)) (fun _ => ?_)
                refine V2_aload_n (i := 0) d_P_fits_44 rfl rfl ?_
                refine V2_iconst (v := 2) d_P_fits_45 rfl ?_
                refine V2_callV [.int (2 : Int32)] d_P_fits_46 rfl rfl lk_P_66 mo_P_fails (by decide) rfl rfl rfl (Nat.le_of_ble_eq_true rfl) (Nat.le_of_ble_eq_true rfl) ?_
                refine c_P_fails2 ?_
                refine V2_topi (fun v15 ev15 => ?_)
                refine V2_ireturn d_P_fits_49 rfl ?_
                have hz : (F 74 t).toInt = 0 ∨ (F 75 t).toInt < 1 ∨ 3 < (F 75 t).toInt := (by (try clear hQ); (try subst ev15 ev11 ev9); ((try simp only [xb_eq, xb_ne, Int32.lt_iff_toInt_lt, Int32.le_iff_toInt_le] at *) <;> (try simp only [← Int32.toInt_inj, true_and, false_and, or_false, false_or, or_true, true_or, and_true, and_false] at *) <;> omega))
                have hb0 : (0 ≤ (nI t).toInt ∧ (nI t).toInt < 4) ∧ -1 ≤ w.toInt ∧ w.toInt ≤ 2 := (by (try clear hQ); (try subst ev15 ev11 ev9); ((try simp only [xb_eq, xb_ne, Int32.lt_iff_toInt_lt, Int32.le_iff_toInt_le] at *) <;> (try simp only [← Int32.toInt_inj, true_and, false_and, or_false, false_or, or_true, true_or, and_true, and_false] at *) <;> omega))
                have e : k_fits F (nI t) w = (-1000000000 - 2, errF F 2) := (if_pos hb0).trans (by rw [kt]; exact if_pos hz)
                rw [e] at hQ
                subst ev15 ev11 ev9
                exact xQi (hQ _ (mid_err hR (by decide))) rfl rfl
              · refine V2_iconst (v := 1) d_P_within_10 rfl ?_
                refine V2_goto (tgt := 15) d_P_within_11 rfl ?_
                refine V2_zreturn d_P_within_15 rfl (by decide) ?_
                refine V2.to (st' := [.int (1 : Int32)]) ?_ rfl rfl rfl rfl
                refine V2_if_ne (tgt := 50) d_P_fits_41 rfl (fun _ => ?_) (fun c => (by first | exact absurd c (by decide) | exact absurd (by decide) c))
                refine V2_aload_n (i := 0) d_P_fits_50 rfl rfl ?_
                refine V2_getr (a := 36) d_P_fits_51 fl_P_29 (by decide) rfl (by decide) rfl ?_
                refine V2_aload_n (i := 0) d_P_fits_54 rfl rfl ?_
                refine V2_getr (a := 1) d_P_fits_55 fl_P_10 (by decide) rfl (by decide) rfl ?_
                refine V2_aload_n (i := 3) d_P_fits_58 rfl rfl ?_
                refine V2_callV [.ref 1, .ref (57 + 2 * t)] d_P_fits_59 rfl rfl lk_P_276 mo_Rows_seekFits (by decide) rfl rfl rfl (Nat.le_of_ble_eq_true rfl) (Nat.le_of_ble_eq_true rfl) ?_
                have hN3 : 1 ≤ N ∧ N ≤ 3 := (by (try clear hQ); (try subst ev11 ev9); ((try simp only [xb_eq, xb_ne, Int32.lt_iff_toInt_lt, Int32.le_iff_toInt_le] at *) <;> (try simp only [← Int32.toInt_inj, true_and, false_and, or_false, false_or, or_true, true_or, and_true, and_false] at *) <;> omega))
                have hz : ¬ ((F 74 t).toInt = 0 ∨ (F 75 t).toInt < 1 ∨ 3 < (F 75 t).toInt) := (by (try clear hQ); (try subst ev11 ev9); ((try simp only [xb_eq, xb_ne, Int32.lt_iff_toInt_lt, Int32.le_iff_toInt_le] at *) <;> (try simp only [← Int32.toInt_inj, true_and, false_and, or_false, false_or, or_true, true_or, and_true, and_false] at *) <;> omega))
                have hb0 : (0 ≤ (nI t).toInt ∧ (nI t).toInt < 4) ∧ -1 ≤ w.toInt ∧ w.toInt ≤ 2 := (by (try clear hQ); (try subst ev11 ev9); ((try simp only [xb_eq, xb_ne, Int32.lt_iff_toInt_lt, Int32.le_iff_toInt_le] at *) <;> (try simp only [← Int32.toInt_inj, true_and, false_and, or_false, false_or, or_true, true_or, and_true, and_false] at *) <;> omega))
                have e : k_fits F (nI t) w = fitsA F (F 75 t).toNatClampNeg (fitS F t (F 75 t).toNatClampNeg) w := (if_pos hb0).trans (by rw [kt]; exact if_neg hz)
                rw [e] at hQ
                rw [eN, nI_clamp (show N < 2 ^ 31 by omega)] at hQ
                refine c_Rows_seekFits hR ht hN3.1 hN3.2 eN (fun G2 h2 hfR => ?_)
                have hfi := fitS_i F t N
                have hp10 := p10 (n := N) hN3.2
                have nfm : (nI (fitS F t N).2).toInt = ((fitS F t N).2 : Int) := nI_toInt (by omega)
                have n22 : (G2 (57 + 2 * t) 2).toInt = (N : Int) := by rw [h2 _ (by omega) (by omega) (by omega), e2]; exact nI_toInt (by omega)
                refine V2_istore (i := 4) (l' := [some (.ref 0), some (.int (nI t)), some (.int w), some (.ref (57 + 2 * t)), some (.int (nI (fitS F t N).2))]) d_P_fits_62 (xst_r (Nat.le_of_ble_eq_true rfl) rfl rfl) ?_
                refine V2_iload_n (i := 2) d_P_fits_64 rfl rfl ?_
                refine V2_iconst (v := -1) d_P_fits_65 rfl ?_
                refine V2_icmp_ne (tgt := 72) d_P_fits_66 rfl (fun c16 => ?_) (fun c16 => ?_)
                · refine V2_iload (i := 4) d_P_fits_72 rfl ?_
                  refine V2_if_eq (tgt := 85) d_P_fits_74 rfl (fun c17 => ?_) (fun c17 => ?_)
                  · refine V2_aload_n (i := 0) d_P_fits_85 rfl rfl ?_
                    refine V2_iconst (v := 2) d_P_fits_86 rfl ?_
                    refine V2_callV [.int (2 : Int32)] d_P_fits_87 rfl rfl lk_P_66 mo_P_fails (by decide) rfl rfl rfl (Nat.le_of_ble_eq_true rfl) (Nat.le_of_ble_eq_true rfl) ?_
                    refine c_P_fails2 ?_
                    refine V2_topi (fun v18 ev18 => ?_)
                    refine V2_goto (tgt := 101) d_P_fits_90 rfl ?_
                    refine V2_ireturn d_P_fits_101 rfl ?_
                    have hA : fitsA F N (fitS F t N) w = (-1000000000 - 2, errF F 2) := (if_neg (by (try clear hQ); (try subst ev18 ev11 ev9); ((try simp only [xb_eq, xb_ne, Int32.lt_iff_toInt_lt, Int32.le_iff_toInt_le] at *) <;> (try simp only [← Int32.toInt_inj, true_and, false_and, or_false, false_or, or_true, true_or, and_true, and_false] at *) <;> omega))).trans (if_pos (by (try clear hQ); (try subst ev18 ev11 ev9); ((try simp only [xb_eq, xb_ne, Int32.lt_iff_toInt_lt, Int32.le_iff_toInt_le] at *) <;> (try simp only [← Int32.toInt_inj, true_and, false_and, or_false, false_or, or_true, true_or, and_true, and_false] at *) <;> omega)))
                    rw [hA] at hQ
                    subst ev18 ev11 ev9
                    exact hQ _ (mid_scr_err hR h2 (by decide))
                  · refine V2_iload_n (i := 2) d_P_fits_77 rfl rfl ?_
                    refine V2_aload_n (i := 3) d_P_fits_78 rfl rfl ?_
                    refine V2_callV [] d_P_fits_79 rfl rfl lk_P_275 mo_Sheet_size (by omega) (sh_k1 ht) rfl rfl (Nat.le_of_ble_eq_true rfl) (Nat.le_of_ble_eq_true rfl) ?_
                    refine V2.to (l' := [some (.ref (57 + 2 * t))]) ?_ rfl rfl rfl rfl
                    refine V2_aload_n (i := 0) d_Sheet_size_0 rfl rfl ?_
                    refine V2_get d_Sheet_size_1 fl_Sheet_17 (by omega) (sh_k ht) (by decide) (sh_n ht (by decide)) rfl ?_
                    refine V2_topi (fun v19 ev19 => ?_)
                    refine V2_ireturn d_Sheet_size_4 rfl ?_
                    refine V2.to (st' := [.int v19, .int w]) ?_ rfl rfl rfl rfl
                    refine V2_icmp_lt (tgt := 93) d_P_fits_82 rfl (fun c20 => ?_) (fun c20 => ?_)
                    · have hA1 : ¬ w.toInt = -1 := (by (try clear hQ); (try subst ev19 ev11 ev9); ((try simp only [xb_eq, xb_ne, Int32.lt_iff_toInt_lt, Int32.le_iff_toInt_le] at *) <;> (try simp only [← Int32.toInt_inj, true_and, false_and, or_false, false_or, or_true, true_or, and_true, and_false] at *) <;> omega))
                      have hA2 : ¬ ((fitS F t N).2 = 0 ∨ (N : Int) ≤ w.toInt) := (by (try clear hQ); (try subst ev19 ev11 ev9); ((try simp only [xb_eq, xb_ne, Int32.lt_iff_toInt_lt, Int32.le_iff_toInt_le] at *) <;> (try simp only [← Int32.toInt_inj, true_and, false_and, or_false, false_or, or_true, true_or, and_true, and_false] at *) <;> omega))
                      obtain ⟨b9, eb9, hb9, hd9⟩ := hfR.2.1 (by omega)
                      obtain ⟨z, hz9, epz⟩ := in_of (x := w) (P := 3) (by (try clear hQ); (try subst ev19 ev11 ev9); ((try simp only [xb_eq, xb_ne, Int32.lt_iff_toInt_lt, Int32.le_iff_toInt_le] at *) <;> (try simp only [← Int32.toInt_inj, true_and, false_and, or_false, false_or, or_true, true_or, and_true, and_false] at *) <;> omega)) (by (try clear hQ); (try subst ev19 ev11 ev9); ((try simp only [xb_eq, xb_ne, Int32.lt_iff_toInt_lt, Int32.le_iff_toInt_le] at *) <;> (try simp only [← Int32.toInt_inj, true_and, false_and, or_false, false_or, or_true, true_or, and_true, and_false] at *) <;> omega)) (by omega)
                      subst epz
                      have nz : (nI z).toInt = (z : Int) := nI_toInt (by omega)
                      have kz : (nI z).toNatClampNeg = z := nI_clamp (by omega)
                      refine V2_aload_n (i := 0) d_P_fits_93 rfl rfl ?_
                      refine V2_getr (a := 36) d_P_fits_94 fl_P_29 (by decide) rfl (by decide) rfl ?_
                      refine V2_iload_n (i := 2) d_P_fits_97 rfl rfl ?_
                      refine V2_callV [.int (nI z)] d_P_fits_98 rfl rfl lk_P_251 mo_Rows_keptGas (by decide) rfl rfl rfl (Nat.le_of_ble_eq_true rfl) (Nat.le_of_ble_eq_true rfl) ?_
                      refine V2.to (l' := [some (.ref 36), some (.int (nI z))]) ?_ rfl rfl rfl rfl
                      refine V2_iload_n (i := 1) d_Rows_keptGas_0 rfl rfl ?_
                      refine V2_if_lt (tgt := 22) d_Rows_keptGas_1 rfl (fun c21 => (by first | exact absurd c21 (show ¬ nI z < 0 from nI_pos (by omega)) | exact absurd (show ¬ nI z < 0 from nI_pos (by omega)) c21)) (fun c21 => ?_)
                      refine V2_iload_n (i := 1) d_Rows_keptGas_4 rfl rfl ?_
                      refine V2_aload_n (i := 0) d_Rows_keptGas_5 rfl rfl ?_
                      refine V2_getr (a := 41) d_Rows_keptGas_6 fl_Rows_30 (by decide) rfl (by decide) rfl ?_
                      refine V2_alen (t := 0) (v := 4) d_Rows_keptGas_9 (by decide) rfl (by decide) rfl ?_
                      refine V2_icmp_ge (tgt := 22) d_Rows_keptGas_10 rfl (fun c22 => (by first | exact absurd c22 (show ¬ (4 : Int32) ≤ nI z from nI_ge (a := z) (b := 4) (by omega) (by decide)) | exact absurd (show ¬ (4 : Int32) ≤ nI z from nI_ge (a := z) (b := 4) (by omega) (by decide)) c22)) (fun c22 => ?_)
                      refine V2_aload_n (i := 0) d_Rows_keptGas_13 rfl rfl ?_
                      refine V2_getr (a := 41) d_Rows_keptGas_14 fl_Rows_30 (by decide) rfl (by decide) rfl ?_
                      refine V2_iload_n (i := 1) d_Rows_keptGas_17 rfl rfl ?_
                      refine V2_ialoadJ (z) d_Rows_keptGas_18 (by decide) rfl (xixA (n := z) rfl (by omega) (by decide)) (xixB (n := z) rfl (by omega)) rfl ?_
                      refine V2_topi (fun v23 ev23 => ?_)
                      refine V2_goto (tgt := 23) d_Rows_keptGas_19 rfl ?_
                      refine V2_ireturn d_Rows_keptGas_23 rfl ?_
                      refine V2.to (st' := [.int v23]) ?_ rfl rfl rfl rfl
                      refine V2_ireturn d_P_fits_101 rfl ?_
                      have hA : fitsA F N (fitS F t N) (nI z) = (nI (b9 / 10 ^ (N - 1 - z) % 10), F) := by
                        refine (if_neg hA1).trans ((if_neg hA2).trans ?_)
                        rw [eb9, kz, nI_clamp (by have := p10 (n := N) (by omega); omega)]
                      rw [hA] at hQ
                      subst ev23 ev19 ev11 ev9
                      exact xQi (hQ G2 (mid_scr hR h2)) (hd9 z (by omega)) rfl
                    · refine V2_aload_n (i := 0) d_P_fits_85 rfl rfl ?_
                      refine V2_iconst (v := 2) d_P_fits_86 rfl ?_
                      refine V2_callV [.int (2 : Int32)] d_P_fits_87 rfl rfl lk_P_66 mo_P_fails (by decide) rfl rfl rfl (Nat.le_of_ble_eq_true rfl) (Nat.le_of_ble_eq_true rfl) ?_
                      refine c_P_fails2 ?_
                      refine V2_topi (fun v24 ev24 => ?_)
                      refine V2_goto (tgt := 101) d_P_fits_90 rfl ?_
                      refine V2_ireturn d_P_fits_101 rfl ?_
                      have hA : fitsA F N (fitS F t N) w = (-1000000000 - 2, errF F 2) := (if_neg (by (try clear hQ); (try subst ev24 ev19 ev11 ev9); ((try simp only [xb_eq, xb_ne, Int32.lt_iff_toInt_lt, Int32.le_iff_toInt_le] at *) <;> (try simp only [← Int32.toInt_inj, true_and, false_and, or_false, false_or, or_true, true_or, and_true, and_false] at *) <;> omega))).trans (if_pos (by (try clear hQ); (try subst ev24 ev19 ev11 ev9); ((try simp only [xb_eq, xb_ne, Int32.lt_iff_toInt_lt, Int32.le_iff_toInt_le] at *) <;> (try simp only [← Int32.toInt_inj, true_and, false_and, or_false, false_or, or_true, true_or, and_true, and_false] at *) <;> omega)))
                      rw [hA] at hQ
                      subst ev24 ev19 ev11 ev9
                      exact hQ _ (mid_scr_err hR h2 (by decide))
                · refine V2_iload (i := 4) d_P_fits_69 rfl ?_
                  refine V2_ireturn d_P_fits_71 rfl ?_
                  have hA : fitsA F N (fitS F t N) w = (nI (fitS F t N).2, F) := if_pos (by (try clear hQ); (try subst ev11 ev9); ((try simp only [xb_eq, xb_ne, Int32.lt_iff_toInt_lt, Int32.le_iff_toInt_le] at *) <;> (try simp only [← Int32.toInt_inj, true_and, false_and, or_false, false_or, or_true, true_or, and_true, and_false] at *) <;> omega))
                  rw [hA] at hQ
                  subst ev11 ev9
                  exact xQi (hQ G2 (mid_scr hR h2)) rfl rfl
          · refine V2_iconst (v := 1) d_Sheet_isMissing_7 rfl ?_
            refine V2_goto (tgt := 12) d_Sheet_isMissing_8 rfl ?_
            refine V2_zreturn d_Sheet_isMissing_12 rfl (by decide) ?_
            refine V2.to (st' := [.int (1 : Int32)]) ?_ rfl rfl rfl rfl
            refine V2_if_ne (tgt := 44) d_P_fits_29 rfl (fun _ => ?_) (fun c => (by first | exact absurd c (by decide) | exact absurd (by decide) c))
            refine V2_aload_n (i := 0) d_P_fits_44 rfl rfl ?_
            refine V2_iconst (v := 2) d_P_fits_45 rfl ?_
            refine V2_callV [.int (2 : Int32)] d_P_fits_46 rfl rfl lk_P_66 mo_P_fails (by decide) rfl rfl rfl (Nat.le_of_ble_eq_true rfl) (Nat.le_of_ble_eq_true rfl) ?_
            refine c_P_fails2 ?_
            refine V2_topi (fun v25 ev25 => ?_)
            refine V2_ireturn d_P_fits_49 rfl ?_
            have hz : (F 74 t).toInt = 0 ∨ (F 75 t).toInt < 1 ∨ 3 < (F 75 t).toInt := (by (try clear hQ); (try subst ev25 ev9); ((try simp only [xb_eq, xb_ne, Int32.lt_iff_toInt_lt, Int32.le_iff_toInt_le] at *) <;> (try simp only [← Int32.toInt_inj, true_and, false_and, or_false, false_or, or_true, true_or, and_true, and_false] at *) <;> omega))
            have hb0 : (0 ≤ (nI t).toInt ∧ (nI t).toInt < 4) ∧ -1 ≤ w.toInt ∧ w.toInt ≤ 2 := (by (try clear hQ); (try subst ev25 ev9); ((try simp only [xb_eq, xb_ne, Int32.lt_iff_toInt_lt, Int32.le_iff_toInt_le] at *) <;> (try simp only [← Int32.toInt_inj, true_and, false_and, or_false, false_or, or_true, true_or, and_true, and_false] at *) <;> omega))
            have e : k_fits F (nI t) w = (-1000000000 - 2, errF F 2) := (if_pos hb0).trans (by rw [kt]; exact if_pos hz)
            rw [e] at hQ
            subst ev25 ev9
            exact xQi (hQ _ (mid_err hR (by decide))) rfl rfl
theorem c_R_fits_loop {L : Nat} {xs : Nat → Int32} {d : Nat} {Q : Option Value → xF → Prop} {F : xF} {S : Nat → Int32} {t n : Nat} {w y9 : Int32} {s9 : Int32 × Nat} (hi : invS S) (e66 : F 66 = S) (e65 : F 65 5 = 63) (ht : t < 4) (hn : n ≤ 3) (hK : ∀ G : xF, scrM F G → V2 L xs (d + 6) m_R_fits 111 [some (.ref 65), some (.int (nI t)), some (.int w), some (.int y9), some (.int (nI n)), some (.int s9.1), some (.int (nI s9.2)), some (.int (nI (10 ^ n))), some (.int (nI (10 ^ n)))] [] G Q) : ∀ (n_ : Nat) (row m : Nat) (fs : Int32) (a : Nat) (G : xF), row + m = 10 ^ n → m < n_ → scrM F G → a ≤ row → s9 = blk (procF (fun k => F 76 (24 * t + k)) n S) row m (fs, a) → V2 L xs (d + 6) m_R_fits 69 [some (.ref 65), some (.int (nI t)), some (.int w), some (.int y9), some (.int (nI n)), some (.int fs), some (.int (nI a)), some (.int (nI (10 ^ n))), some (.int (nI row))] [] G Q := by
  intro n_
  induction n_ with
  | zero => exact fun row m fs a G h1 h2 => absurd h2 (by omega)
  | succ n_ ih =>
    intro row m fs a G h1 h2 g1 ha h3
    have hp4 := p10 hn
    have e6 : G 66 = S := (g1 66 (by decide) (by decide) (by decide)).trans e66
    have e76 : (fun k => G 76 (24 * t + k)) = (fun k => F 76 (24 * t + k)) := by
      funext k
      rw [g1 76 (by decide) (by decide) (by decide)]
    refine V2_iload (i := 8) d_R_fits_69 rfl ?_
    refine V2_iload (i := 7) d_R_fits_71 rfl ?_
    refine V2_icmp_ge (tgt := 111) d_R_fits_73 rfl (fun c1 => ?_) (fun c1 => ?_)
    · have hm : m = 0 := by
        have := (nI_leI (by omega) (by omega)).mp c1
        omega
      subst hm
      have er : row = 10 ^ n := by omega
      subst er
      have h4 : s9 = (fs, a) := h3
      subst h4
      exact hK G g1
    · have hk : row < 10 ^ n := Nat.not_le.mp (fun hh => c1 ((nI_leI (by omega) (by omega)).mpr hh))
      obtain ⟨m, rfl⟩ : ∃ m2, m = m2 + 1 := ⟨m - 1, by omega⟩
      refine V2_aload_n (i := 0) d_R_fits_76 rfl rfl ?_
      refine V2_iload_n (i := 1) d_R_fits_77 rfl rfl ?_
      refine V2_iload (i := 8) d_R_fits_78 rfl ?_
      refine V2_iload (i := 4) d_R_fits_80 rfl ?_
      refine V2_callV [.int (nI t), .int (nI row), .int (nI n)] d_R_fits_82 rfl rfl lk_R_221 mo_R_comesSo (by decide) rfl rfl rfl (Nat.le_of_ble_eq_true rfl) (Nat.le_of_ble_eq_true rfl) ?_
      refine c_R_comesSo (S := S) hi e6 ((congrFun (g1 65 (by decide) (by decide) (by decide)) 5).trans e65) ht (by omega) hk (fun bb G2 g2 gc => ?_)
      refine V2_if_eq (tgt := 105) d_R_fits_85 rfl (fun c2 => ?_) (fun c2 => ?_)
      · obtain ⟨v3, ev3⟩ : ∃ y : Int32, y = nI row + 1 := ⟨_, rfl⟩
        refine V2_iinc (i := 8) (v := v3) (l' := [some (.ref 65), some (.int (nI t)), some (.int w), some (.int y9), some (.int (nI n)), some (.int fs), some (.int (nI a)), some (.int (nI (10 ^ n))), some (.int v3)]) d_R_fits_105 rfl (by rw [ev3]; rfl) (xst_i (Nat.le_of_ble_eq_true rfl) rfl rfl) ?_
        refine V2_goto (tgt := 69) d_R_fits_108 rfl ?_
        have hc : ¬ cmN (fun k => F 76 (24 * t + k)) (PN S) n 0 row S := by
          rcases gc with ⟨gb, _⟩ | ⟨_, gc⟩
          · exfalso
            rw [gb] at c2
            exact absurd c2 (by decide)
          · rw [e76] at gc
            exact gc
        rw [ev3, nI_1]
        refine V2.to (ih (row + 1) m fs a G2 (by omega) (by omega) (scrM.trans g1 g2) (by omega) ?_) rfl rfl rfl rfl
        rw [h3]
        show blk (procF (fun k => F 76 (24 * t + k)) n S) (row + 1) m (procF (fun k => F 76 (24 * t + k)) n S row (fs, a)) = _
        rw [pF_f hc]
      · refine V2_iload (i := 6) d_R_fits_88 rfl ?_
        refine V2_if_ne (tgt := 98) d_R_fits_90 rfl (fun c4 => ?_) (fun c4 => ?_)
        · refine V2_iload (i := 5) d_R_fits_98 rfl ?_
          refine V2_istore (i := 5) (l' := [some (.ref 65), some (.int (nI t)), some (.int w), some (.int y9), some (.int (nI n)), some (.int fs), some (.int (nI a)), some (.int (nI (10 ^ n))), some (.int (nI row))]) d_R_fits_100 (xst_i (Nat.le_of_ble_eq_true rfl) rfl rfl) ?_
          obtain ⟨v5, ev5⟩ : ∃ y : Int32, y = nI a + 1 := ⟨_, rfl⟩
          refine V2_iinc (i := 6) (v := v5) (l' := [some (.ref 65), some (.int (nI t)), some (.int w), some (.int y9), some (.int (nI n)), some (.int fs), some (.int v5), some (.int (nI (10 ^ n))), some (.int (nI row))]) d_R_fits_102 rfl (by rw [ev5]; rfl) (xst_i (Nat.le_of_ble_eq_true rfl) rfl rfl) ?_
          obtain ⟨v6, ev6⟩ : ∃ y : Int32, y = nI row + 1 := ⟨_, rfl⟩
          refine V2_iinc (i := 8) (v := v6) (l' := [some (.ref 65), some (.int (nI t)), some (.int w), some (.int y9), some (.int (nI n)), some (.int fs), some (.int v5), some (.int (nI (10 ^ n))), some (.int v6)]) d_R_fits_105 rfl (by rw [ev6]; rfl) (xst_i (Nat.le_of_ble_eq_true rfl) rfl rfl) ?_
          refine V2_goto (tgt := 69) d_R_fits_108 rfl ?_
          have hc : cmN (fun k => F 76 (24 * t + k)) (PN S) n 0 row S := by
            rcases gc with ⟨_, gc⟩ | ⟨gb, _⟩
            · rw [e76] at gc
              exact gc
            · exfalso
              exact c2 gb
          have hz : ¬ a = 0 := fun hh => c4 (by rw [hh]; rfl)
          have ea : v5 = nI (a + 1) := by rw [ev5, nI_1]
          rw [ea, ev6, nI_1]
          refine V2.to (ih (row + 1) m fs (a + 1) G2 (by omega) (by omega) (scrM.trans g1 g2) (by omega) ?_) rfl rfl rfl rfl
          rw [h3]
          show blk (procF (fun k => F 76 (24 * t + k)) n S) (row + 1) m (procF (fun k => F 76 (24 * t + k)) n S row (fs, a)) = _
          rw [pF_t hc]
          show blk _ _ _ ((if a = 0 then nI row else fs), a + 1) = _
          rw [if_neg hz]
        · refine V2_iload (i := 8) d_R_fits_93 rfl ?_
          refine V2_goto (tgt := 100) d_R_fits_95 rfl ?_
          refine V2_istore (i := 5) (l' := [some (.ref 65), some (.int (nI t)), some (.int w), some (.int y9), some (.int (nI n)), some (.int (nI row)), some (.int (nI a)), some (.int (nI (10 ^ n))), some (.int (nI row))]) d_R_fits_100 (xst_i (Nat.le_of_ble_eq_true rfl) rfl rfl) ?_
          obtain ⟨v7, ev7⟩ : ∃ y : Int32, y = nI a + 1 := ⟨_, rfl⟩
          refine V2_iinc (i := 6) (v := v7) (l' := [some (.ref 65), some (.int (nI t)), some (.int w), some (.int y9), some (.int (nI n)), some (.int (nI row)), some (.int v7), some (.int (nI (10 ^ n))), some (.int (nI row))]) d_R_fits_102 rfl (by rw [ev7]; rfl) (xst_i (Nat.le_of_ble_eq_true rfl) rfl rfl) ?_
          obtain ⟨v8, ev8⟩ : ∃ y : Int32, y = nI row + 1 := ⟨_, rfl⟩
          refine V2_iinc (i := 8) (v := v8) (l' := [some (.ref 65), some (.int (nI t)), some (.int w), some (.int y9), some (.int (nI n)), some (.int (nI row)), some (.int v7), some (.int (nI (10 ^ n))), some (.int v8)]) d_R_fits_105 rfl (by rw [ev8]; rfl) (xst_i (Nat.le_of_ble_eq_true rfl) rfl rfl) ?_
          refine V2_goto (tgt := 69) d_R_fits_108 rfl ?_
          have hc : cmN (fun k => F 76 (24 * t + k)) (PN S) n 0 row S := by
            rcases gc with ⟨_, gc⟩ | ⟨gb, _⟩
            · rw [e76] at gc
              exact gc
            · exfalso
              exact c2 gb
          have hz : a = 0 := (nI_eq (b := 0) (by omega) (by omega)).mp c4
          have ea : v7 = nI (a + 1) := by rw [ev7, nI_1]
          rw [ea, ev8, nI_1]
          refine V2.to (ih (row + 1) m (nI row) (a + 1) G2 (by omega) (by omega) (scrM.trans g1 g2) (by omega) ?_) rfl rfl rfl rfl
          rw [h3]
          show blk (procF (fun k => F 76 (24 * t + k)) n S) (row + 1) m (procF (fun k => F 76 (24 * t + k)) n S row (fs, a)) = _
          rw [pF_t hc]
          show blk _ _ _ ((if a = 0 then nI row else fs), a + 1) = _
          rw [if_pos hz]
theorem c_R_fits_end {L : Nat} {xs : Nat → Int32} {d : Nat} {Q : Option Value → xF → Prop} {F : xF} {F9 : xF} {t n : Nat} {w y9 : Int32} {s9 : Int32 × Nat} (h1 : 1 ≤ n) (hn : n ≤ 3) (hw1 : -1 ≤ w.toInt) (hw2 : w.toInt ≤ 2) (hfi : fitI n s9) (hs2 : s9.2 ≤ 1000) (hE : fitsA F9 n s9 w = (-1000000000 - 2, errF F9 2) → Q (some (.int (-1000000000 - 2))) (xp F 69 2 (F 69 2 + 1))) (hY : ∀ v, fitsA F9 n s9 w = (v, F9) → Q (some (.int v)) F)  : V2 L xs (d + 6) m_R_fits 111 ([some (.ref 65), some (.int (nI t)), some (.int w), some (.int y9), some (.int (nI n)), some (.int s9.1), some (.int (nI s9.2)), some (.int (nI (10 ^ n))), some (.int (nI (10 ^ n)))]) [] F Q := by
  have q0 : (0 : Int32).toInt = 0 := by decide
  have q2 : (2 : Int32).toInt = 2 := by decide
  have q3 : (3 : Int32).toInt = 3 := by decide
  have qm1 : (-1 : Int32).toInt = -1 := by decide
  have hp4 := p10 hn
  have nn : (nI n).toInt = (n : Int) := nI_toInt (by omega)
  have nf : s9.1.toInt = -1 ↔ s9.2 = 0 := by
    rcases hfi with ⟨h8, h9⟩ | ⟨h8, b, h9, h7⟩
    · rw [h9]
      exact ⟨fun _ => h8, fun _ => by decide⟩
    · have := nI_toInt (n := b) (by omega)
      rw [h9, this]
      exact ⟨fun h => by omega, fun h => by omega⟩
  refine V2_iload_n (i := 2) d_R_fits_111 rfl rfl ?_
  refine V2_iconst (v := -1) d_R_fits_112 rfl ?_
  refine V2_icmp_ne (tgt := 119) d_R_fits_113 rfl (fun c1 => ?_) (fun c1 => ?_)
  · refine V2_iload (i := 5) d_R_fits_119 rfl ?_
    refine V2_iconst (v := -1) d_R_fits_121 rfl ?_
    refine V2_icmp_eq (tgt := 131) d_R_fits_122 rfl (fun c2 => ?_) (fun c2 => ?_)
    · refine V2_aload_n (i := 0) d_R_fits_131 rfl rfl ?_
      refine V2_iconst (v := 2) d_R_fits_132 rfl ?_
      refine V2_callV [.int (2 : Int32)] d_R_fits_133 rfl rfl lk_R_55 mo_R_error (by decide) rfl rfl rfl (Nat.le_of_ble_eq_true rfl) (Nat.le_of_ble_eq_true rfl) ?_
      refine c_R_error2 ?_
      refine V2_topi (fun v3 ev3 => ?_)
      refine V2_goto (tgt := 147) d_R_fits_136 rfl ?_
      refine V2_ireturn d_R_fits_147 rfl ?_
      have hA : fitsA F9 n s9 w = (-1000000000 - 2, errF F9 2) := (if_neg (by (try clear hQ); (try subst ev3); ((try simp only [xb_eq, xb_ne, Int32.lt_iff_toInt_lt, Int32.le_iff_toInt_le] at *) <;> (try simp only [← Int32.toInt_inj, true_and, false_and, or_false, false_or, or_true, true_or, and_true, and_false] at *) <;> omega))).trans (if_pos (by (try clear hQ); (try subst ev3); ((try simp only [xb_eq, xb_ne, Int32.lt_iff_toInt_lt, Int32.le_iff_toInt_le] at *) <;> (try simp only [← Int32.toInt_inj, true_and, false_and, or_false, false_or, or_true, true_or, and_true, and_false] at *) <;> omega)))
      subst ev3
      exact hE hA
    · refine V2_iload_n (i := 2) d_R_fits_125 rfl rfl ?_
      refine V2_iload (i := 4) d_R_fits_126 rfl ?_
      refine V2_icmp_lt (tgt := 139) d_R_fits_128 rfl (fun c4 => ?_) (fun c4 => ?_)
      · have hA1 : ¬ w.toInt = -1 := (by (try clear hQ); (try skip); ((try simp only [xb_eq, xb_ne, Int32.lt_iff_toInt_lt, Int32.le_iff_toInt_le] at *) <;> (try simp only [← Int32.toInt_inj, true_and, false_and, or_false, false_or, or_true, true_or, and_true, and_false] at *) <;> omega))
        have hA2 : ¬ (s9.2 = 0 ∨ (n : Int) ≤ w.toInt) := (by (try clear hQ); (try skip); ((try simp only [xb_eq, xb_ne, Int32.lt_iff_toInt_lt, Int32.le_iff_toInt_le] at *) <;> (try simp only [← Int32.toInt_inj, true_and, false_and, or_false, false_or, or_true, true_or, and_true, and_false] at *) <;> omega))
        obtain ⟨b9, eb9, hb9⟩ : ∃ b, s9.1 = nI b ∧ b < 10 ^ n := by
          rcases hfi with ⟨_, h8⟩ | ⟨_, h8⟩
          · exact absurd h8 c2
          · exact h8
        obtain ⟨z, hz9, epz⟩ := in_of (x := w) (P := 3) (by (try clear hQ); (try skip); ((try simp only [xb_eq, xb_ne, Int32.lt_iff_toInt_lt, Int32.le_iff_toInt_le] at *) <;> (try simp only [← Int32.toInt_inj, true_and, false_and, or_false, false_or, or_true, true_or, and_true, and_false] at *) <;> omega)) (by (try clear hQ); (try skip); ((try simp only [xb_eq, xb_ne, Int32.lt_iff_toInt_lt, Int32.le_iff_toInt_le] at *) <;> (try simp only [← Int32.toInt_inj, true_and, false_and, or_false, false_or, or_true, true_or, and_true, and_false] at *) <;> omega)) (by omega)
        subst epz
        have nz : (nI z).toInt = (z : Int) := nI_toInt (by omega)
        have kz : (nI z).toNatClampNeg = z := nI_clamp (by omega)
        rw [eb9]
        refine V2_iload (i := 5) d_R_fits_139 rfl ?_
        refine V2_iload_n (i := 2) d_R_fits_141 rfl rfl ?_
        refine V2_iload (i := 4) d_R_fits_142 rfl ?_
        refine V2_callS [.int (nI b9), .int (nI z), .int (nI n)] d_R_fits_144 rfl rfl lk_R_197 mo_R_gasAt (Nat.le_of_ble_eq_true rfl) (Nat.le_of_ble_eq_true rfl) ?_
        refine c_R_gasAt (row := b9) (k := z) (n := n) (by omega) (by omega) (by omega) ?_
        refine V2_ireturn d_R_fits_147 rfl ?_
        have hA : fitsA F9 n s9 (nI z) = (nI (b9 / 10 ^ (n - 1 - z) % 10), F9) := by
          refine (if_neg hA1).trans ((if_neg hA2).trans ?_)
          rw [eb9, kz, nI_clamp (by omega)]
        skip
        exact hY _ hA
      · refine V2_aload_n (i := 0) d_R_fits_131 rfl rfl ?_
        refine V2_iconst (v := 2) d_R_fits_132 rfl ?_
        refine V2_callV [.int (2 : Int32)] d_R_fits_133 rfl rfl lk_R_55 mo_R_error (by decide) rfl rfl rfl (Nat.le_of_ble_eq_true rfl) (Nat.le_of_ble_eq_true rfl) ?_
        refine c_R_error2 ?_
        refine V2_topi (fun v5 ev5 => ?_)
        refine V2_goto (tgt := 147) d_R_fits_136 rfl ?_
        refine V2_ireturn d_R_fits_147 rfl ?_
        have hA : fitsA F9 n s9 w = (-1000000000 - 2, errF F9 2) := (if_neg (by (try clear hQ); (try subst ev5); ((try simp only [xb_eq, xb_ne, Int32.lt_iff_toInt_lt, Int32.le_iff_toInt_le] at *) <;> (try simp only [← Int32.toInt_inj, true_and, false_and, or_false, false_or, or_true, true_or, and_true, and_false] at *) <;> omega))).trans (if_pos (by (try clear hQ); (try subst ev5); ((try simp only [xb_eq, xb_ne, Int32.lt_iff_toInt_lt, Int32.le_iff_toInt_le] at *) <;> (try simp only [← Int32.toInt_inj, true_and, false_and, or_false, false_or, or_true, true_or, and_true, and_false] at *) <;> omega)))
        subst ev5
        exact hE hA
  · refine V2_iload (i := 6) d_R_fits_116 rfl ?_
    refine V2_ireturn d_R_fits_118 rfl ?_
    have hA : fitsA F9 n s9 w = (nI s9.2, F9) := if_pos (by (try clear hQ); (try skip); ((try simp only [xb_eq, xb_ne, Int32.lt_iff_toInt_lt, Int32.le_iff_toInt_le] at *) <;> (try simp only [← Int32.toInt_inj, true_and, false_and, or_false, false_or, or_true, true_or, and_true, and_false] at *) <;> omega))
    skip
    exact hY _ hA
set_option maxHeartbeats 4000000 in
theorem c_mod_fits {L : Nat} {xs : Nat → Int32} {d : Nat} {Q : Option Value → xF → Prop} {F : xF} {sh w : Int32} {F0 : xF} (hR : Rel F0) (hM : Mid F0 F (k_fits F0 sh w).2) (hQ : ∀ F2, Rel F2 → Q (some (.int (k_fits F0 sh w).1)) F2) : V2 L xs (d + 6) m_R_fits 0 (xEntry [.ref 65, .int sh, .int w] 9) [] F Q := by
  have q0 : (0 : Int32).toInt = 0 := by decide
  have q1 : (1 : Int32).toInt = 1 := by decide
  have q2 : (2 : Int32).toInt = 2 := by decide
  have q3 : (3 : Int32).toInt = 3 := by decide
  have q4 : (4 : Int32).toInt = 4 := by decide
  have q5 : (5 : Int32).toInt = 5 := by decide
  have q6 : (6 : Int32).toInt = 6 := by decide
  have q7 : (7 : Int32).toInt = 7 := by decide
  have q8 : (8 : Int32).toInt = 8 := by decide
  have q9 : (9 : Int32).toInt = 9 := by decide
  have q10 : (10 : Int32).toInt = 10 := by decide
  have q12 : (12 : Int32).toInt = 12 := by decide
  have q16 : (16 : Int32).toInt = 16 := by decide
  have q20 : (20 : Int32).toInt = 20 := by decide
  have q24 : (24 : Int32).toInt = 24 := by decide
  have q30 : (30 : Int32).toInt = 30 := by decide
  have q32 : (32 : Int32).toInt = 32 := by decide
  have q40 : (40 : Int32).toInt = 40 := by decide
  have q60 : (60 : Int32).toInt = 60 := by decide
  have q69 : (69 : Int32).toInt = 69 := by decide
  have q99 : (99 : Int32).toInt = 99 := by decide
  have q9999 : (9999 : Int32).toInt = 9999 := by decide
  have q274 : (274 : Int32).toInt = 274 := by decide
  have q334 : (334 : Int32).toInt = 334 := by decide
  obtain ⟨eP, hP6⟩ := inv_PN hR.2.1.2.2.1
  have nP : (F0 66 11).toInt = (PN (F0 66) : Int) := PN_int hR.2.1.2.2.1
  have e66 : F 66 = F0 66 := hM.1 66 (by decide)
  have e74 : F 74 = F0 74 := hM.1 74 (by decide)
  have e75 : F 75 = F0 75 := hM.1 75 (by decide)
  have e76 : F 76 = F0 76 := hM.1 76 (by decide)
  have qm1 : (-1 : Int32).toInt = -1 := by decide
  have e63 : F 65 5 = 63 := (congrFun (hM.1 65 (by decide)) 5).trans hR.2.2.2.1
  refine V2.to (l' := [some (.ref 65), some (.int sh), some (.int w), none, none, none, none, none, none]) ?_ rfl rfl rfl rfl
  refine V2_iload_n (i := 2) d_R_fits_0 rfl rfl ?_
  refine V2_iconst (v := -1) d_R_fits_1 rfl ?_
  refine V2_iconst (v := 2) d_R_fits_2 rfl ?_
  refine V2_callS [.int w, .int (-1 : Int32), .int (2 : Int32)] d_R_fits_3 rfl rfl lk_R_51 mo_R_in (Nat.le_of_ble_eq_true rfl) (Nat.le_of_ble_eq_true rfl) ?_
  refine c_R_in ?_
  refine V2_topi (fun v1 ev1 => ?_)
  refine V2_if_eq (tgt := 17) d_R_fits_6 rfl (fun c2 => ?_) (fun c2 => ?_)
  · refine V2_iconst (v := 1) d_R_fits_17 rfl ?_
    refine V2_istore_n (i := 3) (l' := [some (.ref 65), some (.int sh), some (.int w), some (.int (1 : Int32)), none, none, none, none, none]) d_R_fits_18 rfl (xst_i (Nat.le_of_ble_eq_true rfl) rfl rfl) ?_
    refine V2_iload_n (i := 3) d_R_fits_19 rfl rfl ?_
    refine V2_if_eq (tgt := 29) d_R_fits_20 rfl (fun c => (by first | exact absurd c (by decide) | exact absurd (by decide) c)) (fun _ => ?_)
    refine V2_aload_n (i := 0) d_R_fits_23 rfl rfl ?_
    refine V2_iload_n (i := 3) d_R_fits_24 rfl rfl ?_
    refine V2_callV [.int (1 : Int32)] d_R_fits_25 rfl rfl lk_R_55 mo_R_error (by decide) rfl rfl rfl (Nat.le_of_ble_eq_true rfl) (Nat.le_of_ble_eq_true rfl) ?_
    refine c_R_error1 ?_
    refine V2_topi (fun v3 ev3 => ?_)
    refine V2_ireturn d_R_fits_28 rfl ?_
    have hb0 : ¬ ((0 ≤ sh.toInt ∧ sh.toInt < 4) ∧ -1 ≤ w.toInt ∧ w.toInt ≤ 2) := (by (try clear hQ); (try subst ev3 ev1); ((try simp only [xb_eq, xb_ne, Int32.lt_iff_toInt_lt, Int32.le_iff_toInt_le] at *) <;> (try simp only [← Int32.toInt_inj, true_and, false_and, or_false, false_or, or_true, true_or, and_true, and_false] at *) <;> omega))
    have e : k_fits F0 sh w = (-1000000000 - 1, errF F0 1) := if_neg hb0
    rw [e] at hQ hM
    subst ev3 ev1
    exact xQi (hQ _ (rel_err hR hM)) rfl rfl
  · refine V2_aload_n (i := 0) d_R_fits_9 rfl rfl ?_
    refine V2_iload_n (i := 1) d_R_fits_10 rfl rfl ?_
    refine V2_callV [.int sh] d_R_fits_11 rfl rfl lk_R_218 mo_R_lacks (by decide) rfl rfl rfl (Nat.le_of_ble_eq_true rfl) (Nat.le_of_ble_eq_true rfl) ?_
    refine V2.to (l' := [some (.ref 65), some (.int sh)]) ?_ rfl rfl rfl rfl
    refine V2_iload_n (i := 1) d_R_lacks_0 rfl rfl ?_
    refine V2_callS [.int sh] d_R_lacks_1 rfl rfl lk_R_258 mo_R_isSheet (Nat.le_of_ble_eq_true rfl) (Nat.le_of_ble_eq_true rfl) ?_
    refine c_R_isSheet ?_
    refine V2_topi (fun v4 ev4 => ?_)
    refine V2_if_ne (tgt := 11) d_R_lacks_4 rfl (fun c5 => ?_) (fun c5 => ?_)
    · obtain ⟨t, ht, ept⟩ := in_of (x := sh) (P := 4) (by (try clear hQ); (try subst ev4 ev1); ((try simp only [xb_eq, xb_ne, Int32.lt_iff_toInt_lt, Int32.le_iff_toInt_le] at *) <;> (try simp only [← Int32.toInt_inj, true_and, false_and, or_false, false_or, or_true, true_or, and_true, and_false] at *) <;> omega)) (by (try clear hQ); (try subst ev4 ev1); ((try simp only [xb_eq, xb_ne, Int32.lt_iff_toInt_lt, Int32.le_iff_toInt_le] at *) <;> (try simp only [← Int32.toInt_inj, true_and, false_and, or_false, false_or, or_true, true_or, and_true, and_false] at *) <;> omega)) (by omega)
      subst ept
      have nt : (nI t).toInt = (t : Int) := nI_toInt (by omega)
      have kt : (nI t).toNatClampNeg = t := nI_clamp (by omega)
      obtain ⟨N, hN, eN, nN, e2, eb, hb⟩ := inv_sz hR ht
      have e74t := congrFun e74 t
      have e75t := congrFun e75 t
      refine V2_aload_n (i := 0) d_R_lacks_11 rfl rfl ?_
      refine V2_getr (a := 74) d_R_lacks_12 fl_R_38 (by decide) rfl (by decide) rfl ?_
      refine V2_iload_n (i := 1) d_R_lacks_15 rfl rfl ?_
      refine V2_ialoadJ (t) d_R_lacks_16 (by decide) rfl (xixA (n := t) rfl (by omega) (by decide)) (xixB (n := t) rfl (by omega)) rfl ?_
      refine V2_topi (fun v6 ev6 => ?_)
      refine V2_if_ne (tgt := 24) d_R_lacks_17 rfl (fun c7 => ?_) (fun c7 => ?_)
      · refine V2_iconst (v := 0) d_R_lacks_24 rfl ?_
        refine V2_ireturn d_R_lacks_25 rfl ?_
        refine V2.to (st' := [.int (0 : Int32)]) ?_ rfl rfl rfl rfl
        refine V2_goto (tgt := 18) d_R_fits_14 rfl ?_
        refine V2_istore_n (i := 3) (l' := [some (.ref 65), some (.int (nI t)), some (.int w), some (.int (0 : Int32)), none, none, none, none, none]) d_R_fits_18 rfl (xst_i (Nat.le_of_ble_eq_true rfl) rfl rfl) ?_
        refine V2_iload_n (i := 3) d_R_fits_19 rfl rfl ?_
        refine V2_if_eq (tgt := 29) d_R_fits_20 rfl (fun _ => ?_) (fun c => (by first | exact absurd c (by decide) | exact absurd (by decide) c))
        refine V2_aload_n (i := 0) d_R_fits_29 rfl rfl ?_
        refine V2_getr (a := 75) d_R_fits_30 fl_R_41 (by decide) rfl (by decide) rfl ?_
        refine V2_iload_n (i := 1) d_R_fits_33 rfl rfl ?_
        refine V2_ialoadJ (t) d_R_fits_34 (by decide) rfl (xixA (n := t) rfl (by omega) (by decide)) (xixB (n := t) rfl (by omega)) rfl ?_
        refine V2_topi (fun v8 ev8 => ?_)
        refine V2_istore (i := 4) (l' := [some (.ref 65), some (.int (nI t)), some (.int w), some (.int (0 : Int32)), some (.int v8), none, none, none, none]) d_R_fits_35 (xst_i (Nat.le_of_ble_eq_true rfl) rfl rfl) ?_
        refine V2_iload (i := 4) d_R_fits_37 rfl ?_
        refine V2_iconst (v := 1) d_R_fits_39 rfl ?_
        refine V2_iconst (v := 3) d_R_fits_40 rfl ?_
        refine V2_callS [.int v8, .int (1 : Int32), .int (3 : Int32)] d_R_fits_41 rfl rfl lk_R_51 mo_R_in (Nat.le_of_ble_eq_true rfl) (Nat.le_of_ble_eq_true rfl) ?_
        refine c_R_in ?_
        refine V2_topi (fun v9 ev9 => ?_)
        refine V2_if_ne (tgt := 53) d_R_fits_44 rfl (fun c10 => ?_) (fun c10 => ?_)
        · have hN3 : 1 ≤ N ∧ N ≤ 3 := (by (try clear hQ); (try subst ev9 ev8 ev6 ev4 ev1); ((try simp only [xb_eq, xb_ne, Int32.lt_iff_toInt_lt, Int32.le_iff_toInt_le] at *) <;> (try simp only [← Int32.toInt_inj, true_and, false_and, or_false, false_or, or_true, true_or, and_true, and_false] at *) <;> omega))
          have evN9 : v8 = nI N := by subst ev9 ev8 ev6 ev4 ev1; exact e75t.trans eN
          have hz : ¬ ((F0 74 t).toInt = 0 ∨ (F0 75 t).toInt < 1 ∨ 3 < (F0 75 t).toInt) := (by (try clear hQ); (try subst ev9 ev8 ev6 ev4 ev1); ((try simp only [xb_eq, xb_ne, Int32.lt_iff_toInt_lt, Int32.le_iff_toInt_le] at *) <;> (try simp only [← Int32.toInt_inj, true_and, false_and, or_false, false_or, or_true, true_or, and_true, and_false] at *) <;> omega))
          have hb0 : (0 ≤ (nI t).toInt ∧ (nI t).toInt < 4) ∧ -1 ≤ w.toInt ∧ w.toInt ≤ 2 := (by (try clear hQ); (try subst ev9 ev8 ev6 ev4 ev1); ((try simp only [xb_eq, xb_ne, Int32.lt_iff_toInt_lt, Int32.le_iff_toInt_le] at *) <;> (try simp only [← Int32.toInt_inj, true_and, false_and, or_false, false_or, or_true, true_or, and_true, and_false] at *) <;> omega))
          have e : k_fits F0 (nI t) w = fitsA F0 (F0 75 t).toNatClampNeg (fitS F0 t (F0 75 t).toNatClampNeg) w := (if_pos hb0).trans (by rw [kt]; exact if_neg hz)
          rw [e] at hQ hM
          rw [eN, nI_clamp (show N < 2 ^ 31 by omega)] at hQ hM
          rw [evN9]
          refine V2_iconst (v := -1) d_R_fits_53 rfl ?_
          refine V2_istore (i := 5) (l' := [some (.ref 65), some (.int (nI t)), some (.int w), some (.int (0 : Int32)), some (.int (nI N)), some (.int (-1 : Int32)), none, none, none]) d_R_fits_54 (xst_i (Nat.le_of_ble_eq_true rfl) rfl rfl) ?_
          refine V2_iconst (v := 0) d_R_fits_56 rfl ?_
          refine V2_istore (i := 6) (l' := [some (.ref 65), some (.int (nI t)), some (.int w), some (.int (0 : Int32)), some (.int (nI N)), some (.int (-1 : Int32)), some (.int (0 : Int32)), none, none]) d_R_fits_57 (xst_i (Nat.le_of_ble_eq_true rfl) rfl rfl) ?_
          refine V2_iload (i := 4) d_R_fits_59 rfl ?_
          refine V2_callS [.int (nI N)] d_R_fits_61 rfl rfl lk_R_194 mo_R_tens (Nat.le_of_ble_eq_true rfl) (Nat.le_of_ble_eq_true rfl) ?_
          refine c_R_tens (m := N) (by omega) ?_
          refine V2_istore (i := 7) (l' := [some (.ref 65), some (.int (nI t)), some (.int w), some (.int (0 : Int32)), some (.int (nI N)), some (.int (-1 : Int32)), some (.int (0 : Int32)), some (.int (nI (10 ^ N))), none]) d_R_fits_64 (xst_i (Nat.le_of_ble_eq_true rfl) rfl rfl) ?_
          refine V2_iconst (v := 0) d_R_fits_66 rfl ?_
          refine V2_istore (i := 8) (l' := [some (.ref 65), some (.int (nI t)), some (.int w), some (.int (0 : Int32)), some (.int (nI N)), some (.int (-1 : Int32)), some (.int (0 : Int32)), some (.int (nI (10 ^ N))), some (.int (0 : Int32))]) d_R_fits_67 (xst_i (Nat.le_of_ble_eq_true rfl) rfl rfl) ?_
          have hfi := fitS_i F0 t N
          have hp10 := p10 (n := N) hN3.2
          have efs : fitS F0 t N = blk (procF (fun k => F 76 (24 * t + k)) N (F0 66)) 0 (10 ^ N) (-1, 0) := by
            rw [e76]
            rfl
          exact V2.to (c_R_fits_loop (F := F) (S := F0 66) (t := t) (n := N) (w := w) (y9 := (0 : Int32)) (s9 := fitS F0 t N) hR.2.1 e66 e63 ht hN3.2 (fun G g1 => c_R_fits_end (F9 := F0) hN3.1 hN3.2 hb0.2.1 hb0.2.2 hfi.1 (by omega) (fun hA => by
            rw [hA] at hQ hM
            exact hQ _ (rel_scr_err hR hM g1)) (fun v hA => by
            rw [hA] at hQ hM
            exact hQ _ (rel_scr hR hM g1))) (10 ^ N + 1) 0 (10 ^ N) (-1) 0 F (by omega) (by omega) (scrM.refl F) (Nat.le_refl 0) efs) rfl rfl rfl rfl
        · refine V2_aload_n (i := 0) d_R_fits_47 rfl rfl ?_
          refine V2_iconst (v := 2) d_R_fits_48 rfl ?_
          refine V2_callV [.int (2 : Int32)] d_R_fits_49 rfl rfl lk_R_55 mo_R_error (by decide) rfl rfl rfl (Nat.le_of_ble_eq_true rfl) (Nat.le_of_ble_eq_true rfl) ?_
          refine c_R_error2 ?_
          refine V2_topi (fun v11 ev11 => ?_)
          refine V2_ireturn d_R_fits_52 rfl ?_
          have hz : (F0 74 t).toInt = 0 ∨ (F0 75 t).toInt < 1 ∨ 3 < (F0 75 t).toInt := (by (try clear hQ); (try subst ev11 ev9 ev8 ev6 ev4 ev1); ((try simp only [xb_eq, xb_ne, Int32.lt_iff_toInt_lt, Int32.le_iff_toInt_le] at *) <;> (try simp only [← Int32.toInt_inj, true_and, false_and, or_false, false_or, or_true, true_or, and_true, and_false] at *) <;> omega))
          have hb0 : (0 ≤ (nI t).toInt ∧ (nI t).toInt < 4) ∧ -1 ≤ w.toInt ∧ w.toInt ≤ 2 := (by (try clear hQ); (try subst ev11 ev9 ev8 ev6 ev4 ev1); ((try simp only [xb_eq, xb_ne, Int32.lt_iff_toInt_lt, Int32.le_iff_toInt_le] at *) <;> (try simp only [← Int32.toInt_inj, true_and, false_and, or_false, false_or, or_true, true_or, and_true, and_false] at *) <;> omega))
          have e : k_fits F0 (nI t) w = (-1000000000 - 2, errF F0 2) := (if_pos hb0).trans (by rw [kt]; exact if_pos hz)
          rw [e] at hQ hM
          subst ev11 ev9 ev8 ev6 ev4 ev1
          exact xQi (hQ _ (rel_err hR hM)) rfl rfl
      · refine V2_iconst (v := 2) d_R_lacks_20 rfl ?_
        refine V2_goto (tgt := 25) d_R_lacks_21 rfl ?_
        refine V2_ireturn d_R_lacks_25 rfl ?_
        refine V2.to (st' := [.int (2 : Int32)]) ?_ rfl rfl rfl rfl
        refine V2_goto (tgt := 18) d_R_fits_14 rfl ?_
        refine V2_istore_n (i := 3) (l' := [some (.ref 65), some (.int (nI t)), some (.int w), some (.int (2 : Int32)), none, none, none, none, none]) d_R_fits_18 rfl (xst_i (Nat.le_of_ble_eq_true rfl) rfl rfl) ?_
        refine V2_iload_n (i := 3) d_R_fits_19 rfl rfl ?_
        refine V2_if_eq (tgt := 29) d_R_fits_20 rfl (fun c => (by first | exact absurd c (by decide) | exact absurd (by decide) c)) (fun _ => ?_)
        refine V2_aload_n (i := 0) d_R_fits_23 rfl rfl ?_
        refine V2_iload_n (i := 3) d_R_fits_24 rfl rfl ?_
        refine V2_callV [.int (2 : Int32)] d_R_fits_25 rfl rfl lk_R_55 mo_R_error (by decide) rfl rfl rfl (Nat.le_of_ble_eq_true rfl) (Nat.le_of_ble_eq_true rfl) ?_
        refine c_R_error2 ?_
        refine V2_topi (fun v12 ev12 => ?_)
        refine V2_ireturn d_R_fits_28 rfl ?_
        have hz : (F0 74 t).toInt = 0 ∨ (F0 75 t).toInt < 1 ∨ 3 < (F0 75 t).toInt := (by (try clear hQ); (try subst ev12 ev6 ev4 ev1); ((try simp only [xb_eq, xb_ne, Int32.lt_iff_toInt_lt, Int32.le_iff_toInt_le] at *) <;> (try simp only [← Int32.toInt_inj, true_and, false_and, or_false, false_or, or_true, true_or, and_true, and_false] at *) <;> omega))
        have hb0 : (0 ≤ (nI t).toInt ∧ (nI t).toInt < 4) ∧ -1 ≤ w.toInt ∧ w.toInt ≤ 2 := (by (try clear hQ); (try subst ev12 ev6 ev4 ev1); ((try simp only [xb_eq, xb_ne, Int32.lt_iff_toInt_lt, Int32.le_iff_toInt_le] at *) <;> (try simp only [← Int32.toInt_inj, true_and, false_and, or_false, false_or, or_true, true_or, and_true, and_false] at *) <;> omega))
        have e : k_fits F0 (nI t) w = (-1000000000 - 2, errF F0 2) := (if_pos hb0).trans (by rw [kt]; exact if_pos hz)
        rw [e] at hQ hM
        subst ev12 ev6 ev4 ev1
        exact xQi (hQ _ (rel_err hR hM)) rfl rfl
    · refine V2_iconst (v := 1) d_R_lacks_7 rfl ?_
      refine V2_goto (tgt := 25) d_R_lacks_8 rfl ?_
      refine V2_ireturn d_R_lacks_25 rfl ?_
      refine V2.to (st' := [.int (1 : Int32)]) ?_ rfl rfl rfl rfl
      refine V2_goto (tgt := 18) d_R_fits_14 rfl ?_
      refine V2_istore_n (i := 3) (l' := [some (.ref 65), some (.int sh), some (.int w), some (.int (1 : Int32)), none, none, none, none, none]) d_R_fits_18 rfl (xst_i (Nat.le_of_ble_eq_true rfl) rfl rfl) ?_
      refine V2_iload_n (i := 3) d_R_fits_19 rfl rfl ?_
      refine V2_if_eq (tgt := 29) d_R_fits_20 rfl (fun c => (by first | exact absurd c (by decide) | exact absurd (by decide) c)) (fun _ => ?_)
      refine V2_aload_n (i := 0) d_R_fits_23 rfl rfl ?_
      refine V2_iload_n (i := 3) d_R_fits_24 rfl rfl ?_
      refine V2_callV [.int (1 : Int32)] d_R_fits_25 rfl rfl lk_R_55 mo_R_error (by decide) rfl rfl rfl (Nat.le_of_ble_eq_true rfl) (Nat.le_of_ble_eq_true rfl) ?_
      refine c_R_error1 ?_
      refine V2_topi (fun v13 ev13 => ?_)
      refine V2_ireturn d_R_fits_28 rfl ?_
      have hb0 : ¬ ((0 ≤ sh.toInt ∧ sh.toInt < 4) ∧ -1 ≤ w.toInt ∧ w.toInt ≤ 2) := (by (try clear hQ); (try subst ev13 ev4 ev1); ((try simp only [xb_eq, xb_ne, Int32.lt_iff_toInt_lt, Int32.le_iff_toInt_le] at *) <;> (try simp only [← Int32.toInt_inj, true_and, false_and, or_false, false_or, or_true, true_or, and_true, and_false] at *) <;> omega))
      have e : k_fits F0 sh w = (-1000000000 - 1, errF F0 1) := if_neg hb0
      rw [e] at hQ hM
      subst ev13 ev4 ev1
      exact xQi (hQ _ (rel_err hR hM)) rfl rfl
