/-! rows of gases: the model -/
theorem nI_mul {a b : Nat} : nI a * nI b = nI (a * b) := by
  simp only [nI, Int32.ofNat_mul]
theorem nI_subn {a b : Nat} (h : b ≤ a) (ha : a ≤ 1000000) : nI a - nI b = nI (a - b) := by
  refine Int32.toInt_inj.mp ?_
  have e1 := nI_toInt (n := a) (by omega)
  have e2 := nI_toInt (n := b) (by omega)
  have e3 := nI_toInt (n := a - b) (by omega)
  rw [toI_sub (by omega) (by omega) (by omega) (by omega), e1, e2, e3]
  omega
theorem nI_divn {a b : Nat} (ha : a ≤ 1000000) (hb : b ≤ 1000000) : nI a / nI b = nI (a / b) := by
  refine Int32.toInt_inj.mp ?_
  have e1 := nI_toInt (n := a) (by omega)
  have e2 := nI_toInt (n := b) (by omega)
  have e3 := nI_toInt (n := a / b) (by have := Nat.div_le_self a b; omega)
  have hne : nI b ≠ -1 := by
    intro h
    rw [h] at e2
    have qm : (-1 : Int32).toInt = -1 := by decide
    omega
  rw [Int32.toInt_div_of_ne_right _ _ hne, e1, e2, e3]
  exact (Int.ofNat_tdiv a b).symm
theorem nI_modn {a b : Nat} (ha : a ≤ 1000000) (hb : b ≤ 1000000) : nI a % nI b = nI (a % b) := by
  refine Int32.toInt_inj.mp ?_
  have e1 := nI_toInt (n := a) (by omega)
  have e2 := nI_toInt (n := b) (by omega)
  have e3 := nI_toInt (n := a % b) (by have := Nat.mod_le a b; omega)
  rw [Int32.toInt_mod, e1, e2, e3]
  exact (Int.ofNat_tmod a b).symm
theorem pow4 {n : Nat} (h : n ≤ 4) : 10 ^ n ≤ 10000 := by
  rcases (show n = 0 ∨ n = 1 ∨ n = 2 ∨ n = 3 ∨ n = 4 by omega) with h | h | h | h | h <;> subst h <;> decide
/-- f over m numbers from a on -/
def blk {α : Type} (f : Nat → α → α) : Nat → Nat → α → α
  | _, 0, s => s
  | a, m + 1, s => blk f (a + 1) m (f a s)
theorem blk_add {α : Type} (f : Nat → α → α) : ∀ (m k a : Nat) (s : α), blk f a (m + k) s = blk f (a + m) k (blk f a m s) := by
  intro m
  induction m with
  | zero => intro k a s; rw [Nat.zero_add]; rfl
  | succ m ih =>
    intro k a s
    rw [show m + 1 + k = (m + k) + 1 by omega]
    show blk f (a + 1) (m + k) (f a s) = blk f (a + (m + 1)) k (blk f (a + 1) m (f a s))
    rw [ih k (a + 1) (f a s), show a + 1 + m = a + (m + 1) by omega]
theorem blk_id {α : Type} (f : Nat → α → α) : ∀ (m a : Nat) (s : α), (∀ i, a ≤ i → i < a + m → f i s = s) → blk f a m s = s := by
  intro m
  induction m with
  | zero => intro a s _; rfl
  | succ m ih =>
    intro a s h
    show blk f (a + 1) m (f a s) = s
    rw [h a (Nat.le_refl a) (by omega)]
    exact ih (a + 1) s (fun i h1 h2 => h i (by omega) (by omega))
theorem blk_1 {α : Type} (f : Nat → α → α) (a : Nat) (s : α) : blk f a 1 s = f a s := rfl
/-- the first does it, the others change nothing -/
theorem blk_first {α : Type} (f : Nat → α → α) {m a : Nat} {s s2 : α} (hm : 0 < m) (h : f a s = s2) (h2 : ∀ i, a < i → i < a + m → f i s2 = s2) : blk f a m s = s2 := by
  obtain ⟨m, rfl⟩ : ∃ k, m = k + 1 := ⟨m - 1, by omega⟩
  show blk f (a + 1) m (f a s) = s2
  rw [h]
  exact blk_id f m (a + 1) s2 (fun i h1 h3 => h2 i (by omega) (by omega))
/-- r gases, told by the digits of q: behind how many it is out, and the row then -/
noncomputable def trN (P : Nat) : Nat → Nat → (Nat → Int32) → Option Nat × (Nat → Int32)
  | 0, _, T => if T 5 = 1 then (some 0, T) else (none, T)
  | r + 1, q, T => if T 5 = 1 then (some 0, T) else ((trN P r (q % 10 ^ r) (goS T (nI (q / 10 ^ r)) 63 P)).1.map (fun j => j + 1), (trN P r (q % 10 ^ r) (goS T (nI (q / 10 ^ r)) 63 P)).2)
theorem tr_1 {P r q : Nat} {T : Nat → Int32} (h : T 5 = 1) : trN P r q T = (some 0, T) := by
  cases r with
  | zero => exact if_pos h
  | succ r => exact if_pos h
theorem tr_0 {P q : Nat} {T : Nat → Int32} (h : ¬ T 5 = 1) : trN P 0 q T = (none, T) := if_neg h
theorem tr_s {P r q : Nat} {T : Nat → Int32} (h : ¬ T 5 = 1) : trN P (r + 1) q T = ((trN P r (q % 10 ^ r) (goS T (nI (q / 10 ^ r)) 63 P)).1.map (fun j => j + 1), (trN P r (q % 10 ^ r) (goS T (nI (q / 10 ^ r)) 63 P)).2) := if_neg h
theorem dig_q (row r : Nat) : row % 10 ^ (r + 1) / 10 ^ r = row / 10 ^ r % 10 ∧ row % 10 ^ (r + 1) % 10 ^ r = row % 10 ^ r := by
  rw [Nat.pow_succ]
  exact ⟨Nat.mod_mul_right_div_self _ _ _, Nat.mod_mod_of_dvd _ (Nat.dvd_mul_right _ _)⟩
def obR (t : Option Nat × (Nat → Int32)) : Nat := t.1.getD 0
def abR (t : Option Nat × (Nat → Int32)) : Int32 := t.2 2 - t.2 0
theorem c_R_tens_loop {L : Nat} {xs : Nat → Int32} {d : Nat} {Q : Option Value → xF → Prop} {F : xF} {m : Nat} (hm : m ≤ 4) : ∀ (n_ : Nat) (k : Nat), k ≤ m → m < n_ + k → (Q (some (.int (nI (10 ^ m)))) F) → V2 L xs d m_R_tens 4 [some (.int (nI m)), some (.int (nI (10 ^ k))), some (.int (nI k))] [] F Q := by
  intro n_
  induction n_ with
  | zero => exact fun k h1 h2 => absurd h2 (by omega)
  | succ n_ ih =>
    intro k h1 h2 hQ
    refine V2_iload_n (i := 2) d_R_tens_4 rfl rfl ?_
    refine V2_iload_n (i := 0) d_R_tens_5 rfl rfl ?_
    refine V2_icmp_ge (tgt := 20) d_R_tens_6 rfl (fun c1 => ?_) (fun c1 => ?_)
    · refine V2_iload_n (i := 1) d_R_tens_20 rfl rfl ?_
      refine V2_ireturn d_R_tens_21 rfl ?_
      have hk : k = m := Nat.le_antisymm h1 ((nI_leI (by omega) (by omega)).mp c1)
      subst hk
      exact hQ
    · have hk : k < m := Nat.not_le.mp (fun hh => c1 ((nI_leI (by omega) (by omega)).mpr hh))
      refine V2_iload_n (i := 1) d_R_tens_9 rfl rfl ?_
      refine V2_bipush (v := 10) d_R_tens_10 rfl ?_
      refine V2_imul d_R_tens_12 ?_
      refine V2_topi (fun v2 ev2 => ?_)
      refine V2_istore_n (i := 1) (l' := [some (.int (nI m)), some (.int v2), some (.int (nI k))]) d_R_tens_13 rfl (xst_i (Nat.le_of_ble_eq_true rfl) rfl rfl) ?_
      obtain ⟨v3, ev3⟩ : ∃ y : Int32, y = nI k + 1 := ⟨_, rfl⟩
      refine V2_iinc (i := 2) (v := v3) (l' := [some (.int (nI m)), some (.int v2), some (.int v3)]) d_R_tens_14 rfl (by rw [ev3]; rfl) (xst_i (Nat.le_of_ble_eq_true rfl) rfl rfl) ?_
      refine V2_goto (tgt := 4) d_R_tens_17 rfl ?_
      have ea : v2 = nI (10 ^ (k + 1)) := by
        subst ev3 ev2
        rw [Nat.pow_succ]
        exact nI_mul
      rw [ea, ev3, nI_1]
      exact V2.to (ih (k + 1) (by omega) (by omega) hQ) rfl rfl rfl rfl
theorem c_R_tens {L : Nat} {xs : Nat → Int32} {d : Nat} {Q : Option Value → xF → Prop} {F : xF} {m : Nat} (hm : m ≤ 4) (hQ : Q (some (.int (nI (10 ^ m)))) F) : V2 L xs d m_R_tens 0 (xEntry [.int (nI m)] 3) [] F Q := by
  refine V2.to (l' := [some (.int (nI m)), none, none]) ?_ rfl rfl rfl rfl
  refine V2_iconst (v := 1) d_R_tens_0 rfl ?_
  refine V2_istore_n (i := 1) (l' := [some (.int (nI m)), some (.int (1 : Int32)), none]) d_R_tens_1 rfl (xst_i (Nat.le_of_ble_eq_true rfl) rfl rfl) ?_
  refine V2_iconst (v := 0) d_R_tens_2 rfl ?_
  refine V2_istore_n (i := 2) (l' := [some (.int (nI m)), some (.int (1 : Int32)), some (.int (0 : Int32))]) d_R_tens_3 rfl (xst_i (Nat.le_of_ble_eq_true rfl) rfl rfl) ?_
  exact V2.to (c_R_tens_loop hm (m + 1) 0 (by omega) (by omega) hQ) rfl rfl rfl rfl
theorem c_R_gasAt {L : Nat} {xs : Nat → Int32} {d : Nat} {Q : Option Value → xF → Prop} {F : xF} {row k n : Nat} (hk : k < n) (hn : n ≤ 4) (hrow : row ≤ 10000) (hQ : Q (some (.int (nI (row / 10 ^ (n - 1 - k) % 10)))) F) : V2 L xs (d + 1) m_R_gasAt 0 (xEntry [.int (nI row), .int (nI k), .int (nI n)] 3) [] F Q := by
  refine V2.to (l' := [some (.int (nI row)), some (.int (nI k)), some (.int (nI n))]) ?_ rfl rfl rfl rfl
  refine V2_iload_n (i := 0) d_R_gasAt_0 rfl rfl ?_
  refine V2_iload_n (i := 2) d_R_gasAt_1 rfl rfl ?_
  refine V2_iconst (v := 1) d_R_gasAt_2 rfl ?_
  refine V2_isub d_R_gasAt_3 ?_
  refine V2_topi (fun v1 ev1 => ?_)
  refine V2_iload_n (i := 1) d_R_gasAt_4 rfl rfl ?_
  refine V2_isub d_R_gasAt_5 ?_
  refine V2_topi (fun v2 ev2 => ?_)
  refine V2_callS [.int v2] d_R_gasAt_6 rfl rfl lk_R_194 mo_R_tens (Nat.le_of_ble_eq_true rfl) (Nat.le_of_ble_eq_true rfl) ?_
  have ei : v2 = nI (n - 1 - k) := by
    subst ev2 ev1
    rw [show (1 : Int32) = nI 1 from rfl, nI_subn (by omega) (by omega), nI_subn (by omega) (by omega)]
  rw [ei]
  refine c_R_tens (by omega) ?_
  refine V2_idiv d_R_gasAt_9 (nI_ne0 (Nat.pos_of_ne_zero (by exact Nat.pos_iff_ne_zero.mp (Nat.pow_pos (by decide)))) (by have := pow4 (n := n - 1 - k) (by omega); omega)) ?_
  refine V2_topi (fun v3 ev3 => ?_)
  refine V2_bipush (v := 10) d_R_gasAt_10 rfl ?_
  refine V2_iremM d_R_gasAt_12 (by decide) ?_
  refine V2_topi (fun v4 ev4 => ?_)
  refine V2_ireturn d_R_gasAt_13 rfl ?_
  exact xQi hQ (by subst ev4 ev3 ev2 ev1; rw [nI_divn (by omega) (by have := pow4 (n := n - 1 - k) (by omega); omega), show (10 : Int32) = nI 10 from rfl, nI_modn (by have := Nat.div_le_self row (10 ^ (n - 1 - k)); omega) (by omega)]) rfl
theorem c_R_tries_loop {L : Nat} {xs : Nat → Int32} {d : Nat} {Q : Option Value → xF → Prop} {F : xF} {S : Nat → Int32} {row n : Nat} (hi : invS S) (e65 : F 65 5 = 63) (hn : n ≤ 4) (hrow : row ≤ 10000) : ∀ (n_ : Nat) (k r : Nat) (G : xF), k + r = n → r < n_ → rowM F G → like (G 66) S → (∀ (k2 : Nat) (G2 : xF), rowM F G2 → like (G2 66) S → k ≤ k2 → k2 ≤ n → trN (PN S) r (row % 10 ^ r) (G 66) = ((if G2 66 5 = 1 then some (k2 - k) else none), G2 66) → V2 L xs (d + 5) m_R_triesRow 36 [some (.ref 65), some (.int (nI row)), some (.int (nI n)), some (.int (nI k2)), none] [] G2 Q) → V2 L xs (d + 5) m_R_triesRow 6 [some (.ref 65), some (.int (nI row)), some (.int (nI n)), some (.int (nI k)), none] [] G Q := by
  intro n_
  induction n_ with
  | zero => exact fun k r G h1 h2 => absurd h2 (by omega)
  | succ n_ ih =>
    intro k r G h1 h2 g1 hT hK
    refine V2_iload_n (i := 3) d_R_triesRow_6 rfl rfl ?_
    refine V2_iload_n (i := 2) d_R_triesRow_7 rfl rfl ?_
    refine V2_icmp_ge (tgt := 36) d_R_triesRow_8 rfl (fun c1 => ?_) (fun c1 => ?_)
    · have hr : r = 0 := by
        have := (nI_leI (by omega) (by omega)).mp c1
        omega
      subst hr
      refine V2.weak (l' := [some (.ref 65), some (.int (nI row)), some (.int (nI n)), some (.int (nI k)), none]) ?_ ⟨rfl, rfl, rfl, rfl, trivial⟩
      by_cases h5 : G 66 5 = 1
      · exact V2.to (hK k G g1 hT (Nat.le_refl k) (by omega) (by rw [tr_1 h5, if_pos h5, Nat.sub_self])) rfl rfl rfl rfl
      · exact V2.to (hK k G g1 hT (Nat.le_refl k) (by omega) (by rw [tr_0 h5, if_neg h5])) rfl rfl rfl rfl
    · have hkw : k < n := Nat.not_le.mp (fun hh => c1 ((nI_leI (by omega) (by omega)).mpr hh))
      obtain ⟨r, rfl⟩ : ∃ m2, r = m2 + 1 := ⟨r - 1, by omega⟩
      refine V2_aload_n (i := 0) d_R_triesRow_11 rfl rfl ?_
      refine V2_callV [] d_R_triesRow_12 rfl rfl lk_R_152 mo_R_isOut (by decide) rfl rfl rfl (Nat.le_of_ble_eq_true rfl) (Nat.le_of_ble_eq_true rfl) ?_
      refine c_R_isOut ?_
      refine V2_topi (fun v2 ev2 => ?_)
      refine V2_if_ne (tgt := 36) d_R_triesRow_15 rfl (fun c3 => ?_) (fun c3 => ?_)
      · refine V2.weak (l' := [some (.ref 65), some (.int (nI row)), some (.int (nI n)), some (.int (nI k)), none]) ?_ ⟨rfl, rfl, rfl, rfl, trivial⟩
        have h5 : G 66 5 = 1 := xb_ne.mp (by have h8 := c3; subst ev2; exact h8)
        exact V2.to (hK k G g1 hT (Nat.le_refl k) (by omega) (by rw [tr_1 h5, if_pos h5, Nat.sub_self])) rfl rfl rfl rfl
      · have h5 : ¬ G 66 5 = 1 := xb_eq.mp (by have h8 := c3; subst ev2; exact h8)
        refine V2_aload_n (i := 0) d_R_triesRow_18 rfl rfl ?_
        refine V2_iload_n (i := 1) d_R_triesRow_19 rfl rfl ?_
        refine V2_iload_n (i := 3) d_R_triesRow_20 rfl rfl ?_
        refine V2_iload_n (i := 2) d_R_triesRow_21 rfl rfl ?_
        refine V2_callS [.int (nI row), .int (nI k), .int (nI n)] d_R_triesRow_22 rfl rfl lk_R_197 mo_R_gasAt (Nat.le_of_ble_eq_true rfl) (Nat.le_of_ble_eq_true rfl) ?_
        refine c_R_gasAt (row := row) (k := k) (n := n) (by omega) hn hrow ?_
        refine V2_callV [.int (nI (row / 10 ^ (n - 1 - k) % 10))] d_R_triesRow_25 rfl rfl lk_R_155 mo_R_goes (by decide) rfl rfl rfl (Nat.le_of_ble_eq_true rfl) (Nat.le_of_ble_eq_true rfl) ?_
        refine c_goesM hi hT (fun G2 h1_ h2_ => ?_)
        refine V2_topi (fun v4 ev4 => ?_)
        refine V2_istore (i := 4) (l' := [some (.ref 65), some (.int (nI row)), some (.int (nI n)), some (.int (nI k)), some (.int v4)]) d_R_triesRow_28 (xst_i (Nat.le_of_ble_eq_true rfl) rfl rfl) ?_
        obtain ⟨v5, ev5⟩ : ∃ y : Int32, y = nI k + 1 := ⟨_, rfl⟩
        refine V2_iinc (i := 3) (v := v5) (l' := [some (.ref 65), some (.int (nI row)), some (.int (nI n)), some (.int v5), some (.int v4)]) d_R_triesRow_30 rfl (by rw [ev5]; rfl) (xst_i (Nat.le_of_ble_eq_true rfl) rfl rfl) ?_
        refine V2_goto (tgt := 6) d_R_triesRow_33 rfl ?_
        rw [ev5, nI_1]
        refine V2.weak (l' := [some (.ref 65), some (.int (nI row)), some (.int (nI n)), some (.int (nI (k + 1))), none]) ?_ ⟨rfl, rfl, rfl, rfl, trivial⟩
        refine V2.to (ih (k + 1) r G2 (by omega) (by omega) (fun a b c e => (h2_ a b c e).trans (g1 a b c e)) (by rw [h1_]; exact hT.go) ?_) rfl rfl rfl rfl
        intro k2 G3 i1 i2 i3 i4 i5
        refine hK k2 G3 i1 i2 (by omega) i4 ?_
        rw [tr_s h5, (dig_q row r).1, (dig_q row r).2]
        rw [h1_, (congrFun (g1 65 (by decide) (by decide) (by decide)) 5).trans e65] at i5
        rw [show n - 1 - k = r by omega] at i5
        rw [i5]
        by_cases h9 : G3 66 5 = 1
        · rw [if_pos h9, if_pos h9]
          show (some (k2 - (k + 1) + 1), _) = _
          rw [show k2 - (k + 1) + 1 = k2 - k by omega]
        · rw [if_neg h9, if_neg h9]
          rfl
/-- behind triesRow: its two ints are told, all else is as it was -/
def triesG (F G : xF) (t : Option Nat × (Nat → Int32)) : Prop := (∀ a, ¬ a = 65 → ¬ a = 68 → ¬ a = 71 → ¬ a = 72 → G a = F a) ∧ (∀ j, ¬ j = 13 → ¬ j = 14 → G 65 j = F 65 j) ∧ G 65 13 = nI (obR t) ∧ G 65 14 = abR t
theorem c_R_tries_end {L : Nat} {xs : Nat → Int32} {d : Nat} {Q : Option Value → xF → Prop} {F : xF} {H F0 : xF} {t : Option Nat × (Nat → Int32)} {row n k2 : Nat} (p0 : ∀ j, j < 24 → H 68 j = F0 66 j) (g0 : ∀ a, ¬ a = 68 → H a = F0 a) (r1 : rowM H F) (r2 : ∀ j, 24 ≤ j → F 66 j = F0 66 j) (ht : t = ((if F 66 5 = 1 then some k2 else none), F 66)) (hQ : ∀ G : xF, triesG F0 G t → Q none G) : V2 L xs (d + 5) m_R_triesRow 36 ([some (.ref 65), some (.int (nI row)), some (.int (nI n)), some (.int (nI k2)), none]) [] F Q := by
  refine V2_aload_n (i := 0) d_R_triesRow_36 rfl rfl ?_
  refine V2_aload_n (i := 0) d_R_triesRow_37 rfl rfl ?_
  refine V2_callV [] d_R_triesRow_38 rfl rfl lk_R_152 mo_R_isOut (by decide) rfl rfl rfl (Nat.le_of_ble_eq_true rfl) (Nat.le_of_ble_eq_true rfl) ?_
  refine c_R_isOut ?_
  refine V2_topi (fun v1 ev1 => ?_)
  refine V2_if_eq (tgt := 48) d_R_triesRow_41 rfl (fun c2 => ?_) (fun c2 => ?_)
  · refine V2_iconst (v := 0) d_R_triesRow_48 rfl ?_
    refine V2_put d_R_triesRow_49 fl_R_200 (by decide) rfl (by decide) rfl ?_
    refine V2_aload_n (i := 0) d_R_triesRow_52 rfl rfl ?_
    refine V2_aload_n (i := 0) d_R_triesRow_53 rfl rfl ?_
    refine V2_getr (a := 66) d_R_triesRow_54 fl_R_7 (by decide) rfl (by decide) rfl ?_
    refine V2_iconst (v := 2) d_R_triesRow_57 rfl ?_
    refine V2_iaload (v := F 66 2) d_R_triesRow_58 (by decide) rfl (xixA (n := 2) rfl (by decide) (by decide)) rfl ?_
    refine V2_topi (fun v3 ev3 => ?_)
    refine V2_aload_n (i := 0) d_R_triesRow_59 rfl rfl ?_
    refine V2_getr (a := 66) d_R_triesRow_60 fl_R_7 (by decide) rfl (by decide) rfl ?_
    refine V2_iconst (v := 0) d_R_triesRow_63 rfl ?_
    refine V2_iaload (v := F 66 0) d_R_triesRow_64 (by decide) rfl (xixA (n := 0) rfl (by decide) (by decide)) rfl ?_
    refine V2_topi (fun v4 ev4 => ?_)
    refine V2_isub d_R_triesRow_65 ?_
    refine V2_topi (fun v5 ev5 => ?_)
    refine V2_put d_R_triesRow_66 fl_R_203 (by decide) rfl (by decide) rfl ?_
    refine V2_aload_n (i := 0) d_R_triesRow_69 rfl rfl ?_
    refine V2_callV [] d_R_triesRow_70 rfl rfl lk_R_158 mo_R_layBack (by decide) rfl rfl rfl (Nat.le_of_ble_eq_true rfl) (Nat.le_of_ble_eq_true rfl) ?_
    refine c_layB (S := F0 66) (fun j hj => ?_) (fun j hj => ?_) (fun G3 b1 b2 => ?_)
    · rw [xp_row_ne (by decide), xp_row_ne (by decide)]
      exact (congrFun (r1 68 (by decide) (by decide) (by decide)) j).trans (p0 j hj)
    · rw [xp_row_ne (by decide), xp_row_ne (by decide)]
      exact r2 j hj
    refine V2_return d_R_triesRow_73 rfl ?_
    have h5 : ¬ F 66 5 = 1 := xb_eq.mp (by have h8 := c2; subst ev5 ev4 ev3 ev1; exact h8)
    rw [if_neg h5] at ht
    subst ev5 ev4 ev3 ev1
    refine hQ G3 ⟨fun a h1 h2 h3 h4 => ?_, fun j h1 h2 => ?_, ?_, ?_⟩
    · by_cases h6 : a = 66
      · rw [h6]
        exact b1
      · rw [b2 a h6, xp_row_ne h1, xp_row_ne h1, r1 a h6 h3 h4, g0 a h2]
    · rw [b2 65 (by decide), xp_ne (Or.inr h2), xp_ne (Or.inr h1), r1 65 (by decide) (by decide) (by decide), g0 65 (by decide)]
    · rw [b2 65 (by decide), xp_ne (Or.inr (by decide)), xp_same]
      unfold obR
      rw [ht]
      try rfl
    · rw [b2 65 (by decide), xp_same]
      unfold abR
      rw [ht]
      try rfl
  · refine V2_iload_n (i := 3) d_R_triesRow_44 rfl rfl ?_
    refine V2_goto (tgt := 49) d_R_triesRow_45 rfl ?_
    refine V2_put d_R_triesRow_49 fl_R_200 (by decide) rfl (by decide) rfl ?_
    refine V2_aload_n (i := 0) d_R_triesRow_52 rfl rfl ?_
    refine V2_aload_n (i := 0) d_R_triesRow_53 rfl rfl ?_
    refine V2_getr (a := 66) d_R_triesRow_54 fl_R_7 (by decide) rfl (by decide) rfl ?_
    refine V2_iconst (v := 2) d_R_triesRow_57 rfl ?_
    refine V2_iaload (v := F 66 2) d_R_triesRow_58 (by decide) rfl (xixA (n := 2) rfl (by decide) (by decide)) rfl ?_
    refine V2_topi (fun v6 ev6 => ?_)
    refine V2_aload_n (i := 0) d_R_triesRow_59 rfl rfl ?_
    refine V2_getr (a := 66) d_R_triesRow_60 fl_R_7 (by decide) rfl (by decide) rfl ?_
    refine V2_iconst (v := 0) d_R_triesRow_63 rfl ?_
    refine V2_iaload (v := F 66 0) d_R_triesRow_64 (by decide) rfl (xixA (n := 0) rfl (by decide) (by decide)) rfl ?_
    refine V2_topi (fun v7 ev7 => ?_)
    refine V2_isub d_R_triesRow_65 ?_
    refine V2_topi (fun v8 ev8 => ?_)
    refine V2_put d_R_triesRow_66 fl_R_203 (by decide) rfl (by decide) rfl ?_
    refine V2_aload_n (i := 0) d_R_triesRow_69 rfl rfl ?_
    refine V2_callV [] d_R_triesRow_70 rfl rfl lk_R_158 mo_R_layBack (by decide) rfl rfl rfl (Nat.le_of_ble_eq_true rfl) (Nat.le_of_ble_eq_true rfl) ?_
    refine c_layB (S := F0 66) (fun j hj => ?_) (fun j hj => ?_) (fun G3 b1 b2 => ?_)
    · rw [xp_row_ne (by decide), xp_row_ne (by decide)]
      exact (congrFun (r1 68 (by decide) (by decide) (by decide)) j).trans (p0 j hj)
    · rw [xp_row_ne (by decide), xp_row_ne (by decide)]
      exact r2 j hj
    refine V2_return d_R_triesRow_73 rfl ?_
    have h5 : F 66 5 = 1 := xb_ne.mp (by have h8 := c2; subst ev8 ev7 ev6 ev1; exact h8)
    rw [if_pos h5] at ht
    subst ev8 ev7 ev6 ev1
    refine hQ G3 ⟨fun a h1 h2 h3 h4 => ?_, fun j h1 h2 => ?_, ?_, ?_⟩
    · by_cases h6 : a = 66
      · rw [h6]
        exact b1
      · rw [b2 a h6, xp_row_ne h1, xp_row_ne h1, r1 a h6 h3 h4, g0 a h2]
    · rw [b2 65 (by decide), xp_ne (Or.inr h2), xp_ne (Or.inr h1), r1 65 (by decide) (by decide) (by decide), g0 65 (by decide)]
    · rw [b2 65 (by decide), xp_ne (Or.inr (by decide)), xp_same]
      unfold obR
      rw [ht]
      try rfl
    · rw [b2 65 (by decide), xp_same]
      unfold abR
      rw [ht]
      try rfl
theorem c_R_triesRow {L : Nat} {xs : Nat → Int32} {d : Nat} {Q : Option Value → xF → Prop} {F : xF} {S : Nat → Int32} {row n : Nat} (hi : invS S) (e66 : F 66 = S) (e65 : F 65 5 = 63) (hn : n ≤ 4) (hrow : row < 10 ^ n) (hQ : ∀ G : xF, triesG F G (trN (PN S) n row S) → Q none G) : V2 L xs (d + 5) m_R_triesRow 0 (xEntry [.ref 65, .int (nI row), .int (nI n)] 5) [] F Q := by
  have hrow2 : row ≤ 10000 := by have := pow4 hn; omega
  refine V2.to (l' := [some (.ref 65), some (.int (nI row)), some (.int (nI n)), none, none]) ?_ rfl rfl rfl rfl
  refine V2_aload_n (i := 0) d_R_triesRow_0 rfl rfl ?_
  refine V2_callV [] d_R_triesRow_1 rfl rfl lk_R_149 mo_R_layDown (by decide) rfl rfl rfl (Nat.le_of_ble_eq_true rfl) (Nat.le_of_ble_eq_true rfl) ?_
  refine c_layD (fun H p0 g0 => ?_)
  refine V2_iconst (v := 0) d_R_triesRow_4 rfl ?_
  refine V2_istore_n (i := 3) (l' := [some (.ref 65), some (.int (nI row)), some (.int (nI n)), some (.int (0 : Int32)), none]) d_R_triesRow_5 rfl (xst_i (Nat.le_of_ble_eq_true rfl) rfl rfl) ?_
  have e6 : H 66 = S := (g0 66 (by decide)).trans e66
  refine V2.to (c_R_tries_loop (F := H) (S := S) hi ((congrFun (g0 65 (by decide)) 5).trans e65) hn hrow2 (n + 1) 0 n H (by omega) (by omega) (fun a _ _ _ => rfl) (by rw [e6]; exact like.refl _) (fun k2 G2 r1 r2 _ _ r5 => ?_)) rfl rfl rfl rfl
  rw [e6, Nat.mod_eq_of_lt hrow, Nat.sub_zero] at r5
  exact c_R_tries_end (F0 := F) (H := H) p0 g0 r1 (fun j hj => (r2 j (by omega)).trans (congrFun e66 j).symm) r5 hQ
def cmN (f : Nat → Int32) (P : Nat) : Nat → Nat → Nat → (Nat → Int32) → Prop
  | 0, _, _, _ => True
  | r + 1, k, q, T => ¬ T 5 = 1 ∧ goS T (nI (q / 10 ^ r)) 63 P 2 = f k ∧ cmN f P r (k + 1) (q % 10 ^ r) (goS T (nI (q / 10 ^ r)) 63 P)
theorem c_R_comes_loop {L : Nat} {xs : Nat → Int32} {d : Nat} {Q : Option Value → xF → Prop} {F : xF} {S : Nat → Int32} {t row n : Nat} (hi : invS S) (e65 : F 65 5 = 63) (ht : t < 4) (hn : n ≤ 4) (hrow : row ≤ 10000) : ∀ (n_ : Nat) (k r : Nat) (G : xF), k + r = n → r < n_ → rowM F G → like (G 66) S → (∀ (b : Int32) (k2 : Nat) (G2 : xF), rowM F G2 → like (G2 66) S → ((b = 1 ∧ cmN (fun k => F 76 (24 * t + k)) (PN S) r k (row % 10 ^ r) (G 66)) ∨ (b = 0 ∧ ¬ cmN (fun k => F 76 (24 * t + k)) (PN S) r k (row % 10 ^ r) (G 66))) → V2 L xs (d + 5) m_R_comesSo 87 [some (.ref 65), some (.int (nI t)), some (.int (nI row)), some (.int (nI n)), some (.int b), some (.int (nI k2)), none] [] G2 Q) → V2 L xs (d + 5) m_R_comesSo 10 [some (.ref 65), some (.int (nI t)), some (.int (nI row)), some (.int (nI n)), some (.int (1 : Int32)), some (.int (nI k)), none] [] G Q := by
  intro n_
  induction n_ with
  | zero => exact fun k r G h1 h2 => absurd h2 (by omega)
  | succ n_ ih =>
    intro k r G h1 h2 g1 hT hK
    have e63 : G 65 5 = 63 := (congrFun (g1 65 (by decide) (by decide) (by decide)) 5).trans e65
    refine V2_iload (i := 5) d_R_comesSo_10 rfl ?_
    refine V2_iload_n (i := 3) d_R_comesSo_12 rfl rfl ?_
    refine V2_icmp_ge (tgt := 87) d_R_comesSo_13 rfl (fun c1 => ?_) (fun c1 => ?_)
    · have hr : r = 0 := by
        have := (nI_leI (by omega) (by omega)).mp c1
        omega
      subst hr
      refine V2.weak (l' := [some (.ref 65), some (.int (nI t)), some (.int (nI row)), some (.int (nI n)), some (.int (1 : Int32)), some (.int (nI k)), none]) ?_ ⟨rfl, rfl, rfl, rfl, rfl, rfl, trivial⟩
      exact V2.to (hK 1 k G g1 hT (Or.inl ⟨rfl, trivial⟩)) rfl rfl rfl rfl
    · have hkw : k < n := Nat.not_le.mp (fun hh => c1 ((nI_leI (by omega) (by omega)).mpr hh))
      obtain ⟨r, rfl⟩ : ∃ m2, r = m2 + 1 := ⟨r - 1, by omega⟩
      refine V2_iload (i := 4) d_R_comesSo_16 rfl ?_
      refine V2_if_eq (tgt := 87) d_R_comesSo_18 rfl (fun c => (by first | exact absurd c (by decide) | exact absurd (by decide) c)) (fun _ => ?_)
      refine V2_aload_n (i := 0) d_R_comesSo_21 rfl rfl ?_
      refine V2_callV [] d_R_comesSo_22 rfl rfl lk_R_152 mo_R_isOut (by decide) rfl rfl rfl (Nat.le_of_ble_eq_true rfl) (Nat.le_of_ble_eq_true rfl) ?_
      refine c_R_isOut ?_
      refine V2_topi (fun v2 ev2 => ?_)
      refine V2_if_ne (tgt := 32) d_R_comesSo_25 rfl (fun c3 => ?_) (fun c3 => ?_)
      · refine V2_iconst (v := 0) d_R_comesSo_32 rfl ?_
        refine V2_istore (i := 4) (l' := [some (.ref 65), some (.int (nI t)), some (.int (nI row)), some (.int (nI n)), some (.int (0 : Int32)), some (.int (nI k)), none]) d_R_comesSo_33 (xst_i (Nat.le_of_ble_eq_true rfl) rfl rfl) ?_
        refine V2_aload_n (i := 0) d_R_comesSo_35 rfl rfl ?_
        refine V2_iload_n (i := 2) d_R_comesSo_36 rfl rfl ?_
        refine V2_iload (i := 5) d_R_comesSo_37 rfl ?_
        refine V2_iload_n (i := 3) d_R_comesSo_39 rfl rfl ?_
        refine V2_callS [.int (nI row), .int (nI k), .int (nI n)] d_R_comesSo_40 rfl rfl lk_R_197 mo_R_gasAt (Nat.le_of_ble_eq_true rfl) (Nat.le_of_ble_eq_true rfl) ?_
        refine c_R_gasAt (row := row) (k := k) (n := n) (by omega) hn hrow ?_
        refine V2_callV [.int (nI (row / 10 ^ (n - 1 - k) % 10))] d_R_comesSo_43 rfl rfl lk_R_155 mo_R_goes (by decide) rfl rfl rfl (Nat.le_of_ble_eq_true rfl) (Nat.le_of_ble_eq_true rfl) ?_
        refine c_goesM hi hT (fun G2 h1_ h2_ => ?_)
        refine V2_topi (fun v4 ev4 => ?_)
        refine V2_istore (i := 6) (l' := [some (.ref 65), some (.int (nI t)), some (.int (nI row)), some (.int (nI n)), some (.int (0 : Int32)), some (.int (nI k)), some (.int v4)]) d_R_comesSo_46 (xst_i (Nat.le_of_ble_eq_true rfl) rfl rfl) ?_
        refine V2_iload (i := 4) d_R_comesSo_48 rfl ?_
        refine V2_if_eq (tgt := 78) d_R_comesSo_50 rfl (fun _ => ?_) (fun c => (by first | exact absurd c (by decide) | exact absurd (by decide) c))
        refine V2_iconst (v := 0) d_R_comesSo_78 rfl ?_
        refine V2_istore (i := 4) (l' := [some (.ref 65), some (.int (nI t)), some (.int (nI row)), some (.int (nI n)), some (.int (0 : Int32)), some (.int (nI k)), some (.int v4)]) d_R_comesSo_79 (xst_i (Nat.le_of_ble_eq_true rfl) rfl rfl) ?_
        obtain ⟨v5, ev5⟩ : ∃ y : Int32, y = nI k + 1 := ⟨_, rfl⟩
        refine V2_iinc (i := 5) (v := v5) (l' := [some (.ref 65), some (.int (nI t)), some (.int (nI row)), some (.int (nI n)), some (.int (0 : Int32)), some (.int v5), some (.int v4)]) d_R_comesSo_81 rfl (by rw [ev5]; rfl) (xst_i (Nat.le_of_ble_eq_true rfl) rfl rfl) ?_
        refine V2_goto (tgt := 10) d_R_comesSo_84 rfl ?_
        refine V2_iload (i := 5) d_R_comesSo_10 rfl ?_
        refine V2_iload_n (i := 3) d_R_comesSo_12 rfl rfl ?_
        refine V2_icmp_ge (tgt := 87) d_R_comesSo_13 rfl (fun c6 => ?_) (fun c6 => ?_)
        · have hc : ¬ cmN (fun k => F 76 (24 * t + k)) (PN S) (r + 1) k (row % 10 ^ (r + 1)) (G 66) := fun h => h.1 (xb_ne.mp (by have h8 := c3; subst ev5 ev4 ev2; exact h8))
          rw [ev5, nI_1]
          refine V2.weak (l' := [some (.ref 65), some (.int (nI t)), some (.int (nI row)), some (.int (nI n)), some (.int (0 : Int32)), some (.int (nI (k + 1))), none]) ?_ ⟨rfl, rfl, rfl, rfl, rfl, rfl, trivial⟩
          exact V2.to (hK 0 (k + 1) G2 (fun a b c e => (h2_ a b c e).trans (g1 a b c e)) (by rw [h1_]; exact hT.go) (Or.inr ⟨rfl, hc⟩)) rfl rfl rfl rfl
        · refine V2_iload (i := 4) d_R_comesSo_16 rfl ?_
          refine V2_if_eq (tgt := 87) d_R_comesSo_18 rfl (fun _ => ?_) (fun c => (by first | exact absurd c (by decide) | exact absurd (by decide) c))
          have hc : ¬ cmN (fun k => F 76 (24 * t + k)) (PN S) (r + 1) k (row % 10 ^ (r + 1)) (G 66) := fun h => h.1 (xb_ne.mp (by have h8 := c3; subst ev5 ev4 ev2; exact h8))
          rw [ev5, nI_1]
          refine V2.weak (l' := [some (.ref 65), some (.int (nI t)), some (.int (nI row)), some (.int (nI n)), some (.int (0 : Int32)), some (.int (nI (k + 1))), none]) ?_ ⟨rfl, rfl, rfl, rfl, rfl, rfl, trivial⟩
          exact V2.to (hK 0 (k + 1) G2 (fun a b c e => (h2_ a b c e).trans (g1 a b c e)) (by rw [h1_]; exact hT.go) (Or.inr ⟨rfl, hc⟩)) rfl rfl rfl rfl
      · have h5 : ¬ G 66 5 = 1 := xb_eq.mp (by have h8 := c3; subst ev2; exact h8)
        refine V2_iconst (v := 1) d_R_comesSo_28 rfl ?_
        refine V2_goto (tgt := 33) d_R_comesSo_29 rfl ?_
        refine V2_istore (i := 4) (l' := [some (.ref 65), some (.int (nI t)), some (.int (nI row)), some (.int (nI n)), some (.int (1 : Int32)), some (.int (nI k)), none]) d_R_comesSo_33 (xst_i (Nat.le_of_ble_eq_true rfl) rfl rfl) ?_
        refine V2_aload_n (i := 0) d_R_comesSo_35 rfl rfl ?_
        refine V2_iload_n (i := 2) d_R_comesSo_36 rfl rfl ?_
        refine V2_iload (i := 5) d_R_comesSo_37 rfl ?_
        refine V2_iload_n (i := 3) d_R_comesSo_39 rfl rfl ?_
        refine V2_callS [.int (nI row), .int (nI k), .int (nI n)] d_R_comesSo_40 rfl rfl lk_R_197 mo_R_gasAt (Nat.le_of_ble_eq_true rfl) (Nat.le_of_ble_eq_true rfl) ?_
        refine c_R_gasAt (row := row) (k := k) (n := n) (by omega) hn hrow ?_
        refine V2_callV [.int (nI (row / 10 ^ (n - 1 - k) % 10))] d_R_comesSo_43 rfl rfl lk_R_155 mo_R_goes (by decide) rfl rfl rfl (Nat.le_of_ble_eq_true rfl) (Nat.le_of_ble_eq_true rfl) ?_
        refine c_goesM hi hT (fun G2 h1_ h2_ => ?_)
        refine V2_topi (fun v7 ev7 => ?_)
        refine V2_istore (i := 6) (l' := [some (.ref 65), some (.int (nI t)), some (.int (nI row)), some (.int (nI n)), some (.int (1 : Int32)), some (.int (nI k)), some (.int v7)]) d_R_comesSo_46 (xst_i (Nat.le_of_ble_eq_true rfl) rfl rfl) ?_
        refine V2_iload (i := 4) d_R_comesSo_48 rfl ?_
        refine V2_if_eq (tgt := 78) d_R_comesSo_50 rfl (fun c => (by first | exact absurd c (by decide) | exact absurd (by decide) c)) (fun _ => ?_)
        refine V2_aload_n (i := 0) d_R_comesSo_53 rfl rfl ?_
        refine V2_getr (a := 66) d_R_comesSo_54 fl_R_7 (by decide) rfl (by decide) rfl ?_
        refine V2_iconst (v := 2) d_R_comesSo_57 rfl ?_
        refine V2_iaload (v := G2 66 2) d_R_comesSo_58 (by decide) rfl (xixA (n := 2) rfl (by decide) (by decide)) rfl ?_
        refine V2_topi (fun v8 ev8 => ?_)
        refine V2_aload_n (i := 0) d_R_comesSo_59 rfl rfl ?_
        refine V2_getr (a := 76) d_R_comesSo_60 fl_R_44 (by decide) rfl (by decide) rfl ?_
        refine V2_bipush (v := 24) d_R_comesSo_63 rfl ?_
        refine V2_iload_n (i := 1) d_R_comesSo_65 rfl rfl ?_
        refine V2_imul d_R_comesSo_66 ?_
        refine V2_topi (fun v9 ev9 => ?_)
        refine V2_iload (i := 5) d_R_comesSo_67 rfl ?_
        refine V2_iadd d_R_comesSo_69 ?_
        refine V2_topi (fun v10 ev10 => ?_)
        refine V2_ialoadJ (24 * t + k) d_R_comesSo_70 (by decide) rfl (xixA (n := 24 * t + k) (by subst ev10 ev9 ev8 ev7 ev2; simp only [nI, Int32.ofNat_add, Int32.ofNat_mul]; rfl) (by omega) (by decide)) (xixB (n := 24 * t + k) (by subst ev10 ev9 ev8 ev7 ev2; simp only [nI, Int32.ofNat_add, Int32.ofNat_mul]; rfl) (by omega)) rfl ?_
        refine V2_topi (fun v11 ev11 => ?_)
        refine V2_icmp_ne (tgt := 78) d_R_comesSo_71 rfl (fun c12 => ?_) (fun c12 => ?_)
        · refine V2_iconst (v := 0) d_R_comesSo_78 rfl ?_
          refine V2_istore (i := 4) (l' := [some (.ref 65), some (.int (nI t)), some (.int (nI row)), some (.int (nI n)), some (.int (0 : Int32)), some (.int (nI k)), some (.int v7)]) d_R_comesSo_79 (xst_i (Nat.le_of_ble_eq_true rfl) rfl rfl) ?_
          obtain ⟨v13, ev13⟩ : ∃ y : Int32, y = nI k + 1 := ⟨_, rfl⟩
          refine V2_iinc (i := 5) (v := v13) (l' := [some (.ref 65), some (.int (nI t)), some (.int (nI row)), some (.int (nI n)), some (.int (0 : Int32)), some (.int v13), some (.int v7)]) d_R_comesSo_81 rfl (by rw [ev13]; rfl) (xst_i (Nat.le_of_ble_eq_true rfl) rfl rfl) ?_
          refine V2_goto (tgt := 10) d_R_comesSo_84 rfl ?_
          refine V2_iload (i := 5) d_R_comesSo_10 rfl ?_
          refine V2_iload_n (i := 3) d_R_comesSo_12 rfl rfl ?_
          refine V2_icmp_ge (tgt := 87) d_R_comesSo_13 rfl (fun c14 => ?_) (fun c14 => ?_)
          · have hc : ¬ cmN (fun k => F 76 (24 * t + k)) (PN S) (r + 1) k (row % 10 ^ (r + 1)) (G 66) := fun h => (by
              apply c12
              subst ev13 ev11 ev10 ev9 ev8 ev7 ev2
              rw [h1_, e63, show n - 1 - k = r by omega, h2_ 76 (by decide) (by decide) (by decide), g1 76 (by decide) (by decide) (by decide)]
              have h9 := h.2.1
              rw [(dig_q row r).1] at h9
              exact h9)
            rw [ev13, nI_1]
            refine V2.weak (l' := [some (.ref 65), some (.int (nI t)), some (.int (nI row)), some (.int (nI n)), some (.int (0 : Int32)), some (.int (nI (k + 1))), none]) ?_ ⟨rfl, rfl, rfl, rfl, rfl, rfl, trivial⟩
            exact V2.to (hK 0 (k + 1) G2 (fun a b c e => (h2_ a b c e).trans (g1 a b c e)) (by rw [h1_]; exact hT.go) (Or.inr ⟨rfl, hc⟩)) rfl rfl rfl rfl
          · refine V2_iload (i := 4) d_R_comesSo_16 rfl ?_
            refine V2_if_eq (tgt := 87) d_R_comesSo_18 rfl (fun _ => ?_) (fun c => (by first | exact absurd c (by decide) | exact absurd (by decide) c))
            have hc : ¬ cmN (fun k => F 76 (24 * t + k)) (PN S) (r + 1) k (row % 10 ^ (r + 1)) (G 66) := fun h => (by
              apply c12
              subst ev13 ev11 ev10 ev9 ev8 ev7 ev2
              rw [h1_, e63, show n - 1 - k = r by omega, h2_ 76 (by decide) (by decide) (by decide), g1 76 (by decide) (by decide) (by decide)]
              have h9 := h.2.1
              rw [(dig_q row r).1] at h9
              exact h9)
            rw [ev13, nI_1]
            refine V2.weak (l' := [some (.ref 65), some (.int (nI t)), some (.int (nI row)), some (.int (nI n)), some (.int (0 : Int32)), some (.int (nI (k + 1))), none]) ?_ ⟨rfl, rfl, rfl, rfl, rfl, rfl, trivial⟩
            exact V2.to (hK 0 (k + 1) G2 (fun a b c e => (h2_ a b c e).trans (g1 a b c e)) (by rw [h1_]; exact hT.go) (Or.inr ⟨rfl, hc⟩)) rfl rfl rfl rfl
        · refine V2_iconst (v := 1) d_R_comesSo_74 rfl ?_
          refine V2_goto (tgt := 79) d_R_comesSo_75 rfl ?_
          refine V2_istore (i := 4) (l' := [some (.ref 65), some (.int (nI t)), some (.int (nI row)), some (.int (nI n)), some (.int (1 : Int32)), some (.int (nI k)), some (.int v7)]) d_R_comesSo_79 (xst_i (Nat.le_of_ble_eq_true rfl) rfl rfl) ?_
          obtain ⟨v15, ev15⟩ : ∃ y : Int32, y = nI k + 1 := ⟨_, rfl⟩
          refine V2_iinc (i := 5) (v := v15) (l' := [some (.ref 65), some (.int (nI t)), some (.int (nI row)), some (.int (nI n)), some (.int (1 : Int32)), some (.int v15), some (.int v7)]) d_R_comesSo_81 rfl (by rw [ev15]; rfl) (xst_i (Nat.le_of_ble_eq_true rfl) rfl rfl) ?_
          refine V2_goto (tgt := 10) d_R_comesSo_84 rfl ?_
          have hg : goS (G 66) (nI (row / 10 ^ r % 10)) 63 (PN S) 2 = F 76 (24 * t + k) := by
            have h9 := c12
            subst ev15 ev11 ev10 ev9 ev8 ev7 ev2
            rw [h1_, e63, show n - 1 - k = r by omega, h2_ 76 (by decide) (by decide) (by decide), g1 76 (by decide) (by decide) (by decide)] at h9
            exact h9
          rw [ev15, nI_1]
          refine V2.weak (l' := [some (.ref 65), some (.int (nI t)), some (.int (nI row)), some (.int (nI n)), some (.int (1 : Int32)), some (.int (nI (k + 1))), none]) ?_ ⟨rfl, rfl, rfl, rfl, rfl, rfl, trivial⟩
          refine V2.to (ih (k + 1) r G2 (by omega) (by omega) (fun a b c e => (h2_ a b c e).trans (g1 a b c e)) (by rw [h1_]; exact hT.go) ?_) rfl rfl rfl rfl
          intro b k2 G3 i1 i2 i3
          rw [h1_, e63, show n - 1 - k = r by omega] at i3
          refine hK b k2 G3 i1 i2 ?_
          rcases i3 with ⟨i3, i4⟩ | ⟨i3, i4⟩
          · refine Or.inl ⟨i3, h5, ?_, ?_⟩
            · rw [(dig_q row r).1]
              exact hg
            · rw [(dig_q row r).1, (dig_q row r).2]
              exact i4
          · refine Or.inr ⟨i3, fun h => i4 ?_⟩
            have h9 := h.2.2
            rw [(dig_q row r).1, (dig_q row r).2] at h9
            exact h9
theorem c_R_comes_end {L : Nat} {xs : Nat → Int32} {d : Nat} {Q : Option Value → xF → Prop} {F : xF} {H F0 : xF} {t row n k2 : Nat} {b : Int32} (hb : b = 0 ∨ b = 1) (p0 : ∀ j, j < 24 → H 68 j = F0 66 j) (g0 : ∀ a, ¬ a = 68 → H a = F0 a) (r1 : rowM H F) (r2 : ∀ j, 24 ≤ j → F 66 j = F0 66 j) (hQ : ∀ G : xF, scrM F0 G → Q (some (.int b)) G) : V2 L xs (d + 5) m_R_comesSo 87 ([some (.ref 65), some (.int (nI t)), some (.int (nI row)), some (.int (nI n)), some (.int b), some (.int (nI k2)), none]) [] F Q := by
  refine V2_aload_n (i := 0) d_R_comesSo_87 rfl rfl ?_
  refine V2_callV [] d_R_comesSo_88 rfl rfl lk_R_158 mo_R_layBack (by decide) rfl rfl rfl (Nat.le_of_ble_eq_true rfl) (Nat.le_of_ble_eq_true rfl) ?_
  refine c_layB (S := F0 66) (fun j hj => (congrFun (r1 68 (by decide) (by decide) (by decide)) j).trans (p0 j hj)) r2 (fun G3 b1 b2 => ?_)
  refine V2_iload (i := 4) d_R_comesSo_91 rfl ?_
  refine V2_zreturn d_R_comesSo_93 rfl (by assumption) ?_
  exact hQ G3 (fun a h1 h2 h3 => by
    by_cases h6 : a = 66
    · rw [h6]
      exact b1
    · rw [b2 a h6, r1 a h6 h2 h3, g0 a h1])
theorem c_R_comesSo {L : Nat} {xs : Nat → Int32} {d : Nat} {Q : Option Value → xF → Prop} {F : xF} {S : Nat → Int32} {t row n : Nat} (hi : invS S) (e66 : F 66 = S) (e65 : F 65 5 = 63) (ht : t < 4) (hn : n ≤ 4) (hrow : row < 10 ^ n) (hQ : ∀ (b : Int32) (G : xF), scrM F G → ((b = 1 ∧ cmN (fun k => F 76 (24 * t + k)) (PN S) n 0 row S) ∨ (b = 0 ∧ ¬ cmN (fun k => F 76 (24 * t + k)) (PN S) n 0 row S)) → Q (some (.int b)) G) : V2 L xs (d + 5) m_R_comesSo 0 (xEntry [.ref 65, .int (nI t), .int (nI row), .int (nI n)] 7) [] F Q := by
  have hrow2 : row ≤ 10000 := by have := pow4 hn; omega
  refine V2.to (l' := [some (.ref 65), some (.int (nI t)), some (.int (nI row)), some (.int (nI n)), none, none, none]) ?_ rfl rfl rfl rfl
  refine V2_aload_n (i := 0) d_R_comesSo_0 rfl rfl ?_
  refine V2_callV [] d_R_comesSo_1 rfl rfl lk_R_149 mo_R_layDown (by decide) rfl rfl rfl (Nat.le_of_ble_eq_true rfl) (Nat.le_of_ble_eq_true rfl) ?_
  refine c_layD (fun H p0 g0 => ?_)
  refine V2_iconst (v := 1) d_R_comesSo_4 rfl ?_
  refine V2_istore (i := 4) (l' := [some (.ref 65), some (.int (nI t)), some (.int (nI row)), some (.int (nI n)), some (.int (1 : Int32)), none, none]) d_R_comesSo_5 (xst_i (Nat.le_of_ble_eq_true rfl) rfl rfl) ?_
  refine V2_iconst (v := 0) d_R_comesSo_7 rfl ?_
  refine V2_istore (i := 5) (l' := [some (.ref 65), some (.int (nI t)), some (.int (nI row)), some (.int (nI n)), some (.int (1 : Int32)), some (.int (0 : Int32)), none]) d_R_comesSo_8 (xst_i (Nat.le_of_ble_eq_true rfl) rfl rfl) ?_
  have e6 : H 66 = S := (g0 66 (by decide)).trans e66
  have ef : (fun k => H 76 (24 * t + k)) = (fun k => F 76 (24 * t + k)) := by
    funext k
    rw [g0 76 (by decide)]
  refine V2.to (c_R_comes_loop (F := H) (S := S) hi ((congrFun (g0 65 (by decide)) 5).trans e65) ht hn hrow2 (n + 1) 0 n H (by omega) (by omega) (fun a _ _ _ => rfl) (by rw [e6]; exact like.refl _) (fun b k2 G2 r1 r2 r5 => ?_)) rfl rfl rfl rfl
  rw [e6, Nat.mod_eq_of_lt hrow, ef] at r5
  exact c_R_comes_end (F0 := F) (H := H) (by rcases r5 with h | h; exact Or.inr h.1; exact Or.inl h.1) p0 g0 r1 (fun j hj => (r2 j (by omega)).trans (congrFun e66 j).symm) (fun G h2 => hQ b G h2 r5)
