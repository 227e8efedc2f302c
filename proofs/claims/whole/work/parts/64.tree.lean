/-! rows of gases: the class goes down the tree -/
/-- where a row of l gases (the digits of pre) has brought it: T, at the car c -/
def ctxV (F G : xF) (S T : Nat → Int32) (aim : Int32) (n l pre c : Nat) : Prop := scrC F G ∧ G 36 4 = aim ∧ G 36 5 = nI n ∧ (∀ i, i < l → G 40 i = nI (pre / 10 ^ (l - 1 - i) % 10)) ∧ pre < 10 ^ l ∧ relCr (G c) T ∧ like T S ∧ invC T ∧ ∀ q, q < 10 ^ (n - l) → trN (PN S) n (pre * 10 ^ (n - l) + q) S = ((trN (PN S) (n - l) q T).1.map (fun j => j + l), (trN (PN S) (n - l) q T).2)
def frV (G G2 : xF) : Prop := (∀ a, ¬ a = 36 → ¬ a = 41 → G2 a = G a) ∧ G2 36 4 = G 36 4 ∧ G2 36 5 = G 36 5
/-- a relation that only what the aims keep can change -/
def stabR {α : Type} (R : xF → α → Prop) : Prop := ∀ (G G2 : xF) (s : α), R G s → (∀ a, a = 38 ∨ a = 39 ∨ a = 41 → G2 a = G a) → (∀ j, 6 ≤ j → G2 36 j = G 36 j) → R G2 s
/-- what goesOn does at each level -/
def visV {α : Type} (L : Nat) (xs : Nat → Int32) (F : xF) (S : Nat → Int32) (aim : Int32) (n : Nat) (f : Nat → α → α) (R : xF → α → Prop) (J K : Nat → Nat → (Nat → Int32) → Prop) (B : Nat → α → Prop) : Prop :=
  ∀ (d : Nat) (Q : Option Value → xF → Prop) (G : xF) (T : Nat → Int32) (pre l : Nat) (s : α), l < n → ctxV F G S T aim n (l + 1) pre (43 + l) → J (l + 1) pre T → B (pre * 10 ^ (n - (l + 1))) s → R G s →
  (∀ (G2 : xF) (b : Int32), frV G G2 → ((b = 1 ∧ ¬ T 5 = 1 ∧ l + 1 < n ∧ K (l + 1) pre T ∧ R G2 s) ∨ ((b = 0 ∨ b = 1 ∧ (T 5 = 1 ∨ l + 1 = n)) ∧ R G2 (blk f (pre * 10 ^ (n - (l + 1))) (10 ^ (n - (l + 1))) s))) → Q (some (.int b)) G2) →
  V2 L xs (d + 4) m_Rows_goesOn 0 (xEntry [.ref 36, .int (nI l), .ref (43 + l)] 3) [] G Q
theorem blk_B {α : Type} {f : Nat → α → α} {B : Nat → α → Prop} (HB : ∀ (a : Nat) (s : α), B a s → B (a + 1) (f a s)) : ∀ (m a : Nat) (s : α), B a s → B (a + m) (blk f a m s) := by
  intro m
  induction m with
  | zero => intro a s h; exact h
  | succ m ih =>
    intro a s h
    have := ih (a + 1) _ (HB a s h)
    rw [show a + 1 + m = a + (m + 1) by omega] at this
    exact this
theorem sim_child {P n l pre g : Nat} {S T : Nat → Int32} (hl : l < n) (h5 : ¬ T 5 = 1) (hg : g < 10) (hs : ∀ q, q < 10 ^ (n - l) → trN P n (pre * 10 ^ (n - l) + q) S = ((trN P (n - l) q T).1.map (fun j => j + l), (trN P (n - l) q T).2)) :
    ∀ q, q < 10 ^ (n - (l + 1)) → trN P n ((pre * 10 + g) * 10 ^ (n - (l + 1)) + q) S = ((trN P (n - (l + 1)) q (goS T (nI g) 63 P)).1.map (fun j => j + (l + 1)), (trN P (n - (l + 1)) q (goS T (nI g) 63 P)).2) := by
  obtain ⟨r, hr⟩ : ∃ r, n - l = r + 1 := ⟨n - l - 1, by omega⟩
  have hr2 : n - (l + 1) = r := by omega
  rw [hr2]
  intro q hq
  have h9 := hs (g * 10 ^ r + q)
  rw [hr] at h9
  have hlt : g * 10 ^ r + q < 10 ^ (r + 1) := by
    rw [Nat.pow_succ]
    have : (g + 1) * 10 ^ r ≤ 10 * 10 ^ r := Nat.mul_le_mul_right _ (by omega)
    rw [Nat.add_mul, Nat.one_mul] at this
    rw [Nat.mul_comm (10 ^ r) 10]
    omega
  have e1 : pre * 10 ^ (r + 1) + (g * 10 ^ r + q) = (pre * 10 + g) * 10 ^ r + q := by
    rw [Nat.pow_succ, Nat.add_mul, Nat.mul_assoc pre 10, Nat.mul_comm 10 (10 ^ r)]
    omega
  have hpos : 0 < 10 ^ r := Nat.pow_pos (by decide)
  have e2 : (g * 10 ^ r + q) / 10 ^ r = g := by
    rw [Nat.add_comm, Nat.mul_comm, Nat.add_mul_div_left _ _ hpos, Nat.div_eq_of_lt hq, Nat.zero_add]
  have e3 : (g * 10 ^ r + q) % 10 ^ r = q := by
    rw [Nat.add_comm, Nat.mul_comm, Nat.add_mul_mod_self_left, Nat.mod_eq_of_lt hq]
  have h8 := h9 hlt
  rw [e1, tr_s h5, e2, e3] at h8
  rw [h8]
  refine Prod.ext ?_ rfl
  show ((trN P r q (goS T (nI g) 63 P)).1.map (fun j => j + 1)).map (fun j => j + l) = _
  cases (trN P r q (goS T (nI g) 63 P)).1 with
  | none => rfl
  | some j => exact congrArg some (by show j + 1 + l = j + (l + 1); omega)
theorem dig_child {pre g k : Nat} (hg : g < 10) : (pre * 10 + g) / 10 ^ (k + 1) = pre / 10 ^ k := by
  rw [Nat.pow_succ, Nat.mul_comm (10 ^ k) 10, ← Nat.div_div_eq_div_mul, show (pre * 10 + g) / 10 = pre by omega]
theorem digs_child {r : Nat → Int32} {pre g l : Nat} (hg : g < 10) (h : ∀ i, i < l → r i = nI (pre / 10 ^ (l - 1 - i) % 10)) (hl : r l = nI g) : ∀ i, i < l + 1 → r i = nI ((pre * 10 + g) / 10 ^ (l + 1 - 1 - i) % 10) := by
  intro i hi
  by_cases e : i = l
  · subst e
    rw [hl, show i + 1 - 1 - i = 0 by omega, Nat.pow_zero, Nat.div_one, show (pre * 10 + g) % 10 = g by omega]
  · rw [h i (by omega), show l + 1 - 1 - i = (l - 1 - i) + 1 by omega, dig_child hg]
theorem pre_child {pre g l : Nat} (hg : g < 10) (h : pre < 10 ^ l) : pre * 10 + g < 10 ^ (l + 1) := by
  rw [Nat.pow_succ]
  omega
theorem c_goC43 {L : Nat} {xs : Nat → Int32} {d : Nat} {Q : Option Value → xF → Prop} {H : xF} {T : Nat → Int32} {g P : Nat} (hc : relCr (H 43) T) (hC : invC T) (hg : g < 10) (hQ : ∀ (G2 : xF) (b : Int32), relCr (G2 43) (goS T (nI g) 63 P) → (∀ k, ¬ k = 43 → G2 k = H k) → Q (some (.int b)) G2) : V2 L xs (d + 1) m_Car_go 0 (xEntry [.ref 43, .int (nI g), .int (gripM T 63 P), .int (pushSum T 63 P), .int (rubM T)] 7) [] H Q := by
  refine c_Car_go_43 (hQ _ _ ?_ (fun k hk => xrw_ne hk))
  rw [xrw_same]
  exact go_rel hc hC (nI_g hg) (gripM_range T 63 P)
theorem c_goC44 {L : Nat} {xs : Nat → Int32} {d : Nat} {Q : Option Value → xF → Prop} {H : xF} {T : Nat → Int32} {g P : Nat} (hc : relCr (H 44) T) (hC : invC T) (hg : g < 10) (hQ : ∀ (G2 : xF) (b : Int32), relCr (G2 44) (goS T (nI g) 63 P) → (∀ k, ¬ k = 44 → G2 k = H k) → Q (some (.int b)) G2) : V2 L xs (d + 1) m_Car_go 0 (xEntry [.ref 44, .int (nI g), .int (gripM T 63 P), .int (pushSum T 63 P), .int (rubM T)] 7) [] H Q := by
  refine c_Car_go_44 (hQ _ _ ?_ (fun k hk => xrw_ne hk))
  rw [xrw_same]
  exact go_rel hc hC (nI_g hg) (gripM_range T 63 P)
theorem c_goC45 {L : Nat} {xs : Nat → Int32} {d : Nat} {Q : Option Value → xF → Prop} {H : xF} {T : Nat → Int32} {g P : Nat} (hc : relCr (H 45) T) (hC : invC T) (hg : g < 10) (hQ : ∀ (G2 : xF) (b : Int32), relCr (G2 45) (goS T (nI g) 63 P) → (∀ k, ¬ k = 45 → G2 k = H k) → Q (some (.int b)) G2) : V2 L xs (d + 1) m_Car_go 0 (xEntry [.ref 45, .int (nI g), .int (gripM T 63 P), .int (pushSum T 63 P), .int (rubM T)] 7) [] H Q := by
  refine c_Car_go_45 (hQ _ _ ?_ (fun k hk => xrw_ne hk))
  rw [xrw_same]
  exact go_rel hc hC (nI_g hg) (gripM_range T 63 P)
theorem c_goC46 {L : Nat} {xs : Nat → Int32} {d : Nat} {Q : Option Value → xF → Prop} {H : xF} {T : Nat → Int32} {g P : Nat} (hc : relCr (H 46) T) (hC : invC T) (hg : g < 10) (hQ : ∀ (G2 : xF) (b : Int32), relCr (G2 46) (goS T (nI g) 63 P) → (∀ k, ¬ k = 46 → G2 k = H k) → Q (some (.int b)) G2) : V2 L xs (d + 1) m_Car_go 0 (xEntry [.ref 46, .int (nI g), .int (gripM T 63 P), .int (pushSum T 63 P), .int (rubM T)] 7) [] H Q := by
  refine c_Car_go_46 (hQ _ _ ?_ (fun k hk => xrw_ne hk))
  rw [xrw_same]
  exact go_rel hc hC (nI_g hg) (gripM_range T 63 P)
theorem c_tryFrom_3_loop {L : Nat} {xs : Nat → Int32} {d : Nat} {Q : Option Value → xF → Prop} {α : Type} {F : xF} {S T : Nat → Int32} {aim : Int32} {n pre : Nat} {f : Nat → α → α} {R : xF → α → Prop} {J K : Nat → Nat → (Nat → Int32) → Prop} {B : Nat → α → Prop} {s0 : α} {H : xF} (h : relW F 1 S) (hi : invS S) (hn : n ≤ 4) (hln : 3 < n) (HV : visV L xs F S aim n f R J K B) (HB : ∀ (a : Nat) (s : α), B a s → B (a + 1) (f a s)) (HR : stabR R) (HJ : ∀ (l pre g : Nat) (T : Nat → Int32), l < n → g < 10 → ¬ T 5 = 1 → K l pre T → J (l + 1) (pre * 10 + g) (goS T (nI g) 63 (PN S))) (hx : ctxV F H S T aim n 3 pre 45) (h5 : ¬ T 5 = 1) (hk : K 3 pre T) (hb : B (pre * 10 ^ (n - 3)) s0) (hQ : (∀ G : xF, scrC F G → G 36 4 = aim → G 36 5 = nI n → (∀ i, i < 3 → G 40 i = H 40 i) → (∀ j, j ≤ 3 → G (42 + j) = H (42 + j)) → R G (blk f (pre * 10 ^ (n - 3)) (10 ^ (n - 3)) s0) → Q none G)) : ∀ (n_ : Nat) (g m : Nat) (G : xF), g + m = 10 → m < n_ → scrC F G → G 36 4 = aim → G 36 5 = nI n → (∀ i, i < 3 → G 40 i = H 40 i) → (∀ j, j ≤ 3 → G (42 + j) = H (42 + j)) → R G (blk f (pre * 10 ^ (n - 3)) (g * 10 ^ (n - 4)) s0) → V2 L xs (d + 14) m_Rows_tryFrom 53 [some (.ref 36), some (.ref 1), some (.int (3 : Int32)), some (.ref 45), some (.ref 46), some (.int (gripM T 63 (PN S))), some (.int (pushSum T 63 (PN S))), some (.int (rubM T)), some (.int (nI g))] [] G Q := by
  intro n_
  induction n_ with
  | zero => exact fun g m G h1 h2 => absurd h2 (by omega)
  | succ n_ ih =>
    intro g m G h1 h2 g1 g2 g3 g4 g5 g6
    refine V2_iload (i := 8) d_Rows_tryFrom_53 rfl ?_
    refine V2_bipush (v := 9) d_Rows_tryFrom_55 rfl ?_
    refine V2_icmp_gt (tgt := 129) d_Rows_tryFrom_57 rfl (fun c1 => ?_) (fun c1 => ?_)
    · refine V2_return d_Rows_tryFrom_129 rfl ?_
      have hg : g = 10 := by
        have := (nI_ltI (a := 9) (b := g) (by omega) (by omega)).mp c1
        omega
      subst hg
      have e10 : 10 * 10 ^ (n - 4) = 10 ^ (n - 3) := by
        rw [show n - 3 = (n - 4) + 1 by omega, Nat.pow_succ, Nat.mul_comm]
      rw [e10] at g6
      exact hQ G g1 g2 g3 g4 g5 g6
    · have hg10 : g < 10 := by
        have h9 := c1
        have : ¬ 9 < g := fun hh => h9 ((nI_ltI (a := 9) (b := g) (by omega) (by omega)).mpr hh)
        omega
      obtain ⟨m, rfl⟩ : ∃ m2, m = m2 + 1 := ⟨m - 1, by omega⟩
      have hcA : relCr (G 45) T := by rw [g5 3 (by decide)]; exact hx.2.2.2.2.2.1
      refine V2_aload (i := 4) d_Rows_tryFrom_60 rfl ?_
      refine V2_aload_n (i := 3) d_Rows_tryFrom_62 rfl rfl ?_
      refine V2_callV [.ref 45] d_Rows_tryFrom_63 rfl rfl lk_Rows_84 mo_Car_copyFrom (by decide) rfl rfl rfl (Nat.le_of_ble_eq_true rfl) (Nat.le_of_ble_eq_true rfl) ?_
      refine c_Car_copy_46_45 (by rw [hcA.2.2.2.2.2.2.2]; exact hx.2.2.2.2.2.2.2.1.2.2.2.2.2.1) (fun H1 p0 g0 => ?_)
      refine V2_aload (i := 4) d_Rows_tryFrom_66 rfl ?_
      refine V2_iload (i := 8) d_Rows_tryFrom_68 rfl ?_
      refine V2_iload (i := 5) d_Rows_tryFrom_70 rfl ?_
      refine V2_iload (i := 6) d_Rows_tryFrom_72 rfl ?_
      refine V2_iload (i := 7) d_Rows_tryFrom_74 rfl ?_
      refine V2_callV [.int (nI g), .int (gripM T 63 (PN S)), .int (pushSum T 63 (PN S)), .int (rubM T)] d_Rows_tryFrom_76 rfl rfl lk_Rows_105 mo_Car_go (by decide) rfl rfl rfl (Nat.le_of_ble_eq_true rfl) (Nat.le_of_ble_eq_true rfl) ?_
      refine c_goC46 (relCr_row hcA p0) hx.2.2.2.2.2.2.2.1 hg10 (fun G1 b1 hc f1 => ?_)
      refine V2_pop d_Rows_tryFrom_79 rfl ?_
      refine V2_aload_n (i := 0) d_Rows_tryFrom_80 rfl rfl ?_
      refine V2_iload_n (i := 2) d_Rows_tryFrom_81 rfl rfl ?_
      refine V2_iload (i := 8) d_Rows_tryFrom_82 rfl ?_
      refine V2_callV [.int (3 : Int32), .int (nI g)] d_Rows_tryFrom_84 rfl rfl lk_Rows_109 mo_Rows_note (by decide) rfl rfl rfl (Nat.le_of_ble_eq_true rfl) (Nat.le_of_ble_eq_true rfl) ?_
      refine V2.to (l' := [some (.ref 36), some (.int (3 : Int32)), some (.int (nI g))]) ?_ rfl rfl rfl rfl
      refine V2_iload_n (i := 1) d_Rows_note_0 rfl rfl ?_
      refine V2_if_lt (tgt := 20) d_Rows_note_1 rfl (fun c => (by first | exact absurd c (by decide) | exact absurd (by decide) c)) (fun _ => ?_)
      refine V2_iload_n (i := 1) d_Rows_note_4 rfl rfl ?_
      refine V2_aload_n (i := 0) d_Rows_note_5 rfl rfl ?_
      refine V2_getr (a := 40) d_Rows_note_6 fl_Rows_26 (by decide) rfl (by decide) rfl ?_
      refine V2_alen (t := 0) (v := 4) d_Rows_note_9 (by decide) rfl (by decide) rfl ?_
      refine V2_icmp_ge (tgt := 20) d_Rows_note_10 rfl (fun c => (by first | exact absurd c (by decide) | exact absurd (by decide) c)) (fun _ => ?_)
      refine V2_aload_n (i := 0) d_Rows_note_13 rfl rfl ?_
      refine V2_getr (a := 40) d_Rows_note_14 fl_Rows_26 (by decide) rfl (by decide) rfl ?_
      refine V2_iload_n (i := 1) d_Rows_note_17 rfl rfl ?_
      refine V2_iload_n (i := 2) d_Rows_note_18 rfl rfl ?_
      refine V2_iastore (j := 3) d_Rows_note_19 (by decide) rfl (xixA (n := 3) rfl (by decide) (by decide)) rfl ?_
      refine V2_return d_Rows_note_20 rfl ?_
      refine V2.to (st' := []) ?_ rfl rfl rfl rfl
      refine V2_aload_n (i := 0) d_Rows_tryFrom_87 rfl rfl ?_
      refine V2_iload_n (i := 2) d_Rows_tryFrom_88 rfl rfl ?_
      refine V2_aload (i := 4) d_Rows_tryFrom_89 rfl ?_
      refine V2_callV [.int (3 : Int32), .ref 46] d_Rows_tryFrom_91 rfl rfl lk_Rows_113 mo_Rows_goesOn (by decide) rfl rfl rfl (Nat.le_of_ble_eq_true rfl) (Nat.le_of_ble_eq_true rfl) ?_
      have hC9 := hx.2.2.2.2.2.2.2.1
      have hs4 : scrC F (xp G1 40 3 (nI g)) := fun a b c e9 => (xp_row_ne (by omega)).trans ((f1 a (by omega)).trans ((g0 a (by omega)).trans (g1 a b c e9)))
      have hcx : ctxV F (xp G1 40 3 (nI g)) S (goS T (nI g) 63 (PN S)) aim n (3 + 1) (pre * 10 + g) (43 + 3) := ⟨hs4, (congrFun ((xp_row_ne (by decide)).trans ((f1 36 (by decide)).trans (g0 36 (by decide)))) 4).trans g2, (congrFun ((xp_row_ne (by decide)).trans ((f1 36 (by decide)).trans (g0 36 (by decide)))) 5).trans g3, digs_child hg10 (fun i hi9 => (xp_ne (Or.inr (by omega))).trans ((congrFun ((f1 40 (by decide)).trans (g0 40 (by decide))) i).trans ((g4 i hi9).trans (hx.2.2.2.1 i hi9)))) (xp_same _ _ _ _), pre_child hg10 hx.2.2.2.2.1, by rw [xp_row_ne (by decide)]; exact hc, hx.2.2.2.2.2.2.1.go, go_inv hC9, sim_child hln h5 hg10 hx.2.2.2.2.2.2.2.2⟩
      have hRg := HR _ (xp G1 40 3 (nI g)) _ g6 (fun a ha => (xp_row_ne (by omega)).trans ((f1 a (by omega)).trans (g0 a (by omega)))) (fun j hj => congrFun ((xp_row_ne (by decide)).trans ((f1 36 (by decide)).trans (g0 36 (by decide)))) j)
      have hB9 : B ((pre * 10 + g) * 10 ^ (n - (3 + 1))) (blk f (pre * 10 ^ (n - 3)) (g * 10 ^ (n - 4)) s0) := by
        have hB8 := blk_B HB (g * 10 ^ (n - 4)) _ _ hb
        rw [show pre * 10 ^ (n - 3) + g * 10 ^ (n - 4) = (pre * 10 + g) * 10 ^ (n - (3 + 1)) by rw [show n - 3 = (n - 4) + 1 by omega, Nat.pow_succ, Nat.add_mul, Nat.mul_assoc pre 10, Nat.mul_comm 10 (10 ^ (n - 4))]] at hB8
        exact hB8
      refine HV _ _ _ _ _ 3 _ hln hcx (HJ _ _ _ _ hln hg10 h5 hk) hB9 hRg (fun G2 b hf hv => ?_)
      obtain ⟨v1, va9, vl9⟩ := hf
      have va : G2 36 4 = aim := va9.trans hcx.2.1
      have vl : G2 36 5 = nI n := vl9.trans hcx.2.2.1
      refine V2_if_eq (tgt := 123) d_Rows_tryFrom_94 rfl (fun c2 => ?_) (fun c2 => ?_)
      · obtain ⟨v3, ev3⟩ : ∃ y : Int32, y = nI g + 1 := ⟨_, rfl⟩
        refine V2_iinc (i := 8) (v := v3) (l' := [some (.ref 36), some (.ref 1), some (.int (3 : Int32)), some (.ref 45), some (.ref 46), some (.int (gripM T 63 (PN S))), some (.int (pushSum T 63 (PN S))), some (.int (rubM T)), some (.int v3)]) d_Rows_tryFrom_123 rfl (by rw [ev3]; rfl) (xst_i (Nat.le_of_ble_eq_true rfl) rfl rfl) ?_
        refine V2_goto (tgt := 53) d_Rows_tryFrom_126 rfl ?_
        have eblk : blk f (pre * 10 ^ (n - 3)) ((g + 1) * 10 ^ (n - 4)) s0 = blk f ((pre * 10 + g) * 10 ^ (n - 4)) (10 ^ (n - 4)) (blk f (pre * 10 ^ (n - 3)) (g * 10 ^ (n - 4)) s0) := by
          rw [Nat.add_mul, Nat.one_mul, blk_add, show n - 3 = (n - 4) + 1 by omega, Nat.pow_succ, Nat.add_mul, Nat.mul_assoc pre 10, Nat.mul_comm 10 (10 ^ (n - 4))]
        rcases hv with ⟨v2, _⟩ | ⟨_, v2⟩
        · exfalso
          rw [v2] at c2
          exact absurd c2 (by decide)
        · rw [ev3, nI_1]
          exact V2.to (ih (g + 1) m G2 (by omega) (by omega) (fun a b c e9 => (v1 a (by omega) (by omega)).trans (hs4 a b c e9)) va vl (fun i hi9 => (congrFun (v1 40 (by decide) (by decide)) i).trans ((xp_ne (Or.inr (by omega))).trans ((congrFun ((f1 40 (by decide)).trans (g0 40 (by decide))) i).trans (g4 i hi9)))) (fun j hj => (v1 _ (by omega) (by omega)).trans ((xp_row_ne (by omega)).trans ((f1 _ (by omega)).trans ((g0 _ (by omega)).trans (g5 j hj))))) (by rw [eblk]; exact v2)) rfl rfl rfl rfl
      · refine V2_aload (i := 4) d_Rows_tryFrom_97 rfl ?_
        refine V2_get (v := G2 46 7) d_Rows_tryFrom_99 fl_Rows_80 (by decide) rfl (by decide) rfl rfl ?_
        refine V2_topi (fun v4 ev4 => ?_)
        refine V2_if_ne (tgt := 123) d_Rows_tryFrom_102 rfl (fun c5 => ?_) (fun c5 => ?_)
        · obtain ⟨v6, ev6⟩ : ∃ y : Int32, y = nI g + 1 := ⟨_, rfl⟩
          refine V2_iinc (i := 8) (v := v6) (l' := [some (.ref 36), some (.ref 1), some (.int (3 : Int32)), some (.ref 45), some (.ref 46), some (.int (gripM T 63 (PN S))), some (.int (pushSum T 63 (PN S))), some (.int (rubM T)), some (.int v6)]) d_Rows_tryFrom_123 rfl (by rw [ev6]; rfl) (xst_i (Nat.le_of_ble_eq_true rfl) rfl rfl) ?_
          refine V2_goto (tgt := 53) d_Rows_tryFrom_126 rfl ?_
          have eblk : blk f (pre * 10 ^ (n - 3)) ((g + 1) * 10 ^ (n - 4)) s0 = blk f ((pre * 10 + g) * 10 ^ (n - 4)) (10 ^ (n - 4)) (blk f (pre * 10 ^ (n - 3)) (g * 10 ^ (n - 4)) s0) := by
            rw [Nat.add_mul, Nat.one_mul, blk_add, show n - 3 = (n - 4) + 1 by omega, Nat.pow_succ, Nat.add_mul, Nat.mul_assoc pre 10, Nat.mul_comm 10 (10 ^ (n - 4))]
          rcases hv with ⟨_, v2, _⟩ | ⟨_, v2⟩
          · exfalso
            have h9 := c5
            subst ev6 ev4
            rw [v1 46 (by decide) (by decide), xp_row_ne (by decide), hc.2.2.2.2.2.2.2] at h9
            exact v2 ((go_inv (S := T) hC9).2.2.2.2.2.1.resolve_left h9)
          · rw [ev6, nI_1]
            exact V2.to (ih (g + 1) m G2 (by omega) (by omega) (fun a b c e9 => (v1 a (by omega) (by omega)).trans (hs4 a b c e9)) va vl (fun i hi9 => (congrFun (v1 40 (by decide) (by decide)) i).trans ((xp_ne (Or.inr (by omega))).trans ((congrFun ((f1 40 (by decide)).trans (g0 40 (by decide))) i).trans (g4 i hi9)))) (fun j hj => (v1 _ (by omega) (by omega)).trans ((xp_row_ne (by omega)).trans ((f1 _ (by omega)).trans ((g0 _ (by omega)).trans (g5 j hj))))) (by rw [eblk]; exact v2)) rfl rfl rfl rfl
        · refine V2_iload_n (i := 2) d_Rows_tryFrom_105 rfl rfl ?_
          refine V2_iconst (v := 1) d_Rows_tryFrom_106 rfl ?_
          refine V2_iadd d_Rows_tryFrom_107 ?_
          refine V2_lit (v := 4) (by decide) ?_
          refine V2_aload_n (i := 0) d_Rows_tryFrom_108 rfl rfl ?_
          refine V2_get (v := G2 36 5) d_Rows_tryFrom_109 fl_Rows_37 (by decide) rfl (by decide) rfl rfl ?_
          refine V2_topi (fun v7 ev7 => ?_)
          refine V2_icmp_ge (tgt := 123) d_Rows_tryFrom_112 rfl (fun c8 => ?_) (fun c8 => ?_)
          · obtain ⟨v9, ev9⟩ : ∃ y : Int32, y = nI g + 1 := ⟨_, rfl⟩
            refine V2_iinc (i := 8) (v := v9) (l' := [some (.ref 36), some (.ref 1), some (.int (3 : Int32)), some (.ref 45), some (.ref 46), some (.int (gripM T 63 (PN S))), some (.int (pushSum T 63 (PN S))), some (.int (rubM T)), some (.int v9)]) d_Rows_tryFrom_123 rfl (by rw [ev9]; rfl) (xst_i (Nat.le_of_ble_eq_true rfl) rfl rfl) ?_
            refine V2_goto (tgt := 53) d_Rows_tryFrom_126 rfl ?_
            have eblk : blk f (pre * 10 ^ (n - 3)) ((g + 1) * 10 ^ (n - 4)) s0 = blk f ((pre * 10 + g) * 10 ^ (n - 4)) (10 ^ (n - 4)) (blk f (pre * 10 ^ (n - 3)) (g * 10 ^ (n - 4)) s0) := by
              rw [Nat.add_mul, Nat.one_mul, blk_add, show n - 3 = (n - 4) + 1 by omega, Nat.pow_succ, Nat.add_mul, Nat.mul_assoc pre 10, Nat.mul_comm 10 (10 ^ (n - 4))]
            rcases hv with ⟨_, _, v2, _⟩ | ⟨_, v2⟩
            · exfalso
              have h9 := c8
              subst ev9 ev7 ev4
              rw [vl] at h9
              have := (nI_leI (a := n) (b := 4) (by omega) (by omega)).mp h9
              omega
            · rw [ev9, nI_1]
              exact V2.to (ih (g + 1) m G2 (by omega) (by omega) (fun a b c e9 => (v1 a (by omega) (by omega)).trans (hs4 a b c e9)) va vl (fun i hi9 => (congrFun (v1 40 (by decide) (by decide)) i).trans ((xp_ne (Or.inr (by omega))).trans ((congrFun ((f1 40 (by decide)).trans (g0 40 (by decide))) i).trans (g4 i hi9)))) (fun j hj => (v1 _ (by omega) (by omega)).trans ((xp_row_ne (by omega)).trans ((f1 _ (by omega)).trans ((g0 _ (by omega)).trans (g5 j hj))))) (by rw [eblk]; exact v2)) rfl rfl rfl rfl
          · refine V2_aload_n (i := 0) d_Rows_tryFrom_115 rfl rfl ?_
            refine V2_aload_n (i := 1) d_Rows_tryFrom_116 rfl rfl ?_
            refine V2_iload_n (i := 2) d_Rows_tryFrom_117 rfl rfl ?_
            refine V2_iconst (v := 1) d_Rows_tryFrom_118 rfl ?_
            refine V2_iadd d_Rows_tryFrom_119 ?_
            refine V2_lit (v := 4) (by decide) ?_
            refine V2_callV [.ref 1, .int (4 : Int32)] d_Rows_tryFrom_120 rfl rfl lk_Rows_88 mo_Rows_tryFrom (by decide) rfl rfl rfl (Nat.le_of_ble_eq_true rfl) (Nat.le_of_ble_eq_true rfl) ?_
            exfalso
            have h9 := c8
            subst ev7 ev4
            rw [vl] at h9
            exact h9 (nI_le (a := n) (b := 4) hn (by decide))
theorem c_tryFrom_3 {L : Nat} {xs : Nat → Int32} {d : Nat} {Q : Option Value → xF → Prop} {α : Type} {F : xF} {S T : Nat → Int32} {aim : Int32} {n pre : Nat} {f : Nat → α → α} {R : xF → α → Prop} {J K : Nat → Nat → (Nat → Int32) → Prop} {B : Nat → α → Prop} {s0 : α} {H : xF} (h : relW F 1 S) (hi : invS S) (hn : n ≤ 4) (hln : 3 < n) (HV : visV L xs F S aim n f R J K B) (HB : ∀ (a : Nat) (s : α), B a s → B (a + 1) (f a s)) (HR : stabR R) (HJ : ∀ (l pre g : Nat) (T : Nat → Int32), l < n → g < 10 → ¬ T 5 = 1 → K l pre T → J (l + 1) (pre * 10 + g) (goS T (nI g) 63 (PN S))) (hx : ctxV F H S T aim n 3 pre 45) (h5 : ¬ T 5 = 1) (hk : K 3 pre T) (hb : B (pre * 10 ^ (n - 3)) s0) (hR : R H s0) (hQ : ∀ G : xF, scrC F G → G 36 4 = aim → G 36 5 = nI n → (∀ i, i < 3 → G 40 i = H 40 i) → (∀ j, j ≤ 3 → G (42 + j) = H (42 + j)) → R G (blk f (pre * 10 ^ (n - 3)) (10 ^ (n - 3)) s0) → Q none G) : V2 L xs (d + 14) m_Rows_tryFrom 0 (xEntry [.ref 36, .ref 1, .int (3 : Int32)] 9) [] H Q := by
  refine V2.to (l' := [some (.ref 36), some (.ref 1), some (.int (3 : Int32)), none, none, none, none, none, none]) ?_ rfl rfl rfl rfl
  refine V2_aload_n (i := 0) d_Rows_tryFrom_0 rfl rfl ?_
  refine V2_iload_n (i := 2) d_Rows_tryFrom_1 rfl rfl ?_
  refine V2_callV [.int (3 : Int32)] d_Rows_tryFrom_2 rfl rfl lk_Rows_70 mo_Rows_carAt (by decide) rfl rfl rfl (Nat.le_of_ble_eq_true rfl) (Nat.le_of_ble_eq_true rfl) ?_
  refine V2.to (l' := [some (.ref 36), some (.int (3 : Int32))]) ?_ rfl rfl rfl rfl
  refine V2_iload_n (i := 1) d_Rows_carAt_0 rfl rfl ?_
  refine V2_if_lt (tgt := 22) d_Rows_carAt_1 rfl (fun c => (by first | exact absurd c (by decide) | exact absurd (by decide) c)) (fun _ => ?_)
  refine V2_iload_n (i := 1) d_Rows_carAt_4 rfl rfl ?_
  refine V2_aload_n (i := 0) d_Rows_carAt_5 rfl rfl ?_
  refine V2_getr (a := 37) d_Rows_carAt_6 fl_Rows_13 (by decide) rfl (by decide) rfl ?_
  refine V2_alen (t := 2) (v := 5) d_Rows_carAt_9 (by decide) rfl (by decide) rfl ?_
  refine V2_icmp_ge (tgt := 22) d_Rows_carAt_10 rfl (fun c => (by first | exact absurd c (by decide) | exact absurd (by decide) c)) (fun _ => ?_)
  refine V2_aload_n (i := 0) d_Rows_carAt_13 rfl rfl ?_
  refine V2_getr (a := 37) d_Rows_carAt_14 fl_Rows_13 (by decide) rfl (by decide) rfl ?_
  refine V2_iload_n (i := 1) d_Rows_carAt_17 rfl rfl ?_
  refine V2_aaload (t := 1) (a := 45) d_Rows_carAt_18 (by decide) rfl (by decide) (xixA (n := 3) rfl (by decide) (by decide)) rfl ?_
  refine V2_goto (tgt := 23) d_Rows_carAt_19 rfl ?_
  refine V2_areturn d_Rows_carAt_23 rfl (Or.inl ⟨_, rfl⟩) ?_
  refine V2.to (st' := [.ref 45]) ?_ rfl rfl rfl rfl
  refine V2_astore_n (i := 3) (l' := [some (.ref 36), some (.ref 1), some (.int (3 : Int32)), some (.ref 45), none, none, none, none, none]) d_Rows_tryFrom_5 rfl (xst_i (Nat.le_of_ble_eq_true rfl) rfl rfl) ?_
  refine V2_aload_n (i := 0) d_Rows_tryFrom_6 rfl rfl ?_
  refine V2_iload_n (i := 2) d_Rows_tryFrom_7 rfl rfl ?_
  refine V2_iconst (v := 1) d_Rows_tryFrom_8 rfl ?_
  refine V2_iadd d_Rows_tryFrom_9 ?_
  refine V2_lit (v := 4) (by decide) ?_
  refine V2_callV [.int (4 : Int32)] d_Rows_tryFrom_10 rfl rfl lk_Rows_70 mo_Rows_carAt (by decide) rfl rfl rfl (Nat.le_of_ble_eq_true rfl) (Nat.le_of_ble_eq_true rfl) ?_
  refine V2.to (l' := [some (.ref 36), some (.int (4 : Int32))]) ?_ rfl rfl rfl rfl
  refine V2_iload_n (i := 1) d_Rows_carAt_0 rfl rfl ?_
  refine V2_if_lt (tgt := 22) d_Rows_carAt_1 rfl (fun c => (by first | exact absurd c (by decide) | exact absurd (by decide) c)) (fun _ => ?_)
  refine V2_iload_n (i := 1) d_Rows_carAt_4 rfl rfl ?_
  refine V2_aload_n (i := 0) d_Rows_carAt_5 rfl rfl ?_
  refine V2_getr (a := 37) d_Rows_carAt_6 fl_Rows_13 (by decide) rfl (by decide) rfl ?_
  refine V2_alen (t := 2) (v := 5) d_Rows_carAt_9 (by decide) rfl (by decide) rfl ?_
  refine V2_icmp_ge (tgt := 22) d_Rows_carAt_10 rfl (fun c => (by first | exact absurd c (by decide) | exact absurd (by decide) c)) (fun _ => ?_)
  refine V2_aload_n (i := 0) d_Rows_carAt_13 rfl rfl ?_
  refine V2_getr (a := 37) d_Rows_carAt_14 fl_Rows_13 (by decide) rfl (by decide) rfl ?_
  refine V2_iload_n (i := 1) d_Rows_carAt_17 rfl rfl ?_
  refine V2_aaload (t := 1) (a := 46) d_Rows_carAt_18 (by decide) rfl (by decide) (xixA (n := 4) rfl (by decide) (by decide)) rfl ?_
  refine V2_goto (tgt := 23) d_Rows_carAt_19 rfl ?_
  refine V2_areturn d_Rows_carAt_23 rfl (Or.inl ⟨_, rfl⟩) ?_
  refine V2.to (st' := [.ref 46]) ?_ rfl rfl rfl rfl
  refine V2_astore (i := 4) (l' := [some (.ref 36), some (.ref 1), some (.int (3 : Int32)), some (.ref 45), some (.ref 46), none, none, none, none]) d_Rows_tryFrom_13 (xst_r (Nat.le_of_ble_eq_true rfl) rfl rfl) ?_
  refine V2_aload_n (i := 3) d_Rows_tryFrom_15 rfl rfl ?_
  refine V2_ifnull d_Rows_tryFrom_16 ?_
  refine V2_aload (i := 4) d_Rows_tryFrom_19 rfl ?_
  refine V2_ifnonnull (tgt := 25) d_Rows_tryFrom_21 rfl ?_
  refine V2_aload_n (i := 1) d_Rows_tryFrom_25 rfl rfl ?_
  refine V2_aload_n (i := 3) d_Rows_tryFrom_26 rfl rfl ?_
  refine V2_bipush (v := 63) d_Rows_tryFrom_27 rfl ?_
  refine V2_callV [.ref 45, .int (63 : Int32)] d_Rows_tryFrom_29 rfl rfl lk_Rows_94 mo_World_gripOf (by decide) rfl rfl rfl (Nat.le_of_ble_eq_true rfl) (Nat.le_of_ble_eq_true rfl) ?_
  obtain ⟨a1, a2, a3, a4, a5⟩ := drv h hi hx.1 hx.2.2.2.2.2.2.1
  refine c_World_gripOf_45 hx.2.2.2.2.2.1 a1 a2 a3 (fun q10 => ?_)
  refine V2_istore (i := 5) (l' := [some (.ref 36), some (.ref 1), some (.int (3 : Int32)), some (.ref 45), some (.ref 46), some (.int (gripM T 63 (PN S))), none, none, none]) d_Rows_tryFrom_32 (xst_r (Nat.le_of_ble_eq_true rfl) rfl rfl) ?_
  refine V2_aload_n (i := 1) d_Rows_tryFrom_34 rfl rfl ?_
  refine V2_aload_n (i := 3) d_Rows_tryFrom_35 rfl rfl ?_
  refine V2_bipush (v := 63) d_Rows_tryFrom_36 rfl ?_
  refine V2_callV [.ref 45, .int (63 : Int32)] d_Rows_tryFrom_38 rfl rfl lk_Rows_98 mo_World_pushOf (by decide) rfl rfl rfl (Nat.le_of_ble_eq_true rfl) (Nat.le_of_ble_eq_true rfl) ?_
  obtain ⟨b1, b2, b3, b4, b5⟩ := drv (G := xrw H 10 q10) h hi (fun a i1 i2 i3 => (xrw_ne i1).trans (hx.1 a i1 i2 i3)) hx.2.2.2.2.2.2.1
  refine c_World_pushOf_45 (by rw [xrw_ne (by decide)]; exact hx.2.2.2.2.2.1) b1 ?_
  refine V2_istore (i := 6) (l' := [some (.ref 36), some (.ref 1), some (.int (3 : Int32)), some (.ref 45), some (.ref 46), some (.int (gripM T 63 (PN S))), some (.int (pushSum T 63 (PN S))), none, none]) d_Rows_tryFrom_41 (xst_i (Nat.le_of_ble_eq_true rfl) rfl rfl) ?_
  refine V2_aload_n (i := 1) d_Rows_tryFrom_43 rfl rfl ?_
  refine V2_aload_n (i := 3) d_Rows_tryFrom_44 rfl rfl ?_
  refine V2_callV [.ref 45] d_Rows_tryFrom_45 rfl rfl lk_Rows_101 mo_World_rubOf (by decide) rfl rfl rfl (Nat.le_of_ble_eq_true rfl) (Nat.le_of_ble_eq_true rfl) ?_
  refine c_World_rubOf_45 (by rw [xrw_ne (by decide)]; exact hx.2.2.2.2.2.1) b4 b5 (fun q13 => ?_)
  refine V2_istore (i := 7) (l' := [some (.ref 36), some (.ref 1), some (.int (3 : Int32)), some (.ref 45), some (.ref 46), some (.int (gripM T 63 (PN S))), some (.int (pushSum T 63 (PN S))), some (.int (rubM T)), none]) d_Rows_tryFrom_48 (xst_i (Nat.le_of_ble_eq_true rfl) rfl rfl) ?_
  refine V2_iconst (v := 0) d_Rows_tryFrom_50 rfl ?_
  refine V2_istore (i := 8) (l' := [some (.ref 36), some (.ref 1), some (.int (3 : Int32)), some (.ref 45), some (.ref 46), some (.int (gripM T 63 (PN S))), some (.int (pushSum T 63 (PN S))), some (.int (rubM T)), some (.int (0 : Int32))]) d_Rows_tryFrom_51 (xst_i (Nat.le_of_ble_eq_true rfl) rfl rfl) ?_
  exact V2.to (c_tryFrom_3_loop h hi hn hln HV HB HR HJ hx h5 hk hb hQ 11 0 10 (xrw (xrw H 10 q10) 13 q13) (by omega) (by omega) (fun a i1 i2 i3 => (xrw_ne i2).trans ((xrw_ne i1).trans (hx.1 a i1 i2 i3))) hx.2.1 hx.2.2.1 (fun i _ => rfl) (fun j hj => (xrw_ne (by omega)).trans (xrw_ne (by omega))) (by rw [Nat.zero_mul]; exact HR _ _ _ hR (fun a ha => (xrw_ne (by omega)).trans (xrw_ne (by omega))) (fun j hj => rfl))) rfl rfl rfl rfl
theorem c_tryFrom_2_loop {L : Nat} {xs : Nat → Int32} {d : Nat} {Q : Option Value → xF → Prop} {α : Type} {F : xF} {S T : Nat → Int32} {aim : Int32} {n pre : Nat} {f : Nat → α → α} {R : xF → α → Prop} {J K : Nat → Nat → (Nat → Int32) → Prop} {B : Nat → α → Prop} {s0 : α} {H : xF} (h : relW F 1 S) (hi : invS S) (hn : n ≤ 4) (hln : 2 < n) (HV : visV L xs F S aim n f R J K B) (HB : ∀ (a : Nat) (s : α), B a s → B (a + 1) (f a s)) (HR : stabR R) (HJ : ∀ (l pre g : Nat) (T : Nat → Int32), l < n → g < 10 → ¬ T 5 = 1 → K l pre T → J (l + 1) (pre * 10 + g) (goS T (nI g) 63 (PN S))) (hx : ctxV F H S T aim n 2 pre 44) (h5 : ¬ T 5 = 1) (hk : K 2 pre T) (hb : B (pre * 10 ^ (n - 2)) s0) (hQ : (∀ G : xF, scrC F G → G 36 4 = aim → G 36 5 = nI n → (∀ i, i < 2 → G 40 i = H 40 i) → (∀ j, j ≤ 2 → G (42 + j) = H (42 + j)) → R G (blk f (pre * 10 ^ (n - 2)) (10 ^ (n - 2)) s0) → Q none G)) : ∀ (n_ : Nat) (g m : Nat) (G : xF), g + m = 10 → m < n_ → scrC F G → G 36 4 = aim → G 36 5 = nI n → (∀ i, i < 2 → G 40 i = H 40 i) → (∀ j, j ≤ 2 → G (42 + j) = H (42 + j)) → R G (blk f (pre * 10 ^ (n - 2)) (g * 10 ^ (n - 3)) s0) → V2 L xs (d + 16) m_Rows_tryFrom 53 [some (.ref 36), some (.ref 1), some (.int (2 : Int32)), some (.ref 44), some (.ref 45), some (.int (gripM T 63 (PN S))), some (.int (pushSum T 63 (PN S))), some (.int (rubM T)), some (.int (nI g))] [] G Q := by
  intro n_
  induction n_ with
  | zero => exact fun g m G h1 h2 => absurd h2 (by omega)
  | succ n_ ih =>
    intro g m G h1 h2 g1 g2 g3 g4 g5 g6
    refine V2_iload (i := 8) d_Rows_tryFrom_53 rfl ?_
    refine V2_bipush (v := 9) d_Rows_tryFrom_55 rfl ?_
    refine V2_icmp_gt (tgt := 129) d_Rows_tryFrom_57 rfl (fun c1 => ?_) (fun c1 => ?_)
    · refine V2_return d_Rows_tryFrom_129 rfl ?_
      have hg : g = 10 := by
        have := (nI_ltI (a := 9) (b := g) (by omega) (by omega)).mp c1
        omega
      subst hg
      have e10 : 10 * 10 ^ (n - 3) = 10 ^ (n - 2) := by
        rw [show n - 2 = (n - 3) + 1 by omega, Nat.pow_succ, Nat.mul_comm]
      rw [e10] at g6
      exact hQ G g1 g2 g3 g4 g5 g6
    · have hg10 : g < 10 := by
        have h9 := c1
        have : ¬ 9 < g := fun hh => h9 ((nI_ltI (a := 9) (b := g) (by omega) (by omega)).mpr hh)
        omega
      obtain ⟨m, rfl⟩ : ∃ m2, m = m2 + 1 := ⟨m - 1, by omega⟩
      have hcA : relCr (G 44) T := by rw [g5 2 (by decide)]; exact hx.2.2.2.2.2.1
      refine V2_aload (i := 4) d_Rows_tryFrom_60 rfl ?_
      refine V2_aload_n (i := 3) d_Rows_tryFrom_62 rfl rfl ?_
      refine V2_callV [.ref 44] d_Rows_tryFrom_63 rfl rfl lk_Rows_84 mo_Car_copyFrom (by decide) rfl rfl rfl (Nat.le_of_ble_eq_true rfl) (Nat.le_of_ble_eq_true rfl) ?_
      refine c_Car_copy_45_44 (by rw [hcA.2.2.2.2.2.2.2]; exact hx.2.2.2.2.2.2.2.1.2.2.2.2.2.1) (fun H1 p0 g0 => ?_)
      refine V2_aload (i := 4) d_Rows_tryFrom_66 rfl ?_
      refine V2_iload (i := 8) d_Rows_tryFrom_68 rfl ?_
      refine V2_iload (i := 5) d_Rows_tryFrom_70 rfl ?_
      refine V2_iload (i := 6) d_Rows_tryFrom_72 rfl ?_
      refine V2_iload (i := 7) d_Rows_tryFrom_74 rfl ?_
      refine V2_callV [.int (nI g), .int (gripM T 63 (PN S)), .int (pushSum T 63 (PN S)), .int (rubM T)] d_Rows_tryFrom_76 rfl rfl lk_Rows_105 mo_Car_go (by decide) rfl rfl rfl (Nat.le_of_ble_eq_true rfl) (Nat.le_of_ble_eq_true rfl) ?_
      refine c_goC45 (relCr_row hcA p0) hx.2.2.2.2.2.2.2.1 hg10 (fun G1 b1 hc f1 => ?_)
      refine V2_pop d_Rows_tryFrom_79 rfl ?_
      refine V2_aload_n (i := 0) d_Rows_tryFrom_80 rfl rfl ?_
      refine V2_iload_n (i := 2) d_Rows_tryFrom_81 rfl rfl ?_
      refine V2_iload (i := 8) d_Rows_tryFrom_82 rfl ?_
      refine V2_callV [.int (2 : Int32), .int (nI g)] d_Rows_tryFrom_84 rfl rfl lk_Rows_109 mo_Rows_note (by decide) rfl rfl rfl (Nat.le_of_ble_eq_true rfl) (Nat.le_of_ble_eq_true rfl) ?_
      refine V2.to (l' := [some (.ref 36), some (.int (2 : Int32)), some (.int (nI g))]) ?_ rfl rfl rfl rfl
      refine V2_iload_n (i := 1) d_Rows_note_0 rfl rfl ?_
      refine V2_if_lt (tgt := 20) d_Rows_note_1 rfl (fun c => (by first | exact absurd c (by decide) | exact absurd (by decide) c)) (fun _ => ?_)
      refine V2_iload_n (i := 1) d_Rows_note_4 rfl rfl ?_
      refine V2_aload_n (i := 0) d_Rows_note_5 rfl rfl ?_
      refine V2_getr (a := 40) d_Rows_note_6 fl_Rows_26 (by decide) rfl (by decide) rfl ?_
      refine V2_alen (t := 0) (v := 4) d_Rows_note_9 (by decide) rfl (by decide) rfl ?_
      refine V2_icmp_ge (tgt := 20) d_Rows_note_10 rfl (fun c => (by first | exact absurd c (by decide) | exact absurd (by decide) c)) (fun _ => ?_)
      refine V2_aload_n (i := 0) d_Rows_note_13 rfl rfl ?_
      refine V2_getr (a := 40) d_Rows_note_14 fl_Rows_26 (by decide) rfl (by decide) rfl ?_
      refine V2_iload_n (i := 1) d_Rows_note_17 rfl rfl ?_
      refine V2_iload_n (i := 2) d_Rows_note_18 rfl rfl ?_
      refine V2_iastore (j := 2) d_Rows_note_19 (by decide) rfl (xixA (n := 2) rfl (by decide) (by decide)) rfl ?_
      refine V2_return d_Rows_note_20 rfl ?_
      refine V2.to (st' := []) ?_ rfl rfl rfl rfl
      refine V2_aload_n (i := 0) d_Rows_tryFrom_87 rfl rfl ?_
      refine V2_iload_n (i := 2) d_Rows_tryFrom_88 rfl rfl ?_
      refine V2_aload (i := 4) d_Rows_tryFrom_89 rfl ?_
      refine V2_callV [.int (2 : Int32), .ref 45] d_Rows_tryFrom_91 rfl rfl lk_Rows_113 mo_Rows_goesOn (by decide) rfl rfl rfl (Nat.le_of_ble_eq_true rfl) (Nat.le_of_ble_eq_true rfl) ?_
      have hC9 := hx.2.2.2.2.2.2.2.1
      have hs4 : scrC F (xp G1 40 2 (nI g)) := fun a b c e9 => (xp_row_ne (by omega)).trans ((f1 a (by omega)).trans ((g0 a (by omega)).trans (g1 a b c e9)))
      have hcx : ctxV F (xp G1 40 2 (nI g)) S (goS T (nI g) 63 (PN S)) aim n (2 + 1) (pre * 10 + g) (43 + 2) := ⟨hs4, (congrFun ((xp_row_ne (by decide)).trans ((f1 36 (by decide)).trans (g0 36 (by decide)))) 4).trans g2, (congrFun ((xp_row_ne (by decide)).trans ((f1 36 (by decide)).trans (g0 36 (by decide)))) 5).trans g3, digs_child hg10 (fun i hi9 => (xp_ne (Or.inr (by omega))).trans ((congrFun ((f1 40 (by decide)).trans (g0 40 (by decide))) i).trans ((g4 i hi9).trans (hx.2.2.2.1 i hi9)))) (xp_same _ _ _ _), pre_child hg10 hx.2.2.2.2.1, by rw [xp_row_ne (by decide)]; exact hc, hx.2.2.2.2.2.2.1.go, go_inv hC9, sim_child hln h5 hg10 hx.2.2.2.2.2.2.2.2⟩
      have hRg := HR _ (xp G1 40 2 (nI g)) _ g6 (fun a ha => (xp_row_ne (by omega)).trans ((f1 a (by omega)).trans (g0 a (by omega)))) (fun j hj => congrFun ((xp_row_ne (by decide)).trans ((f1 36 (by decide)).trans (g0 36 (by decide)))) j)
      have hB9 : B ((pre * 10 + g) * 10 ^ (n - (2 + 1))) (blk f (pre * 10 ^ (n - 2)) (g * 10 ^ (n - 3)) s0) := by
        have hB8 := blk_B HB (g * 10 ^ (n - 3)) _ _ hb
        rw [show pre * 10 ^ (n - 2) + g * 10 ^ (n - 3) = (pre * 10 + g) * 10 ^ (n - (2 + 1)) by rw [show n - 2 = (n - 3) + 1 by omega, Nat.pow_succ, Nat.add_mul, Nat.mul_assoc pre 10, Nat.mul_comm 10 (10 ^ (n - 3))]] at hB8
        exact hB8
      refine HV _ _ _ _ _ 2 _ hln hcx (HJ _ _ _ _ hln hg10 h5 hk) hB9 hRg (fun G2 b hf hv => ?_)
      obtain ⟨v1, va9, vl9⟩ := hf
      have va : G2 36 4 = aim := va9.trans hcx.2.1
      have vl : G2 36 5 = nI n := vl9.trans hcx.2.2.1
      refine V2_if_eq (tgt := 123) d_Rows_tryFrom_94 rfl (fun c2 => ?_) (fun c2 => ?_)
      · obtain ⟨v3, ev3⟩ : ∃ y : Int32, y = nI g + 1 := ⟨_, rfl⟩
        refine V2_iinc (i := 8) (v := v3) (l' := [some (.ref 36), some (.ref 1), some (.int (2 : Int32)), some (.ref 44), some (.ref 45), some (.int (gripM T 63 (PN S))), some (.int (pushSum T 63 (PN S))), some (.int (rubM T)), some (.int v3)]) d_Rows_tryFrom_123 rfl (by rw [ev3]; rfl) (xst_i (Nat.le_of_ble_eq_true rfl) rfl rfl) ?_
        refine V2_goto (tgt := 53) d_Rows_tryFrom_126 rfl ?_
        have eblk : blk f (pre * 10 ^ (n - 2)) ((g + 1) * 10 ^ (n - 3)) s0 = blk f ((pre * 10 + g) * 10 ^ (n - 3)) (10 ^ (n - 3)) (blk f (pre * 10 ^ (n - 2)) (g * 10 ^ (n - 3)) s0) := by
          rw [Nat.add_mul, Nat.one_mul, blk_add, show n - 2 = (n - 3) + 1 by omega, Nat.pow_succ, Nat.add_mul, Nat.mul_assoc pre 10, Nat.mul_comm 10 (10 ^ (n - 3))]
        rcases hv with ⟨v2, _⟩ | ⟨_, v2⟩
        · exfalso
          rw [v2] at c2
          exact absurd c2 (by decide)
        · rw [ev3, nI_1]
          exact V2.to (ih (g + 1) m G2 (by omega) (by omega) (fun a b c e9 => (v1 a (by omega) (by omega)).trans (hs4 a b c e9)) va vl (fun i hi9 => (congrFun (v1 40 (by decide) (by decide)) i).trans ((xp_ne (Or.inr (by omega))).trans ((congrFun ((f1 40 (by decide)).trans (g0 40 (by decide))) i).trans (g4 i hi9)))) (fun j hj => (v1 _ (by omega) (by omega)).trans ((xp_row_ne (by omega)).trans ((f1 _ (by omega)).trans ((g0 _ (by omega)).trans (g5 j hj))))) (by rw [eblk]; exact v2)) rfl rfl rfl rfl
      · refine V2_aload (i := 4) d_Rows_tryFrom_97 rfl ?_
        refine V2_get (v := G2 45 7) d_Rows_tryFrom_99 fl_Rows_80 (by decide) rfl (by decide) rfl rfl ?_
        refine V2_topi (fun v4 ev4 => ?_)
        refine V2_if_ne (tgt := 123) d_Rows_tryFrom_102 rfl (fun c5 => ?_) (fun c5 => ?_)
        · obtain ⟨v6, ev6⟩ : ∃ y : Int32, y = nI g + 1 := ⟨_, rfl⟩
          refine V2_iinc (i := 8) (v := v6) (l' := [some (.ref 36), some (.ref 1), some (.int (2 : Int32)), some (.ref 44), some (.ref 45), some (.int (gripM T 63 (PN S))), some (.int (pushSum T 63 (PN S))), some (.int (rubM T)), some (.int v6)]) d_Rows_tryFrom_123 rfl (by rw [ev6]; rfl) (xst_i (Nat.le_of_ble_eq_true rfl) rfl rfl) ?_
          refine V2_goto (tgt := 53) d_Rows_tryFrom_126 rfl ?_
          have eblk : blk f (pre * 10 ^ (n - 2)) ((g + 1) * 10 ^ (n - 3)) s0 = blk f ((pre * 10 + g) * 10 ^ (n - 3)) (10 ^ (n - 3)) (blk f (pre * 10 ^ (n - 2)) (g * 10 ^ (n - 3)) s0) := by
            rw [Nat.add_mul, Nat.one_mul, blk_add, show n - 2 = (n - 3) + 1 by omega, Nat.pow_succ, Nat.add_mul, Nat.mul_assoc pre 10, Nat.mul_comm 10 (10 ^ (n - 3))]
          rcases hv with ⟨_, v2, _⟩ | ⟨_, v2⟩
          · exfalso
            have h9 := c5
            subst ev6 ev4
            rw [v1 45 (by decide) (by decide), xp_row_ne (by decide), hc.2.2.2.2.2.2.2] at h9
            exact v2 ((go_inv (S := T) hC9).2.2.2.2.2.1.resolve_left h9)
          · rw [ev6, nI_1]
            exact V2.to (ih (g + 1) m G2 (by omega) (by omega) (fun a b c e9 => (v1 a (by omega) (by omega)).trans (hs4 a b c e9)) va vl (fun i hi9 => (congrFun (v1 40 (by decide) (by decide)) i).trans ((xp_ne (Or.inr (by omega))).trans ((congrFun ((f1 40 (by decide)).trans (g0 40 (by decide))) i).trans (g4 i hi9)))) (fun j hj => (v1 _ (by omega) (by omega)).trans ((xp_row_ne (by omega)).trans ((f1 _ (by omega)).trans ((g0 _ (by omega)).trans (g5 j hj))))) (by rw [eblk]; exact v2)) rfl rfl rfl rfl
        · refine V2_iload_n (i := 2) d_Rows_tryFrom_105 rfl rfl ?_
          refine V2_iconst (v := 1) d_Rows_tryFrom_106 rfl ?_
          refine V2_iadd d_Rows_tryFrom_107 ?_
          refine V2_lit (v := 3) (by decide) ?_
          refine V2_aload_n (i := 0) d_Rows_tryFrom_108 rfl rfl ?_
          refine V2_get (v := G2 36 5) d_Rows_tryFrom_109 fl_Rows_37 (by decide) rfl (by decide) rfl rfl ?_
          refine V2_topi (fun v7 ev7 => ?_)
          refine V2_icmp_ge (tgt := 123) d_Rows_tryFrom_112 rfl (fun c8 => ?_) (fun c8 => ?_)
          · obtain ⟨v9, ev9⟩ : ∃ y : Int32, y = nI g + 1 := ⟨_, rfl⟩
            refine V2_iinc (i := 8) (v := v9) (l' := [some (.ref 36), some (.ref 1), some (.int (2 : Int32)), some (.ref 44), some (.ref 45), some (.int (gripM T 63 (PN S))), some (.int (pushSum T 63 (PN S))), some (.int (rubM T)), some (.int v9)]) d_Rows_tryFrom_123 rfl (by rw [ev9]; rfl) (xst_i (Nat.le_of_ble_eq_true rfl) rfl rfl) ?_
            refine V2_goto (tgt := 53) d_Rows_tryFrom_126 rfl ?_
            have eblk : blk f (pre * 10 ^ (n - 2)) ((g + 1) * 10 ^ (n - 3)) s0 = blk f ((pre * 10 + g) * 10 ^ (n - 3)) (10 ^ (n - 3)) (blk f (pre * 10 ^ (n - 2)) (g * 10 ^ (n - 3)) s0) := by
              rw [Nat.add_mul, Nat.one_mul, blk_add, show n - 2 = (n - 3) + 1 by omega, Nat.pow_succ, Nat.add_mul, Nat.mul_assoc pre 10, Nat.mul_comm 10 (10 ^ (n - 3))]
            rcases hv with ⟨_, _, v2, _⟩ | ⟨_, v2⟩
            · exfalso
              have h9 := c8
              subst ev9 ev7 ev4
              rw [vl] at h9
              have := (nI_leI (a := n) (b := 3) (by omega) (by omega)).mp h9
              omega
            · rw [ev9, nI_1]
              exact V2.to (ih (g + 1) m G2 (by omega) (by omega) (fun a b c e9 => (v1 a (by omega) (by omega)).trans (hs4 a b c e9)) va vl (fun i hi9 => (congrFun (v1 40 (by decide) (by decide)) i).trans ((xp_ne (Or.inr (by omega))).trans ((congrFun ((f1 40 (by decide)).trans (g0 40 (by decide))) i).trans (g4 i hi9)))) (fun j hj => (v1 _ (by omega) (by omega)).trans ((xp_row_ne (by omega)).trans ((f1 _ (by omega)).trans ((g0 _ (by omega)).trans (g5 j hj))))) (by rw [eblk]; exact v2)) rfl rfl rfl rfl
          · refine V2_aload_n (i := 0) d_Rows_tryFrom_115 rfl rfl ?_
            refine V2_aload_n (i := 1) d_Rows_tryFrom_116 rfl rfl ?_
            refine V2_iload_n (i := 2) d_Rows_tryFrom_117 rfl rfl ?_
            refine V2_iconst (v := 1) d_Rows_tryFrom_118 rfl ?_
            refine V2_iadd d_Rows_tryFrom_119 ?_
            refine V2_lit (v := 3) (by decide) ?_
            refine V2_callV [.ref 1, .int (3 : Int32)] d_Rows_tryFrom_120 rfl rfl lk_Rows_88 mo_Rows_tryFrom (by decide) rfl rfl rfl (Nat.le_of_ble_eq_true rfl) (Nat.le_of_ble_eq_true rfl) ?_
            have hl9 : 3 < n := by
              have h9 := c8
              subst ev7 ev4
              rw [vl] at h9
              exact Nat.not_le.mp (fun hh => h9 ((nI_leI (a := n) (b := 3) (by omega) (by omega)).mpr hh))
            have h59 : ¬ goS T (nI g) 63 (PN S) 5 = 1 := by
              intro hh
              have h9 := c5
              subst ev7 ev4
              rw [v1 45 (by decide) (by decide), xp_row_ne (by decide), hc.2.2.2.2.2.2.2, hh] at h9
              exact absurd h9 (by decide)
            have hv2 : K (2 + 1) (pre * 10 + g) (goS T (nI g) 63 (PN S)) ∧ R G2 (blk f (pre * 10 ^ (n - 2)) (g * 10 ^ (n - 3)) s0) := by
              rcases hv with ⟨_, _, _, v2⟩ | ⟨v3, _⟩
              · exact v2
              · exfalso
                rcases v3 with v3 | ⟨_, v3 | v3⟩
                · exact c2 v3
                · exact h59 v3
                · omega
            have hcx2 : ctxV F G2 S (goS T (nI g) 63 (PN S)) aim n 3 (pre * 10 + g) 45 := ⟨fun a b c e9 => (v1 a (by omega) (by omega)).trans (hs4 a b c e9), va, vl, fun i hi9 => (congrFun (v1 40 (by decide) (by decide)) i).trans (hcx.2.2.2.1 i hi9), hcx.2.2.2.2.1, by rw [v1 45 (by decide) (by decide)]; exact hcx.2.2.2.2.2.1, hcx.2.2.2.2.2.2⟩
            refine c_tryFrom_3 h hi hn hl9 HV HB HR HJ hcx2 h59 hv2.1 hB9 hv2.2 (fun G3 r1 r2 r3 r4 r5 r6 => ?_)
            obtain ⟨v10, ev10⟩ : ∃ y : Int32, y = nI g + 1 := ⟨_, rfl⟩
            refine V2_iinc (i := 8) (v := v10) (l' := [some (.ref 36), some (.ref 1), some (.int (2 : Int32)), some (.ref 44), some (.ref 45), some (.int (gripM T 63 (PN S))), some (.int (pushSum T 63 (PN S))), some (.int (rubM T)), some (.int v10)]) d_Rows_tryFrom_123 rfl (by rw [ev10]; rfl) (xst_i (Nat.le_of_ble_eq_true rfl) rfl rfl) ?_
            refine V2_goto (tgt := 53) d_Rows_tryFrom_126 rfl ?_
            have eblk : blk f (pre * 10 ^ (n - 2)) ((g + 1) * 10 ^ (n - 3)) s0 = blk f ((pre * 10 + g) * 10 ^ (n - 3)) (10 ^ (n - 3)) (blk f (pre * 10 ^ (n - 2)) (g * 10 ^ (n - 3)) s0) := by
              rw [Nat.add_mul, Nat.one_mul, blk_add, show n - 2 = (n - 3) + 1 by omega, Nat.pow_succ, Nat.add_mul, Nat.mul_assoc pre 10, Nat.mul_comm 10 (10 ^ (n - 3))]
            rw [ev10, nI_1]
            exact V2.to (ih (g + 1) m G3 (by omega) (by omega) r1 r2 r3 (fun i hi9 => (r4 i (by omega)).trans ((congrFun (v1 40 (by decide) (by decide)) i).trans ((xp_ne (Or.inr (by omega))).trans ((congrFun ((f1 40 (by decide)).trans (g0 40 (by decide))) i).trans (g4 i hi9))))) (fun j hj => (r5 j (by omega)).trans ((v1 _ (by omega) (by omega)).trans ((xp_row_ne (by omega)).trans ((f1 _ (by omega)).trans ((g0 _ (by omega)).trans (g5 j hj)))))) (by rw [eblk]; exact r6)) rfl rfl rfl rfl
theorem c_tryFrom_2 {L : Nat} {xs : Nat → Int32} {d : Nat} {Q : Option Value → xF → Prop} {α : Type} {F : xF} {S T : Nat → Int32} {aim : Int32} {n pre : Nat} {f : Nat → α → α} {R : xF → α → Prop} {J K : Nat → Nat → (Nat → Int32) → Prop} {B : Nat → α → Prop} {s0 : α} {H : xF} (h : relW F 1 S) (hi : invS S) (hn : n ≤ 4) (hln : 2 < n) (HV : visV L xs F S aim n f R J K B) (HB : ∀ (a : Nat) (s : α), B a s → B (a + 1) (f a s)) (HR : stabR R) (HJ : ∀ (l pre g : Nat) (T : Nat → Int32), l < n → g < 10 → ¬ T 5 = 1 → K l pre T → J (l + 1) (pre * 10 + g) (goS T (nI g) 63 (PN S))) (hx : ctxV F H S T aim n 2 pre 44) (h5 : ¬ T 5 = 1) (hk : K 2 pre T) (hb : B (pre * 10 ^ (n - 2)) s0) (hR : R H s0) (hQ : ∀ G : xF, scrC F G → G 36 4 = aim → G 36 5 = nI n → (∀ i, i < 2 → G 40 i = H 40 i) → (∀ j, j ≤ 2 → G (42 + j) = H (42 + j)) → R G (blk f (pre * 10 ^ (n - 2)) (10 ^ (n - 2)) s0) → Q none G) : V2 L xs (d + 16) m_Rows_tryFrom 0 (xEntry [.ref 36, .ref 1, .int (2 : Int32)] 9) [] H Q := by
  refine V2.to (l' := [some (.ref 36), some (.ref 1), some (.int (2 : Int32)), none, none, none, none, none, none]) ?_ rfl rfl rfl rfl
  refine V2_aload_n (i := 0) d_Rows_tryFrom_0 rfl rfl ?_
  refine V2_iload_n (i := 2) d_Rows_tryFrom_1 rfl rfl ?_
  refine V2_callV [.int (2 : Int32)] d_Rows_tryFrom_2 rfl rfl lk_Rows_70 mo_Rows_carAt (by decide) rfl rfl rfl (Nat.le_of_ble_eq_true rfl) (Nat.le_of_ble_eq_true rfl) ?_
  refine V2.to (l' := [some (.ref 36), some (.int (2 : Int32))]) ?_ rfl rfl rfl rfl
  refine V2_iload_n (i := 1) d_Rows_carAt_0 rfl rfl ?_
  refine V2_if_lt (tgt := 22) d_Rows_carAt_1 rfl (fun c => (by first | exact absurd c (by decide) | exact absurd (by decide) c)) (fun _ => ?_)
  refine V2_iload_n (i := 1) d_Rows_carAt_4 rfl rfl ?_
  refine V2_aload_n (i := 0) d_Rows_carAt_5 rfl rfl ?_
  refine V2_getr (a := 37) d_Rows_carAt_6 fl_Rows_13 (by decide) rfl (by decide) rfl ?_
  refine V2_alen (t := 2) (v := 5) d_Rows_carAt_9 (by decide) rfl (by decide) rfl ?_
  refine V2_icmp_ge (tgt := 22) d_Rows_carAt_10 rfl (fun c => (by first | exact absurd c (by decide) | exact absurd (by decide) c)) (fun _ => ?_)
  refine V2_aload_n (i := 0) d_Rows_carAt_13 rfl rfl ?_
  refine V2_getr (a := 37) d_Rows_carAt_14 fl_Rows_13 (by decide) rfl (by decide) rfl ?_
  refine V2_iload_n (i := 1) d_Rows_carAt_17 rfl rfl ?_
  refine V2_aaload (t := 1) (a := 44) d_Rows_carAt_18 (by decide) rfl (by decide) (xixA (n := 2) rfl (by decide) (by decide)) rfl ?_
  refine V2_goto (tgt := 23) d_Rows_carAt_19 rfl ?_
  refine V2_areturn d_Rows_carAt_23 rfl (Or.inl ⟨_, rfl⟩) ?_
  refine V2.to (st' := [.ref 44]) ?_ rfl rfl rfl rfl
  refine V2_astore_n (i := 3) (l' := [some (.ref 36), some (.ref 1), some (.int (2 : Int32)), some (.ref 44), none, none, none, none, none]) d_Rows_tryFrom_5 rfl (xst_i (Nat.le_of_ble_eq_true rfl) rfl rfl) ?_
  refine V2_aload_n (i := 0) d_Rows_tryFrom_6 rfl rfl ?_
  refine V2_iload_n (i := 2) d_Rows_tryFrom_7 rfl rfl ?_
  refine V2_iconst (v := 1) d_Rows_tryFrom_8 rfl ?_
  refine V2_iadd d_Rows_tryFrom_9 ?_
  refine V2_lit (v := 3) (by decide) ?_
  refine V2_callV [.int (3 : Int32)] d_Rows_tryFrom_10 rfl rfl lk_Rows_70 mo_Rows_carAt (by decide) rfl rfl rfl (Nat.le_of_ble_eq_true rfl) (Nat.le_of_ble_eq_true rfl) ?_
  refine V2.to (l' := [some (.ref 36), some (.int (3 : Int32))]) ?_ rfl rfl rfl rfl
  refine V2_iload_n (i := 1) d_Rows_carAt_0 rfl rfl ?_
  refine V2_if_lt (tgt := 22) d_Rows_carAt_1 rfl (fun c => (by first | exact absurd c (by decide) | exact absurd (by decide) c)) (fun _ => ?_)
  refine V2_iload_n (i := 1) d_Rows_carAt_4 rfl rfl ?_
  refine V2_aload_n (i := 0) d_Rows_carAt_5 rfl rfl ?_
  refine V2_getr (a := 37) d_Rows_carAt_6 fl_Rows_13 (by decide) rfl (by decide) rfl ?_
  refine V2_alen (t := 2) (v := 5) d_Rows_carAt_9 (by decide) rfl (by decide) rfl ?_
  refine V2_icmp_ge (tgt := 22) d_Rows_carAt_10 rfl (fun c => (by first | exact absurd c (by decide) | exact absurd (by decide) c)) (fun _ => ?_)
  refine V2_aload_n (i := 0) d_Rows_carAt_13 rfl rfl ?_
  refine V2_getr (a := 37) d_Rows_carAt_14 fl_Rows_13 (by decide) rfl (by decide) rfl ?_
  refine V2_iload_n (i := 1) d_Rows_carAt_17 rfl rfl ?_
  refine V2_aaload (t := 1) (a := 45) d_Rows_carAt_18 (by decide) rfl (by decide) (xixA (n := 3) rfl (by decide) (by decide)) rfl ?_
  refine V2_goto (tgt := 23) d_Rows_carAt_19 rfl ?_
  refine V2_areturn d_Rows_carAt_23 rfl (Or.inl ⟨_, rfl⟩) ?_
  refine V2.to (st' := [.ref 45]) ?_ rfl rfl rfl rfl
  refine V2_astore (i := 4) (l' := [some (.ref 36), some (.ref 1), some (.int (2 : Int32)), some (.ref 44), some (.ref 45), none, none, none, none]) d_Rows_tryFrom_13 (xst_r (Nat.le_of_ble_eq_true rfl) rfl rfl) ?_
  refine V2_aload_n (i := 3) d_Rows_tryFrom_15 rfl rfl ?_
  refine V2_ifnull d_Rows_tryFrom_16 ?_
  refine V2_aload (i := 4) d_Rows_tryFrom_19 rfl ?_
  refine V2_ifnonnull (tgt := 25) d_Rows_tryFrom_21 rfl ?_
  refine V2_aload_n (i := 1) d_Rows_tryFrom_25 rfl rfl ?_
  refine V2_aload_n (i := 3) d_Rows_tryFrom_26 rfl rfl ?_
  refine V2_bipush (v := 63) d_Rows_tryFrom_27 rfl ?_
  refine V2_callV [.ref 44, .int (63 : Int32)] d_Rows_tryFrom_29 rfl rfl lk_Rows_94 mo_World_gripOf (by decide) rfl rfl rfl (Nat.le_of_ble_eq_true rfl) (Nat.le_of_ble_eq_true rfl) ?_
  obtain ⟨a1, a2, a3, a4, a5⟩ := drv h hi hx.1 hx.2.2.2.2.2.2.1
  refine c_World_gripOf_44 hx.2.2.2.2.2.1 a1 a2 a3 (fun q10 => ?_)
  refine V2_istore (i := 5) (l' := [some (.ref 36), some (.ref 1), some (.int (2 : Int32)), some (.ref 44), some (.ref 45), some (.int (gripM T 63 (PN S))), none, none, none]) d_Rows_tryFrom_32 (xst_r (Nat.le_of_ble_eq_true rfl) rfl rfl) ?_
  refine V2_aload_n (i := 1) d_Rows_tryFrom_34 rfl rfl ?_
  refine V2_aload_n (i := 3) d_Rows_tryFrom_35 rfl rfl ?_
  refine V2_bipush (v := 63) d_Rows_tryFrom_36 rfl ?_
  refine V2_callV [.ref 44, .int (63 : Int32)] d_Rows_tryFrom_38 rfl rfl lk_Rows_98 mo_World_pushOf (by decide) rfl rfl rfl (Nat.le_of_ble_eq_true rfl) (Nat.le_of_ble_eq_true rfl) ?_
  obtain ⟨b1, b2, b3, b4, b5⟩ := drv (G := xrw H 10 q10) h hi (fun a i1 i2 i3 => (xrw_ne i1).trans (hx.1 a i1 i2 i3)) hx.2.2.2.2.2.2.1
  refine c_World_pushOf_44 (by rw [xrw_ne (by decide)]; exact hx.2.2.2.2.2.1) b1 ?_
  refine V2_istore (i := 6) (l' := [some (.ref 36), some (.ref 1), some (.int (2 : Int32)), some (.ref 44), some (.ref 45), some (.int (gripM T 63 (PN S))), some (.int (pushSum T 63 (PN S))), none, none]) d_Rows_tryFrom_41 (xst_i (Nat.le_of_ble_eq_true rfl) rfl rfl) ?_
  refine V2_aload_n (i := 1) d_Rows_tryFrom_43 rfl rfl ?_
  refine V2_aload_n (i := 3) d_Rows_tryFrom_44 rfl rfl ?_
  refine V2_callV [.ref 44] d_Rows_tryFrom_45 rfl rfl lk_Rows_101 mo_World_rubOf (by decide) rfl rfl rfl (Nat.le_of_ble_eq_true rfl) (Nat.le_of_ble_eq_true rfl) ?_
  refine c_World_rubOf_44 (by rw [xrw_ne (by decide)]; exact hx.2.2.2.2.2.1) b4 b5 (fun q13 => ?_)
  refine V2_istore (i := 7) (l' := [some (.ref 36), some (.ref 1), some (.int (2 : Int32)), some (.ref 44), some (.ref 45), some (.int (gripM T 63 (PN S))), some (.int (pushSum T 63 (PN S))), some (.int (rubM T)), none]) d_Rows_tryFrom_48 (xst_i (Nat.le_of_ble_eq_true rfl) rfl rfl) ?_
  refine V2_iconst (v := 0) d_Rows_tryFrom_50 rfl ?_
  refine V2_istore (i := 8) (l' := [some (.ref 36), some (.ref 1), some (.int (2 : Int32)), some (.ref 44), some (.ref 45), some (.int (gripM T 63 (PN S))), some (.int (pushSum T 63 (PN S))), some (.int (rubM T)), some (.int (0 : Int32))]) d_Rows_tryFrom_51 (xst_i (Nat.le_of_ble_eq_true rfl) rfl rfl) ?_
  exact V2.to (c_tryFrom_2_loop h hi hn hln HV HB HR HJ hx h5 hk hb hQ 11 0 10 (xrw (xrw H 10 q10) 13 q13) (by omega) (by omega) (fun a i1 i2 i3 => (xrw_ne i2).trans ((xrw_ne i1).trans (hx.1 a i1 i2 i3))) hx.2.1 hx.2.2.1 (fun i _ => rfl) (fun j hj => (xrw_ne (by omega)).trans (xrw_ne (by omega))) (by rw [Nat.zero_mul]; exact HR _ _ _ hR (fun a ha => (xrw_ne (by omega)).trans (xrw_ne (by omega))) (fun j hj => rfl))) rfl rfl rfl rfl
theorem c_tryFrom_1_loop {L : Nat} {xs : Nat → Int32} {d : Nat} {Q : Option Value → xF → Prop} {α : Type} {F : xF} {S T : Nat → Int32} {aim : Int32} {n pre : Nat} {f : Nat → α → α} {R : xF → α → Prop} {J K : Nat → Nat → (Nat → Int32) → Prop} {B : Nat → α → Prop} {s0 : α} {H : xF} (h : relW F 1 S) (hi : invS S) (hn : n ≤ 4) (hln : 1 < n) (HV : visV L xs F S aim n f R J K B) (HB : ∀ (a : Nat) (s : α), B a s → B (a + 1) (f a s)) (HR : stabR R) (HJ : ∀ (l pre g : Nat) (T : Nat → Int32), l < n → g < 10 → ¬ T 5 = 1 → K l pre T → J (l + 1) (pre * 10 + g) (goS T (nI g) 63 (PN S))) (hx : ctxV F H S T aim n 1 pre 43) (h5 : ¬ T 5 = 1) (hk : K 1 pre T) (hb : B (pre * 10 ^ (n - 1)) s0) (hQ : (∀ G : xF, scrC F G → G 36 4 = aim → G 36 5 = nI n → (∀ i, i < 1 → G 40 i = H 40 i) → (∀ j, j ≤ 1 → G (42 + j) = H (42 + j)) → R G (blk f (pre * 10 ^ (n - 1)) (10 ^ (n - 1)) s0) → Q none G)) : ∀ (n_ : Nat) (g m : Nat) (G : xF), g + m = 10 → m < n_ → scrC F G → G 36 4 = aim → G 36 5 = nI n → (∀ i, i < 1 → G 40 i = H 40 i) → (∀ j, j ≤ 1 → G (42 + j) = H (42 + j)) → R G (blk f (pre * 10 ^ (n - 1)) (g * 10 ^ (n - 2)) s0) → V2 L xs (d + 18) m_Rows_tryFrom 53 [some (.ref 36), some (.ref 1), some (.int (1 : Int32)), some (.ref 43), some (.ref 44), some (.int (gripM T 63 (PN S))), some (.int (pushSum T 63 (PN S))), some (.int (rubM T)), some (.int (nI g))] [] G Q := by
  intro n_
  induction n_ with
  | zero => exact fun g m G h1 h2 => absurd h2 (by omega)
  | succ n_ ih =>
    intro g m G h1 h2 g1 g2 g3 g4 g5 g6
    refine V2_iload (i := 8) d_Rows_tryFrom_53 rfl ?_
    refine V2_bipush (v := 9) d_Rows_tryFrom_55 rfl ?_
    refine V2_icmp_gt (tgt := 129) d_Rows_tryFrom_57 rfl (fun c1 => ?_) (fun c1 => ?_)
    · refine V2_return d_Rows_tryFrom_129 rfl ?_
      have hg : g = 10 := by
        have := (nI_ltI (a := 9) (b := g) (by omega) (by omega)).mp c1
        omega
      subst hg
      have e10 : 10 * 10 ^ (n - 2) = 10 ^ (n - 1) := by
        rw [show n - 1 = (n - 2) + 1 by omega, Nat.pow_succ, Nat.mul_comm]
      rw [e10] at g6
      exact hQ G g1 g2 g3 g4 g5 g6
    · have hg10 : g < 10 := by
        have h9 := c1
        have : ¬ 9 < g := fun hh => h9 ((nI_ltI (a := 9) (b := g) (by omega) (by omega)).mpr hh)
        omega
      obtain ⟨m, rfl⟩ : ∃ m2, m = m2 + 1 := ⟨m - 1, by omega⟩
      have hcA : relCr (G 43) T := by rw [g5 1 (by decide)]; exact hx.2.2.2.2.2.1
      refine V2_aload (i := 4) d_Rows_tryFrom_60 rfl ?_
      refine V2_aload_n (i := 3) d_Rows_tryFrom_62 rfl rfl ?_
      refine V2_callV [.ref 43] d_Rows_tryFrom_63 rfl rfl lk_Rows_84 mo_Car_copyFrom (by decide) rfl rfl rfl (Nat.le_of_ble_eq_true rfl) (Nat.le_of_ble_eq_true rfl) ?_
      refine c_Car_copy_44_43 (by rw [hcA.2.2.2.2.2.2.2]; exact hx.2.2.2.2.2.2.2.1.2.2.2.2.2.1) (fun H1 p0 g0 => ?_)
      refine V2_aload (i := 4) d_Rows_tryFrom_66 rfl ?_
      refine V2_iload (i := 8) d_Rows_tryFrom_68 rfl ?_
      refine V2_iload (i := 5) d_Rows_tryFrom_70 rfl ?_
      refine V2_iload (i := 6) d_Rows_tryFrom_72 rfl ?_
      refine V2_iload (i := 7) d_Rows_tryFrom_74 rfl ?_
      refine V2_callV [.int (nI g), .int (gripM T 63 (PN S)), .int (pushSum T 63 (PN S)), .int (rubM T)] d_Rows_tryFrom_76 rfl rfl lk_Rows_105 mo_Car_go (by decide) rfl rfl rfl (Nat.le_of_ble_eq_true rfl) (Nat.le_of_ble_eq_true rfl) ?_
      refine c_goC44 (relCr_row hcA p0) hx.2.2.2.2.2.2.2.1 hg10 (fun G1 b1 hc f1 => ?_)
      refine V2_pop d_Rows_tryFrom_79 rfl ?_
      refine V2_aload_n (i := 0) d_Rows_tryFrom_80 rfl rfl ?_
      refine V2_iload_n (i := 2) d_Rows_tryFrom_81 rfl rfl ?_
      refine V2_iload (i := 8) d_Rows_tryFrom_82 rfl ?_
      refine V2_callV [.int (1 : Int32), .int (nI g)] d_Rows_tryFrom_84 rfl rfl lk_Rows_109 mo_Rows_note (by decide) rfl rfl rfl (Nat.le_of_ble_eq_true rfl) (Nat.le_of_ble_eq_true rfl) ?_
      refine V2.to (l' := [some (.ref 36), some (.int (1 : Int32)), some (.int (nI g))]) ?_ rfl rfl rfl rfl
      refine V2_iload_n (i := 1) d_Rows_note_0 rfl rfl ?_
      refine V2_if_lt (tgt := 20) d_Rows_note_1 rfl (fun c => (by first | exact absurd c (by decide) | exact absurd (by decide) c)) (fun _ => ?_)
      refine V2_iload_n (i := 1) d_Rows_note_4 rfl rfl ?_
      refine V2_aload_n (i := 0) d_Rows_note_5 rfl rfl ?_
      refine V2_getr (a := 40) d_Rows_note_6 fl_Rows_26 (by decide) rfl (by decide) rfl ?_
      refine V2_alen (t := 0) (v := 4) d_Rows_note_9 (by decide) rfl (by decide) rfl ?_
      refine V2_icmp_ge (tgt := 20) d_Rows_note_10 rfl (fun c => (by first | exact absurd c (by decide) | exact absurd (by decide) c)) (fun _ => ?_)
      refine V2_aload_n (i := 0) d_Rows_note_13 rfl rfl ?_
      refine V2_getr (a := 40) d_Rows_note_14 fl_Rows_26 (by decide) rfl (by decide) rfl ?_
      refine V2_iload_n (i := 1) d_Rows_note_17 rfl rfl ?_
      refine V2_iload_n (i := 2) d_Rows_note_18 rfl rfl ?_
      refine V2_iastore (j := 1) d_Rows_note_19 (by decide) rfl (xixA (n := 1) rfl (by decide) (by decide)) rfl ?_
      refine V2_return d_Rows_note_20 rfl ?_
      refine V2.to (st' := []) ?_ rfl rfl rfl rfl
      refine V2_aload_n (i := 0) d_Rows_tryFrom_87 rfl rfl ?_
      refine V2_iload_n (i := 2) d_Rows_tryFrom_88 rfl rfl ?_
      refine V2_aload (i := 4) d_Rows_tryFrom_89 rfl ?_
      refine V2_callV [.int (1 : Int32), .ref 44] d_Rows_tryFrom_91 rfl rfl lk_Rows_113 mo_Rows_goesOn (by decide) rfl rfl rfl (Nat.le_of_ble_eq_true rfl) (Nat.le_of_ble_eq_true rfl) ?_
      have hC9 := hx.2.2.2.2.2.2.2.1
      have hs4 : scrC F (xp G1 40 1 (nI g)) := fun a b c e9 => (xp_row_ne (by omega)).trans ((f1 a (by omega)).trans ((g0 a (by omega)).trans (g1 a b c e9)))
      have hcx : ctxV F (xp G1 40 1 (nI g)) S (goS T (nI g) 63 (PN S)) aim n (1 + 1) (pre * 10 + g) (43 + 1) := ⟨hs4, (congrFun ((xp_row_ne (by decide)).trans ((f1 36 (by decide)).trans (g0 36 (by decide)))) 4).trans g2, (congrFun ((xp_row_ne (by decide)).trans ((f1 36 (by decide)).trans (g0 36 (by decide)))) 5).trans g3, digs_child hg10 (fun i hi9 => (xp_ne (Or.inr (by omega))).trans ((congrFun ((f1 40 (by decide)).trans (g0 40 (by decide))) i).trans ((g4 i hi9).trans (hx.2.2.2.1 i hi9)))) (xp_same _ _ _ _), pre_child hg10 hx.2.2.2.2.1, by rw [xp_row_ne (by decide)]; exact hc, hx.2.2.2.2.2.2.1.go, go_inv hC9, sim_child hln h5 hg10 hx.2.2.2.2.2.2.2.2⟩
      have hRg := HR _ (xp G1 40 1 (nI g)) _ g6 (fun a ha => (xp_row_ne (by omega)).trans ((f1 a (by omega)).trans (g0 a (by omega)))) (fun j hj => congrFun ((xp_row_ne (by decide)).trans ((f1 36 (by decide)).trans (g0 36 (by decide)))) j)
      have hB9 : B ((pre * 10 + g) * 10 ^ (n - (1 + 1))) (blk f (pre * 10 ^ (n - 1)) (g * 10 ^ (n - 2)) s0) := by
        have hB8 := blk_B HB (g * 10 ^ (n - 2)) _ _ hb
        rw [show pre * 10 ^ (n - 1) + g * 10 ^ (n - 2) = (pre * 10 + g) * 10 ^ (n - (1 + 1)) by rw [show n - 1 = (n - 2) + 1 by omega, Nat.pow_succ, Nat.add_mul, Nat.mul_assoc pre 10, Nat.mul_comm 10 (10 ^ (n - 2))]] at hB8
        exact hB8
      refine HV _ _ _ _ _ 1 _ hln hcx (HJ _ _ _ _ hln hg10 h5 hk) hB9 hRg (fun G2 b hf hv => ?_)
      obtain ⟨v1, va9, vl9⟩ := hf
      have va : G2 36 4 = aim := va9.trans hcx.2.1
      have vl : G2 36 5 = nI n := vl9.trans hcx.2.2.1
      refine V2_if_eq (tgt := 123) d_Rows_tryFrom_94 rfl (fun c2 => ?_) (fun c2 => ?_)
      · obtain ⟨v3, ev3⟩ : ∃ y : Int32, y = nI g + 1 := ⟨_, rfl⟩
        refine V2_iinc (i := 8) (v := v3) (l' := [some (.ref 36), some (.ref 1), some (.int (1 : Int32)), some (.ref 43), some (.ref 44), some (.int (gripM T 63 (PN S))), some (.int (pushSum T 63 (PN S))), some (.int (rubM T)), some (.int v3)]) d_Rows_tryFrom_123 rfl (by rw [ev3]; rfl) (xst_i (Nat.le_of_ble_eq_true rfl) rfl rfl) ?_
        refine V2_goto (tgt := 53) d_Rows_tryFrom_126 rfl ?_
        have eblk : blk f (pre * 10 ^ (n - 1)) ((g + 1) * 10 ^ (n - 2)) s0 = blk f ((pre * 10 + g) * 10 ^ (n - 2)) (10 ^ (n - 2)) (blk f (pre * 10 ^ (n - 1)) (g * 10 ^ (n - 2)) s0) := by
          rw [Nat.add_mul, Nat.one_mul, blk_add, show n - 1 = (n - 2) + 1 by omega, Nat.pow_succ, Nat.add_mul, Nat.mul_assoc pre 10, Nat.mul_comm 10 (10 ^ (n - 2))]
        rcases hv with ⟨v2, _⟩ | ⟨_, v2⟩
        · exfalso
          rw [v2] at c2
          exact absurd c2 (by decide)
        · rw [ev3, nI_1]
          exact V2.to (ih (g + 1) m G2 (by omega) (by omega) (fun a b c e9 => (v1 a (by omega) (by omega)).trans (hs4 a b c e9)) va vl (fun i hi9 => (congrFun (v1 40 (by decide) (by decide)) i).trans ((xp_ne (Or.inr (by omega))).trans ((congrFun ((f1 40 (by decide)).trans (g0 40 (by decide))) i).trans (g4 i hi9)))) (fun j hj => (v1 _ (by omega) (by omega)).trans ((xp_row_ne (by omega)).trans ((f1 _ (by omega)).trans ((g0 _ (by omega)).trans (g5 j hj))))) (by rw [eblk]; exact v2)) rfl rfl rfl rfl
      · refine V2_aload (i := 4) d_Rows_tryFrom_97 rfl ?_
        refine V2_get (v := G2 44 7) d_Rows_tryFrom_99 fl_Rows_80 (by decide) rfl (by decide) rfl rfl ?_
        refine V2_topi (fun v4 ev4 => ?_)
        refine V2_if_ne (tgt := 123) d_Rows_tryFrom_102 rfl (fun c5 => ?_) (fun c5 => ?_)
        · obtain ⟨v6, ev6⟩ : ∃ y : Int32, y = nI g + 1 := ⟨_, rfl⟩
          refine V2_iinc (i := 8) (v := v6) (l' := [some (.ref 36), some (.ref 1), some (.int (1 : Int32)), some (.ref 43), some (.ref 44), some (.int (gripM T 63 (PN S))), some (.int (pushSum T 63 (PN S))), some (.int (rubM T)), some (.int v6)]) d_Rows_tryFrom_123 rfl (by rw [ev6]; rfl) (xst_i (Nat.le_of_ble_eq_true rfl) rfl rfl) ?_
          refine V2_goto (tgt := 53) d_Rows_tryFrom_126 rfl ?_
          have eblk : blk f (pre * 10 ^ (n - 1)) ((g + 1) * 10 ^ (n - 2)) s0 = blk f ((pre * 10 + g) * 10 ^ (n - 2)) (10 ^ (n - 2)) (blk f (pre * 10 ^ (n - 1)) (g * 10 ^ (n - 2)) s0) := by
            rw [Nat.add_mul, Nat.one_mul, blk_add, show n - 1 = (n - 2) + 1 by omega, Nat.pow_succ, Nat.add_mul, Nat.mul_assoc pre 10, Nat.mul_comm 10 (10 ^ (n - 2))]
          rcases hv with ⟨_, v2, _⟩ | ⟨_, v2⟩
          · exfalso
            have h9 := c5
            subst ev6 ev4
            rw [v1 44 (by decide) (by decide), xp_row_ne (by decide), hc.2.2.2.2.2.2.2] at h9
            exact v2 ((go_inv (S := T) hC9).2.2.2.2.2.1.resolve_left h9)
          · rw [ev6, nI_1]
            exact V2.to (ih (g + 1) m G2 (by omega) (by omega) (fun a b c e9 => (v1 a (by omega) (by omega)).trans (hs4 a b c e9)) va vl (fun i hi9 => (congrFun (v1 40 (by decide) (by decide)) i).trans ((xp_ne (Or.inr (by omega))).trans ((congrFun ((f1 40 (by decide)).trans (g0 40 (by decide))) i).trans (g4 i hi9)))) (fun j hj => (v1 _ (by omega) (by omega)).trans ((xp_row_ne (by omega)).trans ((f1 _ (by omega)).trans ((g0 _ (by omega)).trans (g5 j hj))))) (by rw [eblk]; exact v2)) rfl rfl rfl rfl
        · refine V2_iload_n (i := 2) d_Rows_tryFrom_105 rfl rfl ?_
          refine V2_iconst (v := 1) d_Rows_tryFrom_106 rfl ?_
          refine V2_iadd d_Rows_tryFrom_107 ?_
          refine V2_lit (v := 2) (by decide) ?_
          refine V2_aload_n (i := 0) d_Rows_tryFrom_108 rfl rfl ?_
          refine V2_get (v := G2 36 5) d_Rows_tryFrom_109 fl_Rows_37 (by decide) rfl (by decide) rfl rfl ?_
          refine V2_topi (fun v7 ev7 => ?_)
          refine V2_icmp_ge (tgt := 123) d_Rows_tryFrom_112 rfl (fun c8 => ?_) (fun c8 => ?_)
          · obtain ⟨v9, ev9⟩ : ∃ y : Int32, y = nI g + 1 := ⟨_, rfl⟩
            refine V2_iinc (i := 8) (v := v9) (l' := [some (.ref 36), some (.ref 1), some (.int (1 : Int32)), some (.ref 43), some (.ref 44), some (.int (gripM T 63 (PN S))), some (.int (pushSum T 63 (PN S))), some (.int (rubM T)), some (.int v9)]) d_Rows_tryFrom_123 rfl (by rw [ev9]; rfl) (xst_i (Nat.le_of_ble_eq_true rfl) rfl rfl) ?_
            refine V2_goto (tgt := 53) d_Rows_tryFrom_126 rfl ?_
            have eblk : blk f (pre * 10 ^ (n - 1)) ((g + 1) * 10 ^ (n - 2)) s0 = blk f ((pre * 10 + g) * 10 ^ (n - 2)) (10 ^ (n - 2)) (blk f (pre * 10 ^ (n - 1)) (g * 10 ^ (n - 2)) s0) := by
              rw [Nat.add_mul, Nat.one_mul, blk_add, show n - 1 = (n - 2) + 1 by omega, Nat.pow_succ, Nat.add_mul, Nat.mul_assoc pre 10, Nat.mul_comm 10 (10 ^ (n - 2))]
            rcases hv with ⟨_, _, v2, _⟩ | ⟨_, v2⟩
            · exfalso
              have h9 := c8
              subst ev9 ev7 ev4
              rw [vl] at h9
              have := (nI_leI (a := n) (b := 2) (by omega) (by omega)).mp h9
              omega
            · rw [ev9, nI_1]
              exact V2.to (ih (g + 1) m G2 (by omega) (by omega) (fun a b c e9 => (v1 a (by omega) (by omega)).trans (hs4 a b c e9)) va vl (fun i hi9 => (congrFun (v1 40 (by decide) (by decide)) i).trans ((xp_ne (Or.inr (by omega))).trans ((congrFun ((f1 40 (by decide)).trans (g0 40 (by decide))) i).trans (g4 i hi9)))) (fun j hj => (v1 _ (by omega) (by omega)).trans ((xp_row_ne (by omega)).trans ((f1 _ (by omega)).trans ((g0 _ (by omega)).trans (g5 j hj))))) (by rw [eblk]; exact v2)) rfl rfl rfl rfl
          · refine V2_aload_n (i := 0) d_Rows_tryFrom_115 rfl rfl ?_
            refine V2_aload_n (i := 1) d_Rows_tryFrom_116 rfl rfl ?_
            refine V2_iload_n (i := 2) d_Rows_tryFrom_117 rfl rfl ?_
            refine V2_iconst (v := 1) d_Rows_tryFrom_118 rfl ?_
            refine V2_iadd d_Rows_tryFrom_119 ?_
            refine V2_lit (v := 2) (by decide) ?_
            refine V2_callV [.ref 1, .int (2 : Int32)] d_Rows_tryFrom_120 rfl rfl lk_Rows_88 mo_Rows_tryFrom (by decide) rfl rfl rfl (Nat.le_of_ble_eq_true rfl) (Nat.le_of_ble_eq_true rfl) ?_
            have hl9 : 2 < n := by
              have h9 := c8
              subst ev7 ev4
              rw [vl] at h9
              exact Nat.not_le.mp (fun hh => h9 ((nI_leI (a := n) (b := 2) (by omega) (by omega)).mpr hh))
            have h59 : ¬ goS T (nI g) 63 (PN S) 5 = 1 := by
              intro hh
              have h9 := c5
              subst ev7 ev4
              rw [v1 44 (by decide) (by decide), xp_row_ne (by decide), hc.2.2.2.2.2.2.2, hh] at h9
              exact absurd h9 (by decide)
            have hv2 : K (1 + 1) (pre * 10 + g) (goS T (nI g) 63 (PN S)) ∧ R G2 (blk f (pre * 10 ^ (n - 1)) (g * 10 ^ (n - 2)) s0) := by
              rcases hv with ⟨_, _, _, v2⟩ | ⟨v3, _⟩
              · exact v2
              · exfalso
                rcases v3 with v3 | ⟨_, v3 | v3⟩
                · exact c2 v3
                · exact h59 v3
                · omega
            have hcx2 : ctxV F G2 S (goS T (nI g) 63 (PN S)) aim n 2 (pre * 10 + g) 44 := ⟨fun a b c e9 => (v1 a (by omega) (by omega)).trans (hs4 a b c e9), va, vl, fun i hi9 => (congrFun (v1 40 (by decide) (by decide)) i).trans (hcx.2.2.2.1 i hi9), hcx.2.2.2.2.1, by rw [v1 44 (by decide) (by decide)]; exact hcx.2.2.2.2.2.1, hcx.2.2.2.2.2.2⟩
            refine c_tryFrom_2 h hi hn hl9 HV HB HR HJ hcx2 h59 hv2.1 hB9 hv2.2 (fun G3 r1 r2 r3 r4 r5 r6 => ?_)
            obtain ⟨v10, ev10⟩ : ∃ y : Int32, y = nI g + 1 := ⟨_, rfl⟩
            refine V2_iinc (i := 8) (v := v10) (l' := [some (.ref 36), some (.ref 1), some (.int (1 : Int32)), some (.ref 43), some (.ref 44), some (.int (gripM T 63 (PN S))), some (.int (pushSum T 63 (PN S))), some (.int (rubM T)), some (.int v10)]) d_Rows_tryFrom_123 rfl (by rw [ev10]; rfl) (xst_i (Nat.le_of_ble_eq_true rfl) rfl rfl) ?_
            refine V2_goto (tgt := 53) d_Rows_tryFrom_126 rfl ?_
            have eblk : blk f (pre * 10 ^ (n - 1)) ((g + 1) * 10 ^ (n - 2)) s0 = blk f ((pre * 10 + g) * 10 ^ (n - 2)) (10 ^ (n - 2)) (blk f (pre * 10 ^ (n - 1)) (g * 10 ^ (n - 2)) s0) := by
              rw [Nat.add_mul, Nat.one_mul, blk_add, show n - 1 = (n - 2) + 1 by omega, Nat.pow_succ, Nat.add_mul, Nat.mul_assoc pre 10, Nat.mul_comm 10 (10 ^ (n - 2))]
            rw [ev10, nI_1]
            exact V2.to (ih (g + 1) m G3 (by omega) (by omega) r1 r2 r3 (fun i hi9 => (r4 i (by omega)).trans ((congrFun (v1 40 (by decide) (by decide)) i).trans ((xp_ne (Or.inr (by omega))).trans ((congrFun ((f1 40 (by decide)).trans (g0 40 (by decide))) i).trans (g4 i hi9))))) (fun j hj => (r5 j (by omega)).trans ((v1 _ (by omega) (by omega)).trans ((xp_row_ne (by omega)).trans ((f1 _ (by omega)).trans ((g0 _ (by omega)).trans (g5 j hj)))))) (by rw [eblk]; exact r6)) rfl rfl rfl rfl
theorem c_tryFrom_1 {L : Nat} {xs : Nat → Int32} {d : Nat} {Q : Option Value → xF → Prop} {α : Type} {F : xF} {S T : Nat → Int32} {aim : Int32} {n pre : Nat} {f : Nat → α → α} {R : xF → α → Prop} {J K : Nat → Nat → (Nat → Int32) → Prop} {B : Nat → α → Prop} {s0 : α} {H : xF} (h : relW F 1 S) (hi : invS S) (hn : n ≤ 4) (hln : 1 < n) (HV : visV L xs F S aim n f R J K B) (HB : ∀ (a : Nat) (s : α), B a s → B (a + 1) (f a s)) (HR : stabR R) (HJ : ∀ (l pre g : Nat) (T : Nat → Int32), l < n → g < 10 → ¬ T 5 = 1 → K l pre T → J (l + 1) (pre * 10 + g) (goS T (nI g) 63 (PN S))) (hx : ctxV F H S T aim n 1 pre 43) (h5 : ¬ T 5 = 1) (hk : K 1 pre T) (hb : B (pre * 10 ^ (n - 1)) s0) (hR : R H s0) (hQ : ∀ G : xF, scrC F G → G 36 4 = aim → G 36 5 = nI n → (∀ i, i < 1 → G 40 i = H 40 i) → (∀ j, j ≤ 1 → G (42 + j) = H (42 + j)) → R G (blk f (pre * 10 ^ (n - 1)) (10 ^ (n - 1)) s0) → Q none G) : V2 L xs (d + 18) m_Rows_tryFrom 0 (xEntry [.ref 36, .ref 1, .int (1 : Int32)] 9) [] H Q := by
  refine V2.to (l' := [some (.ref 36), some (.ref 1), some (.int (1 : Int32)), none, none, none, none, none, none]) ?_ rfl rfl rfl rfl
  refine V2_aload_n (i := 0) d_Rows_tryFrom_0 rfl rfl ?_
  refine V2_iload_n (i := 2) d_Rows_tryFrom_1 rfl rfl ?_
  refine V2_callV [.int (1 : Int32)] d_Rows_tryFrom_2 rfl rfl lk_Rows_70 mo_Rows_carAt (by decide) rfl rfl rfl (Nat.le_of_ble_eq_true rfl) (Nat.le_of_ble_eq_true rfl) ?_
  refine V2.to (l' := [some (.ref 36), some (.int (1 : Int32))]) ?_ rfl rfl rfl rfl
  refine V2_iload_n (i := 1) d_Rows_carAt_0 rfl rfl ?_
  refine V2_if_lt (tgt := 22) d_Rows_carAt_1 rfl (fun c => (by first | exact absurd c (by decide) | exact absurd (by decide) c)) (fun _ => ?_)
  refine V2_iload_n (i := 1) d_Rows_carAt_4 rfl rfl ?_
  refine V2_aload_n (i := 0) d_Rows_carAt_5 rfl rfl ?_
  refine V2_getr (a := 37) d_Rows_carAt_6 fl_Rows_13 (by decide) rfl (by decide) rfl ?_
  refine V2_alen (t := 2) (v := 5) d_Rows_carAt_9 (by decide) rfl (by decide) rfl ?_
  refine V2_icmp_ge (tgt := 22) d_Rows_carAt_10 rfl (fun c => (by first | exact absurd c (by decide) | exact absurd (by decide) c)) (fun _ => ?_)
  refine V2_aload_n (i := 0) d_Rows_carAt_13 rfl rfl ?_
  refine V2_getr (a := 37) d_Rows_carAt_14 fl_Rows_13 (by decide) rfl (by decide) rfl ?_
  refine V2_iload_n (i := 1) d_Rows_carAt_17 rfl rfl ?_
  refine V2_aaload (t := 1) (a := 43) d_Rows_carAt_18 (by decide) rfl (by decide) (xixA (n := 1) rfl (by decide) (by decide)) rfl ?_
  refine V2_goto (tgt := 23) d_Rows_carAt_19 rfl ?_
  refine V2_areturn d_Rows_carAt_23 rfl (Or.inl ⟨_, rfl⟩) ?_
  refine V2.to (st' := [.ref 43]) ?_ rfl rfl rfl rfl
  refine V2_astore_n (i := 3) (l' := [some (.ref 36), some (.ref 1), some (.int (1 : Int32)), some (.ref 43), none, none, none, none, none]) d_Rows_tryFrom_5 rfl (xst_i (Nat.le_of_ble_eq_true rfl) rfl rfl) ?_
  refine V2_aload_n (i := 0) d_Rows_tryFrom_6 rfl rfl ?_
  refine V2_iload_n (i := 2) d_Rows_tryFrom_7 rfl rfl ?_
  refine V2_iconst (v := 1) d_Rows_tryFrom_8 rfl ?_
  refine V2_iadd d_Rows_tryFrom_9 ?_
  refine V2_lit (v := 2) (by decide) ?_
  refine V2_callV [.int (2 : Int32)] d_Rows_tryFrom_10 rfl rfl lk_Rows_70 mo_Rows_carAt (by decide) rfl rfl rfl (Nat.le_of_ble_eq_true rfl) (Nat.le_of_ble_eq_true rfl) ?_
  refine V2.to (l' := [some (.ref 36), some (.int (2 : Int32))]) ?_ rfl rfl rfl rfl
  refine V2_iload_n (i := 1) d_Rows_carAt_0 rfl rfl ?_
  refine V2_if_lt (tgt := 22) d_Rows_carAt_1 rfl (fun c => (by first | exact absurd c (by decide) | exact absurd (by decide) c)) (fun _ => ?_)
  refine V2_iload_n (i := 1) d_Rows_carAt_4 rfl rfl ?_
  refine V2_aload_n (i := 0) d_Rows_carAt_5 rfl rfl ?_
  refine V2_getr (a := 37) d_Rows_carAt_6 fl_Rows_13 (by decide) rfl (by decide) rfl ?_
  refine V2_alen (t := 2) (v := 5) d_Rows_carAt_9 (by decide) rfl (by decide) rfl ?_
  refine V2_icmp_ge (tgt := 22) d_Rows_carAt_10 rfl (fun c => (by first | exact absurd c (by decide) | exact absurd (by decide) c)) (fun _ => ?_)
  refine V2_aload_n (i := 0) d_Rows_carAt_13 rfl rfl ?_
  refine V2_getr (a := 37) d_Rows_carAt_14 fl_Rows_13 (by decide) rfl (by decide) rfl ?_
  refine V2_iload_n (i := 1) d_Rows_carAt_17 rfl rfl ?_
  refine V2_aaload (t := 1) (a := 44) d_Rows_carAt_18 (by decide) rfl (by decide) (xixA (n := 2) rfl (by decide) (by decide)) rfl ?_
  refine V2_goto (tgt := 23) d_Rows_carAt_19 rfl ?_
  refine V2_areturn d_Rows_carAt_23 rfl (Or.inl ⟨_, rfl⟩) ?_
  refine V2.to (st' := [.ref 44]) ?_ rfl rfl rfl rfl
  refine V2_astore (i := 4) (l' := [some (.ref 36), some (.ref 1), some (.int (1 : Int32)), some (.ref 43), some (.ref 44), none, none, none, none]) d_Rows_tryFrom_13 (xst_r (Nat.le_of_ble_eq_true rfl) rfl rfl) ?_
  refine V2_aload_n (i := 3) d_Rows_tryFrom_15 rfl rfl ?_
  refine V2_ifnull d_Rows_tryFrom_16 ?_
  refine V2_aload (i := 4) d_Rows_tryFrom_19 rfl ?_
  refine V2_ifnonnull (tgt := 25) d_Rows_tryFrom_21 rfl ?_
  refine V2_aload_n (i := 1) d_Rows_tryFrom_25 rfl rfl ?_
  refine V2_aload_n (i := 3) d_Rows_tryFrom_26 rfl rfl ?_
  refine V2_bipush (v := 63) d_Rows_tryFrom_27 rfl ?_
  refine V2_callV [.ref 43, .int (63 : Int32)] d_Rows_tryFrom_29 rfl rfl lk_Rows_94 mo_World_gripOf (by decide) rfl rfl rfl (Nat.le_of_ble_eq_true rfl) (Nat.le_of_ble_eq_true rfl) ?_
  obtain ⟨a1, a2, a3, a4, a5⟩ := drv h hi hx.1 hx.2.2.2.2.2.2.1
  refine c_World_gripOf_43 hx.2.2.2.2.2.1 a1 a2 a3 (fun q10 => ?_)
  refine V2_istore (i := 5) (l' := [some (.ref 36), some (.ref 1), some (.int (1 : Int32)), some (.ref 43), some (.ref 44), some (.int (gripM T 63 (PN S))), none, none, none]) d_Rows_tryFrom_32 (xst_r (Nat.le_of_ble_eq_true rfl) rfl rfl) ?_
  refine V2_aload_n (i := 1) d_Rows_tryFrom_34 rfl rfl ?_
  refine V2_aload_n (i := 3) d_Rows_tryFrom_35 rfl rfl ?_
  refine V2_bipush (v := 63) d_Rows_tryFrom_36 rfl ?_
  refine V2_callV [.ref 43, .int (63 : Int32)] d_Rows_tryFrom_38 rfl rfl lk_Rows_98 mo_World_pushOf (by decide) rfl rfl rfl (Nat.le_of_ble_eq_true rfl) (Nat.le_of_ble_eq_true rfl) ?_
  obtain ⟨b1, b2, b3, b4, b5⟩ := drv (G := xrw H 10 q10) h hi (fun a i1 i2 i3 => (xrw_ne i1).trans (hx.1 a i1 i2 i3)) hx.2.2.2.2.2.2.1
  refine c_World_pushOf_43 (by rw [xrw_ne (by decide)]; exact hx.2.2.2.2.2.1) b1 ?_
  refine V2_istore (i := 6) (l' := [some (.ref 36), some (.ref 1), some (.int (1 : Int32)), some (.ref 43), some (.ref 44), some (.int (gripM T 63 (PN S))), some (.int (pushSum T 63 (PN S))), none, none]) d_Rows_tryFrom_41 (xst_i (Nat.le_of_ble_eq_true rfl) rfl rfl) ?_
  refine V2_aload_n (i := 1) d_Rows_tryFrom_43 rfl rfl ?_
  refine V2_aload_n (i := 3) d_Rows_tryFrom_44 rfl rfl ?_
  refine V2_callV [.ref 43] d_Rows_tryFrom_45 rfl rfl lk_Rows_101 mo_World_rubOf (by decide) rfl rfl rfl (Nat.le_of_ble_eq_true rfl) (Nat.le_of_ble_eq_true rfl) ?_
  refine c_World_rubOf_43 (by rw [xrw_ne (by decide)]; exact hx.2.2.2.2.2.1) b4 b5 (fun q13 => ?_)
  refine V2_istore (i := 7) (l' := [some (.ref 36), some (.ref 1), some (.int (1 : Int32)), some (.ref 43), some (.ref 44), some (.int (gripM T 63 (PN S))), some (.int (pushSum T 63 (PN S))), some (.int (rubM T)), none]) d_Rows_tryFrom_48 (xst_i (Nat.le_of_ble_eq_true rfl) rfl rfl) ?_
  refine V2_iconst (v := 0) d_Rows_tryFrom_50 rfl ?_
  refine V2_istore (i := 8) (l' := [some (.ref 36), some (.ref 1), some (.int (1 : Int32)), some (.ref 43), some (.ref 44), some (.int (gripM T 63 (PN S))), some (.int (pushSum T 63 (PN S))), some (.int (rubM T)), some (.int (0 : Int32))]) d_Rows_tryFrom_51 (xst_i (Nat.le_of_ble_eq_true rfl) rfl rfl) ?_
  exact V2.to (c_tryFrom_1_loop h hi hn hln HV HB HR HJ hx h5 hk hb hQ 11 0 10 (xrw (xrw H 10 q10) 13 q13) (by omega) (by omega) (fun a i1 i2 i3 => (xrw_ne i2).trans ((xrw_ne i1).trans (hx.1 a i1 i2 i3))) hx.2.1 hx.2.2.1 (fun i _ => rfl) (fun j hj => (xrw_ne (by omega)).trans (xrw_ne (by omega))) (by rw [Nat.zero_mul]; exact HR _ _ _ hR (fun a ha => (xrw_ne (by omega)).trans (xrw_ne (by omega))) (fun j hj => rfl))) rfl rfl rfl rfl
theorem c_tryFrom_0_loop {L : Nat} {xs : Nat → Int32} {d : Nat} {Q : Option Value → xF → Prop} {α : Type} {F : xF} {S T : Nat → Int32} {aim : Int32} {n pre : Nat} {f : Nat → α → α} {R : xF → α → Prop} {J K : Nat → Nat → (Nat → Int32) → Prop} {B : Nat → α → Prop} {s0 : α} {H : xF} (h : relW F 1 S) (hi : invS S) (hn : n ≤ 4) (hln : 0 < n) (HV : visV L xs F S aim n f R J K B) (HB : ∀ (a : Nat) (s : α), B a s → B (a + 1) (f a s)) (HR : stabR R) (HJ : ∀ (l pre g : Nat) (T : Nat → Int32), l < n → g < 10 → ¬ T 5 = 1 → K l pre T → J (l + 1) (pre * 10 + g) (goS T (nI g) 63 (PN S))) (hx : ctxV F H S T aim n 0 pre 42) (h5 : ¬ T 5 = 1) (hk : K 0 pre T) (hb : B (pre * 10 ^ (n - 0)) s0) (hQ : (∀ G : xF, scrC F G → G 36 4 = aim → G 36 5 = nI n → (∀ i, i < 0 → G 40 i = H 40 i) → (∀ j, j ≤ 0 → G (42 + j) = H (42 + j)) → R G (blk f (pre * 10 ^ (n - 0)) (10 ^ (n - 0)) s0) → Q none G)) : ∀ (n_ : Nat) (g m : Nat) (G : xF), g + m = 10 → m < n_ → scrC F G → G 36 4 = aim → G 36 5 = nI n → (∀ i, i < 0 → G 40 i = H 40 i) → (∀ j, j ≤ 0 → G (42 + j) = H (42 + j)) → R G (blk f (pre * 10 ^ (n - 0)) (g * 10 ^ (n - 1)) s0) → V2 L xs (d + 20) m_Rows_tryFrom 53 [some (.ref 36), some (.ref 1), some (.int (0 : Int32)), some (.ref 42), some (.ref 43), some (.int (gripM T 63 (PN S))), some (.int (pushSum T 63 (PN S))), some (.int (rubM T)), some (.int (nI g))] [] G Q := by
  intro n_
  induction n_ with
  | zero => exact fun g m G h1 h2 => absurd h2 (by omega)
  | succ n_ ih =>
    intro g m G h1 h2 g1 g2 g3 g4 g5 g6
    refine V2_iload (i := 8) d_Rows_tryFrom_53 rfl ?_
    refine V2_bipush (v := 9) d_Rows_tryFrom_55 rfl ?_
    refine V2_icmp_gt (tgt := 129) d_Rows_tryFrom_57 rfl (fun c1 => ?_) (fun c1 => ?_)
    · refine V2_return d_Rows_tryFrom_129 rfl ?_
      have hg : g = 10 := by
        have := (nI_ltI (a := 9) (b := g) (by omega) (by omega)).mp c1
        omega
      subst hg
      have e10 : 10 * 10 ^ (n - 1) = 10 ^ (n - 0) := by
        rw [show n - 0 = (n - 1) + 1 by omega, Nat.pow_succ, Nat.mul_comm]
      rw [e10] at g6
      exact hQ G g1 g2 g3 g4 g5 g6
    · have hg10 : g < 10 := by
        have h9 := c1
        have : ¬ 9 < g := fun hh => h9 ((nI_ltI (a := 9) (b := g) (by omega) (by omega)).mpr hh)
        omega
      obtain ⟨m, rfl⟩ : ∃ m2, m = m2 + 1 := ⟨m - 1, by omega⟩
      have hcA : relCr (G 42) T := by rw [g5 0 (by decide)]; exact hx.2.2.2.2.2.1
      refine V2_aload (i := 4) d_Rows_tryFrom_60 rfl ?_
      refine V2_aload_n (i := 3) d_Rows_tryFrom_62 rfl rfl ?_
      refine V2_callV [.ref 42] d_Rows_tryFrom_63 rfl rfl lk_Rows_84 mo_Car_copyFrom (by decide) rfl rfl rfl (Nat.le_of_ble_eq_true rfl) (Nat.le_of_ble_eq_true rfl) ?_
      refine c_Car_copy_43_42 (by rw [hcA.2.2.2.2.2.2.2]; exact hx.2.2.2.2.2.2.2.1.2.2.2.2.2.1) (fun H1 p0 g0 => ?_)
      refine V2_aload (i := 4) d_Rows_tryFrom_66 rfl ?_
      refine V2_iload (i := 8) d_Rows_tryFrom_68 rfl ?_
      refine V2_iload (i := 5) d_Rows_tryFrom_70 rfl ?_
      refine V2_iload (i := 6) d_Rows_tryFrom_72 rfl ?_
      refine V2_iload (i := 7) d_Rows_tryFrom_74 rfl ?_
      refine V2_callV [.int (nI g), .int (gripM T 63 (PN S)), .int (pushSum T 63 (PN S)), .int (rubM T)] d_Rows_tryFrom_76 rfl rfl lk_Rows_105 mo_Car_go (by decide) rfl rfl rfl (Nat.le_of_ble_eq_true rfl) (Nat.le_of_ble_eq_true rfl) ?_
      refine c_goC43 (relCr_row hcA p0) hx.2.2.2.2.2.2.2.1 hg10 (fun G1 b1 hc f1 => ?_)
      refine V2_pop d_Rows_tryFrom_79 rfl ?_
      refine V2_aload_n (i := 0) d_Rows_tryFrom_80 rfl rfl ?_
      refine V2_iload_n (i := 2) d_Rows_tryFrom_81 rfl rfl ?_
      refine V2_iload (i := 8) d_Rows_tryFrom_82 rfl ?_
      refine V2_callV [.int (0 : Int32), .int (nI g)] d_Rows_tryFrom_84 rfl rfl lk_Rows_109 mo_Rows_note (by decide) rfl rfl rfl (Nat.le_of_ble_eq_true rfl) (Nat.le_of_ble_eq_true rfl) ?_
      refine V2.to (l' := [some (.ref 36), some (.int (0 : Int32)), some (.int (nI g))]) ?_ rfl rfl rfl rfl
      refine V2_iload_n (i := 1) d_Rows_note_0 rfl rfl ?_
      refine V2_if_lt (tgt := 20) d_Rows_note_1 rfl (fun c => (by first | exact absurd c (by decide) | exact absurd (by decide) c)) (fun _ => ?_)
      refine V2_iload_n (i := 1) d_Rows_note_4 rfl rfl ?_
      refine V2_aload_n (i := 0) d_Rows_note_5 rfl rfl ?_
      refine V2_getr (a := 40) d_Rows_note_6 fl_Rows_26 (by decide) rfl (by decide) rfl ?_
      refine V2_alen (t := 0) (v := 4) d_Rows_note_9 (by decide) rfl (by decide) rfl ?_
      refine V2_icmp_ge (tgt := 20) d_Rows_note_10 rfl (fun c => (by first | exact absurd c (by decide) | exact absurd (by decide) c)) (fun _ => ?_)
      refine V2_aload_n (i := 0) d_Rows_note_13 rfl rfl ?_
      refine V2_getr (a := 40) d_Rows_note_14 fl_Rows_26 (by decide) rfl (by decide) rfl ?_
      refine V2_iload_n (i := 1) d_Rows_note_17 rfl rfl ?_
      refine V2_iload_n (i := 2) d_Rows_note_18 rfl rfl ?_
      refine V2_iastore (j := 0) d_Rows_note_19 (by decide) rfl (xixA (n := 0) rfl (by decide) (by decide)) rfl ?_
      refine V2_return d_Rows_note_20 rfl ?_
      refine V2.to (st' := []) ?_ rfl rfl rfl rfl
      refine V2_aload_n (i := 0) d_Rows_tryFrom_87 rfl rfl ?_
      refine V2_iload_n (i := 2) d_Rows_tryFrom_88 rfl rfl ?_
      refine V2_aload (i := 4) d_Rows_tryFrom_89 rfl ?_
      refine V2_callV [.int (0 : Int32), .ref 43] d_Rows_tryFrom_91 rfl rfl lk_Rows_113 mo_Rows_goesOn (by decide) rfl rfl rfl (Nat.le_of_ble_eq_true rfl) (Nat.le_of_ble_eq_true rfl) ?_
      have hC9 := hx.2.2.2.2.2.2.2.1
      have hs4 : scrC F (xp G1 40 0 (nI g)) := fun a b c e9 => (xp_row_ne (by omega)).trans ((f1 a (by omega)).trans ((g0 a (by omega)).trans (g1 a b c e9)))
      have hcx : ctxV F (xp G1 40 0 (nI g)) S (goS T (nI g) 63 (PN S)) aim n (0 + 1) (pre * 10 + g) (43 + 0) := ⟨hs4, (congrFun ((xp_row_ne (by decide)).trans ((f1 36 (by decide)).trans (g0 36 (by decide)))) 4).trans g2, (congrFun ((xp_row_ne (by decide)).trans ((f1 36 (by decide)).trans (g0 36 (by decide)))) 5).trans g3, digs_child hg10 (fun i hi9 => (xp_ne (Or.inr (by omega))).trans ((congrFun ((f1 40 (by decide)).trans (g0 40 (by decide))) i).trans ((g4 i hi9).trans (hx.2.2.2.1 i hi9)))) (xp_same _ _ _ _), pre_child hg10 hx.2.2.2.2.1, by rw [xp_row_ne (by decide)]; exact hc, hx.2.2.2.2.2.2.1.go, go_inv hC9, sim_child hln h5 hg10 hx.2.2.2.2.2.2.2.2⟩
      have hRg := HR _ (xp G1 40 0 (nI g)) _ g6 (fun a ha => (xp_row_ne (by omega)).trans ((f1 a (by omega)).trans (g0 a (by omega)))) (fun j hj => congrFun ((xp_row_ne (by decide)).trans ((f1 36 (by decide)).trans (g0 36 (by decide)))) j)
      have hB9 : B ((pre * 10 + g) * 10 ^ (n - (0 + 1))) (blk f (pre * 10 ^ (n - 0)) (g * 10 ^ (n - 1)) s0) := by
        have hB8 := blk_B HB (g * 10 ^ (n - 1)) _ _ hb
        rw [show pre * 10 ^ (n - 0) + g * 10 ^ (n - 1) = (pre * 10 + g) * 10 ^ (n - (0 + 1)) by rw [show n - 0 = (n - 1) + 1 by omega, Nat.pow_succ, Nat.add_mul, Nat.mul_assoc pre 10, Nat.mul_comm 10 (10 ^ (n - 1))]] at hB8
        exact hB8
      refine HV _ _ _ _ _ 0 _ hln hcx (HJ _ _ _ _ hln hg10 h5 hk) hB9 hRg (fun G2 b hf hv => ?_)
      obtain ⟨v1, va9, vl9⟩ := hf
      have va : G2 36 4 = aim := va9.trans hcx.2.1
      have vl : G2 36 5 = nI n := vl9.trans hcx.2.2.1
      refine V2_if_eq (tgt := 123) d_Rows_tryFrom_94 rfl (fun c2 => ?_) (fun c2 => ?_)
      · obtain ⟨v3, ev3⟩ : ∃ y : Int32, y = nI g + 1 := ⟨_, rfl⟩
        refine V2_iinc (i := 8) (v := v3) (l' := [some (.ref 36), some (.ref 1), some (.int (0 : Int32)), some (.ref 42), some (.ref 43), some (.int (gripM T 63 (PN S))), some (.int (pushSum T 63 (PN S))), some (.int (rubM T)), some (.int v3)]) d_Rows_tryFrom_123 rfl (by rw [ev3]; rfl) (xst_i (Nat.le_of_ble_eq_true rfl) rfl rfl) ?_
        refine V2_goto (tgt := 53) d_Rows_tryFrom_126 rfl ?_
        have eblk : blk f (pre * 10 ^ (n - 0)) ((g + 1) * 10 ^ (n - 1)) s0 = blk f ((pre * 10 + g) * 10 ^ (n - 1)) (10 ^ (n - 1)) (blk f (pre * 10 ^ (n - 0)) (g * 10 ^ (n - 1)) s0) := by
          rw [Nat.add_mul, Nat.one_mul, blk_add, show n - 0 = (n - 1) + 1 by omega, Nat.pow_succ, Nat.add_mul, Nat.mul_assoc pre 10, Nat.mul_comm 10 (10 ^ (n - 1))]
        rcases hv with ⟨v2, _⟩ | ⟨_, v2⟩
        · exfalso
          rw [v2] at c2
          exact absurd c2 (by decide)
        · rw [ev3, nI_1]
          exact V2.to (ih (g + 1) m G2 (by omega) (by omega) (fun a b c e9 => (v1 a (by omega) (by omega)).trans (hs4 a b c e9)) va vl (fun i hi9 => (congrFun (v1 40 (by decide) (by decide)) i).trans ((xp_ne (Or.inr (by omega))).trans ((congrFun ((f1 40 (by decide)).trans (g0 40 (by decide))) i).trans (g4 i hi9)))) (fun j hj => (v1 _ (by omega) (by omega)).trans ((xp_row_ne (by omega)).trans ((f1 _ (by omega)).trans ((g0 _ (by omega)).trans (g5 j hj))))) (by rw [eblk]; exact v2)) rfl rfl rfl rfl
      · refine V2_aload (i := 4) d_Rows_tryFrom_97 rfl ?_
        refine V2_get (v := G2 43 7) d_Rows_tryFrom_99 fl_Rows_80 (by decide) rfl (by decide) rfl rfl ?_
        refine V2_topi (fun v4 ev4 => ?_)
        refine V2_if_ne (tgt := 123) d_Rows_tryFrom_102 rfl (fun c5 => ?_) (fun c5 => ?_)
        · obtain ⟨v6, ev6⟩ : ∃ y : Int32, y = nI g + 1 := ⟨_, rfl⟩
          refine V2_iinc (i := 8) (v := v6) (l' := [some (.ref 36), some (.ref 1), some (.int (0 : Int32)), some (.ref 42), some (.ref 43), some (.int (gripM T 63 (PN S))), some (.int (pushSum T 63 (PN S))), some (.int (rubM T)), some (.int v6)]) d_Rows_tryFrom_123 rfl (by rw [ev6]; rfl) (xst_i (Nat.le_of_ble_eq_true rfl) rfl rfl) ?_
          refine V2_goto (tgt := 53) d_Rows_tryFrom_126 rfl ?_
          have eblk : blk f (pre * 10 ^ (n - 0)) ((g + 1) * 10 ^ (n - 1)) s0 = blk f ((pre * 10 + g) * 10 ^ (n - 1)) (10 ^ (n - 1)) (blk f (pre * 10 ^ (n - 0)) (g * 10 ^ (n - 1)) s0) := by
            rw [Nat.add_mul, Nat.one_mul, blk_add, show n - 0 = (n - 1) + 1 by omega, Nat.pow_succ, Nat.add_mul, Nat.mul_assoc pre 10, Nat.mul_comm 10 (10 ^ (n - 1))]
          rcases hv with ⟨_, v2, _⟩ | ⟨_, v2⟩
          · exfalso
            have h9 := c5
            subst ev6 ev4
            rw [v1 43 (by decide) (by decide), xp_row_ne (by decide), hc.2.2.2.2.2.2.2] at h9
            exact v2 ((go_inv (S := T) hC9).2.2.2.2.2.1.resolve_left h9)
          · rw [ev6, nI_1]
            exact V2.to (ih (g + 1) m G2 (by omega) (by omega) (fun a b c e9 => (v1 a (by omega) (by omega)).trans (hs4 a b c e9)) va vl (fun i hi9 => (congrFun (v1 40 (by decide) (by decide)) i).trans ((xp_ne (Or.inr (by omega))).trans ((congrFun ((f1 40 (by decide)).trans (g0 40 (by decide))) i).trans (g4 i hi9)))) (fun j hj => (v1 _ (by omega) (by omega)).trans ((xp_row_ne (by omega)).trans ((f1 _ (by omega)).trans ((g0 _ (by omega)).trans (g5 j hj))))) (by rw [eblk]; exact v2)) rfl rfl rfl rfl
        · refine V2_iload_n (i := 2) d_Rows_tryFrom_105 rfl rfl ?_
          refine V2_iconst (v := 1) d_Rows_tryFrom_106 rfl ?_
          refine V2_iadd d_Rows_tryFrom_107 ?_
          refine V2_lit (v := 1) (by decide) ?_
          refine V2_aload_n (i := 0) d_Rows_tryFrom_108 rfl rfl ?_
          refine V2_get (v := G2 36 5) d_Rows_tryFrom_109 fl_Rows_37 (by decide) rfl (by decide) rfl rfl ?_
          refine V2_topi (fun v7 ev7 => ?_)
          refine V2_icmp_ge (tgt := 123) d_Rows_tryFrom_112 rfl (fun c8 => ?_) (fun c8 => ?_)
          · obtain ⟨v9, ev9⟩ : ∃ y : Int32, y = nI g + 1 := ⟨_, rfl⟩
            refine V2_iinc (i := 8) (v := v9) (l' := [some (.ref 36), some (.ref 1), some (.int (0 : Int32)), some (.ref 42), some (.ref 43), some (.int (gripM T 63 (PN S))), some (.int (pushSum T 63 (PN S))), some (.int (rubM T)), some (.int v9)]) d_Rows_tryFrom_123 rfl (by rw [ev9]; rfl) (xst_i (Nat.le_of_ble_eq_true rfl) rfl rfl) ?_
            refine V2_goto (tgt := 53) d_Rows_tryFrom_126 rfl ?_
            have eblk : blk f (pre * 10 ^ (n - 0)) ((g + 1) * 10 ^ (n - 1)) s0 = blk f ((pre * 10 + g) * 10 ^ (n - 1)) (10 ^ (n - 1)) (blk f (pre * 10 ^ (n - 0)) (g * 10 ^ (n - 1)) s0) := by
              rw [Nat.add_mul, Nat.one_mul, blk_add, show n - 0 = (n - 1) + 1 by omega, Nat.pow_succ, Nat.add_mul, Nat.mul_assoc pre 10, Nat.mul_comm 10 (10 ^ (n - 1))]
            rcases hv with ⟨_, _, v2, _⟩ | ⟨_, v2⟩
            · exfalso
              have h9 := c8
              subst ev9 ev7 ev4
              rw [vl] at h9
              have := (nI_leI (a := n) (b := 1) (by omega) (by omega)).mp h9
              omega
            · rw [ev9, nI_1]
              exact V2.to (ih (g + 1) m G2 (by omega) (by omega) (fun a b c e9 => (v1 a (by omega) (by omega)).trans (hs4 a b c e9)) va vl (fun i hi9 => (congrFun (v1 40 (by decide) (by decide)) i).trans ((xp_ne (Or.inr (by omega))).trans ((congrFun ((f1 40 (by decide)).trans (g0 40 (by decide))) i).trans (g4 i hi9)))) (fun j hj => (v1 _ (by omega) (by omega)).trans ((xp_row_ne (by omega)).trans ((f1 _ (by omega)).trans ((g0 _ (by omega)).trans (g5 j hj))))) (by rw [eblk]; exact v2)) rfl rfl rfl rfl
          · refine V2_aload_n (i := 0) d_Rows_tryFrom_115 rfl rfl ?_
            refine V2_aload_n (i := 1) d_Rows_tryFrom_116 rfl rfl ?_
            refine V2_iload_n (i := 2) d_Rows_tryFrom_117 rfl rfl ?_
            refine V2_iconst (v := 1) d_Rows_tryFrom_118 rfl ?_
            refine V2_iadd d_Rows_tryFrom_119 ?_
            refine V2_lit (v := 1) (by decide) ?_
            refine V2_callV [.ref 1, .int (1 : Int32)] d_Rows_tryFrom_120 rfl rfl lk_Rows_88 mo_Rows_tryFrom (by decide) rfl rfl rfl (Nat.le_of_ble_eq_true rfl) (Nat.le_of_ble_eq_true rfl) ?_
            have hl9 : 1 < n := by
              have h9 := c8
              subst ev7 ev4
              rw [vl] at h9
              exact Nat.not_le.mp (fun hh => h9 ((nI_leI (a := n) (b := 1) (by omega) (by omega)).mpr hh))
            have h59 : ¬ goS T (nI g) 63 (PN S) 5 = 1 := by
              intro hh
              have h9 := c5
              subst ev7 ev4
              rw [v1 43 (by decide) (by decide), xp_row_ne (by decide), hc.2.2.2.2.2.2.2, hh] at h9
              exact absurd h9 (by decide)
            have hv2 : K (0 + 1) (pre * 10 + g) (goS T (nI g) 63 (PN S)) ∧ R G2 (blk f (pre * 10 ^ (n - 0)) (g * 10 ^ (n - 1)) s0) := by
              rcases hv with ⟨_, _, _, v2⟩ | ⟨v3, _⟩
              · exact v2
              · exfalso
                rcases v3 with v3 | ⟨_, v3 | v3⟩
                · exact c2 v3
                · exact h59 v3
                · omega
            have hcx2 : ctxV F G2 S (goS T (nI g) 63 (PN S)) aim n 1 (pre * 10 + g) 43 := ⟨fun a b c e9 => (v1 a (by omega) (by omega)).trans (hs4 a b c e9), va, vl, fun i hi9 => (congrFun (v1 40 (by decide) (by decide)) i).trans (hcx.2.2.2.1 i hi9), hcx.2.2.2.2.1, by rw [v1 43 (by decide) (by decide)]; exact hcx.2.2.2.2.2.1, hcx.2.2.2.2.2.2⟩
            refine c_tryFrom_1 h hi hn hl9 HV HB HR HJ hcx2 h59 hv2.1 hB9 hv2.2 (fun G3 r1 r2 r3 r4 r5 r6 => ?_)
            obtain ⟨v10, ev10⟩ : ∃ y : Int32, y = nI g + 1 := ⟨_, rfl⟩
            refine V2_iinc (i := 8) (v := v10) (l' := [some (.ref 36), some (.ref 1), some (.int (0 : Int32)), some (.ref 42), some (.ref 43), some (.int (gripM T 63 (PN S))), some (.int (pushSum T 63 (PN S))), some (.int (rubM T)), some (.int v10)]) d_Rows_tryFrom_123 rfl (by rw [ev10]; rfl) (xst_i (Nat.le_of_ble_eq_true rfl) rfl rfl) ?_
            refine V2_goto (tgt := 53) d_Rows_tryFrom_126 rfl ?_
            have eblk : blk f (pre * 10 ^ (n - 0)) ((g + 1) * 10 ^ (n - 1)) s0 = blk f ((pre * 10 + g) * 10 ^ (n - 1)) (10 ^ (n - 1)) (blk f (pre * 10 ^ (n - 0)) (g * 10 ^ (n - 1)) s0) := by
              rw [Nat.add_mul, Nat.one_mul, blk_add, show n - 0 = (n - 1) + 1 by omega, Nat.pow_succ, Nat.add_mul, Nat.mul_assoc pre 10, Nat.mul_comm 10 (10 ^ (n - 1))]
            rw [ev10, nI_1]
            exact V2.to (ih (g + 1) m G3 (by omega) (by omega) r1 r2 r3 (fun i hi9 => (r4 i (by omega)).trans ((congrFun (v1 40 (by decide) (by decide)) i).trans ((xp_ne (Or.inr (by omega))).trans ((congrFun ((f1 40 (by decide)).trans (g0 40 (by decide))) i).trans (g4 i hi9))))) (fun j hj => (r5 j (by omega)).trans ((v1 _ (by omega) (by omega)).trans ((xp_row_ne (by omega)).trans ((f1 _ (by omega)).trans ((g0 _ (by omega)).trans (g5 j hj)))))) (by rw [eblk]; exact r6)) rfl rfl rfl rfl
theorem c_tryFrom_0 {L : Nat} {xs : Nat → Int32} {d : Nat} {Q : Option Value → xF → Prop} {α : Type} {F : xF} {S T : Nat → Int32} {aim : Int32} {n pre : Nat} {f : Nat → α → α} {R : xF → α → Prop} {J K : Nat → Nat → (Nat → Int32) → Prop} {B : Nat → α → Prop} {s0 : α} {H : xF} (h : relW F 1 S) (hi : invS S) (hn : n ≤ 4) (hln : 0 < n) (HV : visV L xs F S aim n f R J K B) (HB : ∀ (a : Nat) (s : α), B a s → B (a + 1) (f a s)) (HR : stabR R) (HJ : ∀ (l pre g : Nat) (T : Nat → Int32), l < n → g < 10 → ¬ T 5 = 1 → K l pre T → J (l + 1) (pre * 10 + g) (goS T (nI g) 63 (PN S))) (hx : ctxV F H S T aim n 0 pre 42) (h5 : ¬ T 5 = 1) (hk : K 0 pre T) (hb : B (pre * 10 ^ (n - 0)) s0) (hR : R H s0) (hQ : ∀ G : xF, scrC F G → G 36 4 = aim → G 36 5 = nI n → (∀ i, i < 0 → G 40 i = H 40 i) → (∀ j, j ≤ 0 → G (42 + j) = H (42 + j)) → R G (blk f (pre * 10 ^ (n - 0)) (10 ^ (n - 0)) s0) → Q none G) : V2 L xs (d + 20) m_Rows_tryFrom 0 (xEntry [.ref 36, .ref 1, .int (0 : Int32)] 9) [] H Q := by
  refine V2.to (l' := [some (.ref 36), some (.ref 1), some (.int (0 : Int32)), none, none, none, none, none, none]) ?_ rfl rfl rfl rfl
  refine V2_aload_n (i := 0) d_Rows_tryFrom_0 rfl rfl ?_
  refine V2_iload_n (i := 2) d_Rows_tryFrom_1 rfl rfl ?_
  refine V2_callV [.int (0 : Int32)] d_Rows_tryFrom_2 rfl rfl lk_Rows_70 mo_Rows_carAt (by decide) rfl rfl rfl (Nat.le_of_ble_eq_true rfl) (Nat.le_of_ble_eq_true rfl) ?_
  refine V2.to (l' := [some (.ref 36), some (.int (0 : Int32))]) ?_ rfl rfl rfl rfl
  refine V2_iload_n (i := 1) d_Rows_carAt_0 rfl rfl ?_
  refine V2_if_lt (tgt := 22) d_Rows_carAt_1 rfl (fun c => (by first | exact absurd c (by decide) | exact absurd (by decide) c)) (fun _ => ?_)
  refine V2_iload_n (i := 1) d_Rows_carAt_4 rfl rfl ?_
  refine V2_aload_n (i := 0) d_Rows_carAt_5 rfl rfl ?_
  refine V2_getr (a := 37) d_Rows_carAt_6 fl_Rows_13 (by decide) rfl (by decide) rfl ?_
  refine V2_alen (t := 2) (v := 5) d_Rows_carAt_9 (by decide) rfl (by decide) rfl ?_
  refine V2_icmp_ge (tgt := 22) d_Rows_carAt_10 rfl (fun c => (by first | exact absurd c (by decide) | exact absurd (by decide) c)) (fun _ => ?_)
  refine V2_aload_n (i := 0) d_Rows_carAt_13 rfl rfl ?_
  refine V2_getr (a := 37) d_Rows_carAt_14 fl_Rows_13 (by decide) rfl (by decide) rfl ?_
  refine V2_iload_n (i := 1) d_Rows_carAt_17 rfl rfl ?_
  refine V2_aaload (t := 1) (a := 42) d_Rows_carAt_18 (by decide) rfl (by decide) (xixA (n := 0) rfl (by decide) (by decide)) rfl ?_
  refine V2_goto (tgt := 23) d_Rows_carAt_19 rfl ?_
  refine V2_areturn d_Rows_carAt_23 rfl (Or.inl ⟨_, rfl⟩) ?_
  refine V2.to (st' := [.ref 42]) ?_ rfl rfl rfl rfl
  refine V2_astore_n (i := 3) (l' := [some (.ref 36), some (.ref 1), some (.int (0 : Int32)), some (.ref 42), none, none, none, none, none]) d_Rows_tryFrom_5 rfl (xst_i (Nat.le_of_ble_eq_true rfl) rfl rfl) ?_
  refine V2_aload_n (i := 0) d_Rows_tryFrom_6 rfl rfl ?_
  refine V2_iload_n (i := 2) d_Rows_tryFrom_7 rfl rfl ?_
  refine V2_iconst (v := 1) d_Rows_tryFrom_8 rfl ?_
  refine V2_iadd d_Rows_tryFrom_9 ?_
  refine V2_lit (v := 1) (by decide) ?_
  refine V2_callV [.int (1 : Int32)] d_Rows_tryFrom_10 rfl rfl lk_Rows_70 mo_Rows_carAt (by decide) rfl rfl rfl (Nat.le_of_ble_eq_true rfl) (Nat.le_of_ble_eq_true rfl) ?_
  refine V2.to (l' := [some (.ref 36), some (.int (1 : Int32))]) ?_ rfl rfl rfl rfl
  refine V2_iload_n (i := 1) d_Rows_carAt_0 rfl rfl ?_
  refine V2_if_lt (tgt := 22) d_Rows_carAt_1 rfl (fun c => (by first | exact absurd c (by decide) | exact absurd (by decide) c)) (fun _ => ?_)
  refine V2_iload_n (i := 1) d_Rows_carAt_4 rfl rfl ?_
  refine V2_aload_n (i := 0) d_Rows_carAt_5 rfl rfl ?_
  refine V2_getr (a := 37) d_Rows_carAt_6 fl_Rows_13 (by decide) rfl (by decide) rfl ?_
  refine V2_alen (t := 2) (v := 5) d_Rows_carAt_9 (by decide) rfl (by decide) rfl ?_
  refine V2_icmp_ge (tgt := 22) d_Rows_carAt_10 rfl (fun c => (by first | exact absurd c (by decide) | exact absurd (by decide) c)) (fun _ => ?_)
  refine V2_aload_n (i := 0) d_Rows_carAt_13 rfl rfl ?_
  refine V2_getr (a := 37) d_Rows_carAt_14 fl_Rows_13 (by decide) rfl (by decide) rfl ?_
  refine V2_iload_n (i := 1) d_Rows_carAt_17 rfl rfl ?_
  refine V2_aaload (t := 1) (a := 43) d_Rows_carAt_18 (by decide) rfl (by decide) (xixA (n := 1) rfl (by decide) (by decide)) rfl ?_
  refine V2_goto (tgt := 23) d_Rows_carAt_19 rfl ?_
  refine V2_areturn d_Rows_carAt_23 rfl (Or.inl ⟨_, rfl⟩) ?_
  refine V2.to (st' := [.ref 43]) ?_ rfl rfl rfl rfl
  refine V2_astore (i := 4) (l' := [some (.ref 36), some (.ref 1), some (.int (0 : Int32)), some (.ref 42), some (.ref 43), none, none, none, none]) d_Rows_tryFrom_13 (xst_r (Nat.le_of_ble_eq_true rfl) rfl rfl) ?_
  refine V2_aload_n (i := 3) d_Rows_tryFrom_15 rfl rfl ?_
  refine V2_ifnull d_Rows_tryFrom_16 ?_
  refine V2_aload (i := 4) d_Rows_tryFrom_19 rfl ?_
  refine V2_ifnonnull (tgt := 25) d_Rows_tryFrom_21 rfl ?_
  refine V2_aload_n (i := 1) d_Rows_tryFrom_25 rfl rfl ?_
  refine V2_aload_n (i := 3) d_Rows_tryFrom_26 rfl rfl ?_
  refine V2_bipush (v := 63) d_Rows_tryFrom_27 rfl ?_
  refine V2_callV [.ref 42, .int (63 : Int32)] d_Rows_tryFrom_29 rfl rfl lk_Rows_94 mo_World_gripOf (by decide) rfl rfl rfl (Nat.le_of_ble_eq_true rfl) (Nat.le_of_ble_eq_true rfl) ?_
  obtain ⟨a1, a2, a3, a4, a5⟩ := drv h hi hx.1 hx.2.2.2.2.2.2.1
  refine c_World_gripOf_42 hx.2.2.2.2.2.1 a1 a2 a3 (fun q10 => ?_)
  refine V2_istore (i := 5) (l' := [some (.ref 36), some (.ref 1), some (.int (0 : Int32)), some (.ref 42), some (.ref 43), some (.int (gripM T 63 (PN S))), none, none, none]) d_Rows_tryFrom_32 (xst_r (Nat.le_of_ble_eq_true rfl) rfl rfl) ?_
  refine V2_aload_n (i := 1) d_Rows_tryFrom_34 rfl rfl ?_
  refine V2_aload_n (i := 3) d_Rows_tryFrom_35 rfl rfl ?_
  refine V2_bipush (v := 63) d_Rows_tryFrom_36 rfl ?_
  refine V2_callV [.ref 42, .int (63 : Int32)] d_Rows_tryFrom_38 rfl rfl lk_Rows_98 mo_World_pushOf (by decide) rfl rfl rfl (Nat.le_of_ble_eq_true rfl) (Nat.le_of_ble_eq_true rfl) ?_
  obtain ⟨b1, b2, b3, b4, b5⟩ := drv (G := xrw H 10 q10) h hi (fun a i1 i2 i3 => (xrw_ne i1).trans (hx.1 a i1 i2 i3)) hx.2.2.2.2.2.2.1
  refine c_World_pushOf_42 (by rw [xrw_ne (by decide)]; exact hx.2.2.2.2.2.1) b1 ?_
  refine V2_istore (i := 6) (l' := [some (.ref 36), some (.ref 1), some (.int (0 : Int32)), some (.ref 42), some (.ref 43), some (.int (gripM T 63 (PN S))), some (.int (pushSum T 63 (PN S))), none, none]) d_Rows_tryFrom_41 (xst_i (Nat.le_of_ble_eq_true rfl) rfl rfl) ?_
  refine V2_aload_n (i := 1) d_Rows_tryFrom_43 rfl rfl ?_
  refine V2_aload_n (i := 3) d_Rows_tryFrom_44 rfl rfl ?_
  refine V2_callV [.ref 42] d_Rows_tryFrom_45 rfl rfl lk_Rows_101 mo_World_rubOf (by decide) rfl rfl rfl (Nat.le_of_ble_eq_true rfl) (Nat.le_of_ble_eq_true rfl) ?_
  refine c_World_rubOf_42 (by rw [xrw_ne (by decide)]; exact hx.2.2.2.2.2.1) b4 b5 (fun q13 => ?_)
  refine V2_istore (i := 7) (l' := [some (.ref 36), some (.ref 1), some (.int (0 : Int32)), some (.ref 42), some (.ref 43), some (.int (gripM T 63 (PN S))), some (.int (pushSum T 63 (PN S))), some (.int (rubM T)), none]) d_Rows_tryFrom_48 (xst_i (Nat.le_of_ble_eq_true rfl) rfl rfl) ?_
  refine V2_iconst (v := 0) d_Rows_tryFrom_50 rfl ?_
  refine V2_istore (i := 8) (l' := [some (.ref 36), some (.ref 1), some (.int (0 : Int32)), some (.ref 42), some (.ref 43), some (.int (gripM T 63 (PN S))), some (.int (pushSum T 63 (PN S))), some (.int (rubM T)), some (.int (0 : Int32))]) d_Rows_tryFrom_51 (xst_i (Nat.le_of_ble_eq_true rfl) rfl rfl) ?_
  exact V2.to (c_tryFrom_0_loop h hi hn hln HV HB HR HJ hx h5 hk hb hQ 11 0 10 (xrw (xrw H 10 q10) 13 q13) (by omega) (by omega) (fun a i1 i2 i3 => (xrw_ne i2).trans ((xrw_ne i1).trans (hx.1 a i1 i2 i3))) hx.2.1 hx.2.2.1 (fun i _ => rfl) (fun j hj => (xrw_ne (by omega)).trans (xrw_ne (by omega))) (by rw [Nat.zero_mul]; exact HR _ _ _ hR (fun a ha => (xrw_ne (by omega)).trans (xrw_ne (by omega))) (fun j hj => rfl))) rfl rfl rfl rfl
