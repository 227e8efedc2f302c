/-! the reference reads -/
def TPm (B : xF) (T : Nat → Int32) (N use : Nat) : Prop := B 66 9 = nI N ∧ N ≤ 60 ∧ (∀ i, i < N → B 66 (274 + i) = T i) ∧ B 65 9 = nI use ∧ use ≤ 1
def MR (B : xF) (o : Nat) (s : PS) (G : xF) : Prop := (∀ a, ¬ a = 65 → ¬ a = 70 → G a = B a) ∧ (∀ j, ¬ j = 6 → ¬ j = 7 → ¬ j = 8 → G 65 j = B 65 j) ∧ G 65 6 = nI s.at_ ∧ G 65 7 = nI o ∧ G 65 8 = nI s.n ∧ ∀ i, i < s.n → G 70 (2 * i) = s.wh i ∧ G 70 (2 * i + 1) = s.vl i
def MRf (B : xF) (s : PS) (G : xF) : Prop := (∀ a, ¬ a = 65 → ¬ a = 70 → G a = B a) ∧ (∀ j, ¬ j = 6 → ¬ j = 7 → ¬ j = 8 → G 65 j = B 65 j) ∧ G 65 6 = nI s.at_
def RESm (B : xF) (o : Nat) (x : Bool × PS) (r : Int32) (F : xF) : Prop := (r = 1 ∧ x.1 = true ∧ MR B o x.2 F) ∨ (r = 0 ∧ x.1 = false ∧ MRf B x.2 F)
theorem mr_f {B F : xF} {o : Nat} {s : PS} (h : MR B o s F) : MRf B s F := ⟨h.1, h.2.1, h.2.2.1⟩
theorem mr_go {B F : xF} {o : Nat} {s : PS} (h : MR B o s F) : MR B o s.go (xp F 65 6 (F 65 6 + 1)) := by
  obtain ⟨h1, h2, h3, h4, h5, h6⟩ := h
  refine ⟨fun a x y => (xp_row_ne x).trans (h1 a x y), fun j x y z => (xp_ne (Or.inr x)).trans (h2 j x y z), ?_, ?_, ?_, ?_⟩
  · rw [xp_same, h3, nI_1]
    rfl
  · rw [xp_ne (Or.inr (by decide))]
    exact h4
  · rw [xp_ne (Or.inr (by decide))]
    exact h5
  · rw [xp_row_ne (by decide)]
    exact h6
theorem mr_7 {B F : xF} {o m : Nat} {s : PS} {x : Int32} (h : MR B o s F) (e : x = nI m) : MR B m s (xp F 65 7 x) := by
  obtain ⟨h1, h2, h3, h4, h5, h6⟩ := h
  refine ⟨fun a x y => (xp_row_ne x).trans (h1 a x y), fun j x y z => (xp_ne (Or.inr y)).trans (h2 j x y z), ?_, ?_, ?_, ?_⟩
  · rw [xp_ne (Or.inr (by decide))]
    exact h3
  · rw [xp_same]
    exact e
  · rw [xp_ne (Or.inr (by decide))]
    exact h5
  · rw [xp_row_ne (by decide)]
    exact h6
theorem mr_add {B F : xF} {o : Nat} {s : PS} (w v : Int32) (h : MR B o s F) : MR B o (s.add w v) (xp (xp (xp F 70 (2 * s.n) w) 70 (2 * s.n + 1) v) 65 8 (nI (s.n + 1))) := by
  obtain ⟨h1, h2, h3, h4, h5, h6⟩ := h
  refine ⟨fun a x y => (xp_row_ne x).trans ((xp_row_ne y).trans ((xp_row_ne y).trans (h1 a x y))), fun j x y z => (xp_ne (Or.inr z)).trans ((congrFun (xp_row_ne (by decide)) j).trans ((congrFun (xp_row_ne (by decide)) j).trans (h2 j x y z))), ?_, ?_, ?_, ?_⟩
  · rw [xp_ne (Or.inr (by decide)), xp_row_ne (by decide), xp_row_ne (by decide)]
    exact h3
  · rw [xp_ne (Or.inr (by decide)), xp_row_ne (by decide), xp_row_ne (by decide)]
    exact h4
  · rw [xp_same]
    rfl
  · intro i hi
    have hi' : i < s.n + 1 := hi
    rw [xp_row_ne (by decide)]
    show _ = upd s.wh s.n w i ∧ _ = upd s.vl s.n v i
    by_cases ei : i = s.n
    · subst ei
      rw [xp_ne (Or.inr (by omega)), xp_same, xp_same, upd_same, upd_same]
      exact ⟨rfl, rfl⟩
    · rw [xp_ne (Or.inr (by omega)), xp_ne (Or.inr (by omega)), xp_ne (Or.inr (by omega)), xp_ne (Or.inr (by omega)), upd_ne ei, upd_ne ei]
      exact h6 i (by omega)
theorem lvT_is {c : Int32} : (lvT c = 0 ↔ c = 124) ∧ (lvT c = 1 ↔ c = 38) ∧ (lvT c = 2 ↔ (c = 60 ∨ c = 61 ∨ c = 62)) ∧ (lvT c = 3 ↔ (c = 43 ∨ c = 45)) ∧ (lvT c = 4 ↔ (c = 42 ∨ c = 47 ∨ c = 37)) := by
  unfold lvT
  by_cases h1 : c = 124
  · subst h1
    simp
  by_cases h2 : c = 38
  · subst h2
    simp
  by_cases h3 : c = 60 ∨ c = 61 ∨ c = 62
  · rcases h3 with rfl | rfl | rfl <;> simp
  by_cases h4 : c = 43 ∨ c = 45
  · rcases h4 with rfl | rfl <;> simp
  by_cases h5 : c = 42 ∨ c = 47 ∨ c = 37
  · rcases h5 with rfl | rfl | rfl <;> simp
  rw [if_neg h1, if_neg h2, if_neg h3, if_neg h4, if_neg h5]
  simp [h1, h2, h3, h4, h5]
theorem nm_not {use : Nat} {c : Int32} (h : nmT use c) : ¬ dgT c ∧ ¬ c = 33 ∧ ¬ c = 40 := by
  have h2 : c = 100 ∨ c = 105 ∨ c = 119 ∨ c = 104 ∨ c = 110 := by
    unfold nmT isName at h
    rcases h with h | h
    · exact Or.inl h
    · split at h <;> rcases h with h | h <;> simp [h]
  unfold dgT
  rcases h2 with rfl | rfl | rfl | rfl | rfl <;> decide
theorem resm_01 {B F : xF} {o : Nat} {x : Bool × PS} {r : Int32} (h : RESm B o x r F) : r = 0 ∨ r = 1 := by
  rcases h with ⟨h, -⟩ | ⟨h, -⟩
  · exact Or.inr h
  · exact Or.inl h
section RD2
variable (L : Nat) (xs : Nat → Int32) (B : xF) (N use o : Nat) (p : PS → Bool × PS) (D : Nat) (m : xM) (ml : Nat)
def CKm : Prop := ∀ (Q : Option Value → xF → Prop) (F : xF) (s : PS), MR B o s F → okR use s → s.at_ ≤ N → s.n ≤ s.at_ → (∀ r F1, RESm B o (p s) r F1 → Q (some (.int r)) F1) → V2 L xs D m 0 (xEntry [.ref 65] ml) [] F Q
end RD2
theorem c_R_look {L : Nat} {xs : Nat → Int32} {d : Nat} {Q : Option Value → xF → Prop} {F : xF} {T : Nat → Int32} {N a : Nat} (h9 : F 66 9 = nI N) (hN : N ≤ 60) (hTi : ∀ i, i < N → F 66 (274 + i) = T i) (h6 : F 65 6 = nI a) (ha : a ≤ 60) (hQ : Q (some (.int (sgT T N a))) F) : V2 L xs d m_R_look 0 (xEntry [.ref 65] 1) [] F Q := by
  refine V2.to (l' := [some (.ref 65)]) ?_ rfl rfl rfl rfl
  refine V2_aload_n (i := 0) d_R_look_0 rfl rfl ?_
  refine V2_get (v := F 65 6) d_R_look_1 fl_R_61 (by decide) rfl (by decide) rfl rfl ?_
  refine V2_topi (fun v1 ev1 => ?_)
  refine V2_aload_n (i := 0) d_R_look_4 rfl rfl ?_
  refine V2_getr (a := 66) d_R_look_5 fl_R_7 (by decide) rfl (by decide) rfl ?_
  refine V2_bipush (v := 9) d_R_look_8 rfl ?_
  refine V2_iaload (v := F 66 9) d_R_look_10 (by decide) rfl (xixA (n := 9) rfl (by decide) (by decide)) rfl ?_
  refine V2_topi (fun v2 ev2 => ?_)
  refine V2_icmp_ge (tgt := 30) d_R_look_11 rfl (fun c3 => ?_) (fun c3 => ?_)
  · refine V2_iconst (v := -1) d_R_look_30 rfl ?_
    refine V2_ireturn d_R_look_31 rfl ?_
    exact xQi hQ (by have h8 := c3; subst ev2 ev1; rw [h9, h6] at h8; exact (sg_m1 ((nI_leI (by omega) (by omega)).mp h8)).symm) rfl
  · have hlt : a < N := by
      have h8 := c3
      subst ev2 ev1
      rw [h9, h6] at h8
      exact Nat.not_le.mp (fun hh => h8 ((nI_leI (by omega) (by omega)).mpr hh))
    refine V2_aload_n (i := 0) d_R_look_14 rfl rfl ?_
    refine V2_getr (a := 66) d_R_look_15 fl_R_7 (by decide) rfl (by decide) rfl ?_
    refine V2_sipush (v := 274) d_R_look_18 rfl ?_
    refine V2_aload_n (i := 0) d_R_look_21 rfl rfl ?_
    refine V2_get (v := F 65 6) d_R_look_22 fl_R_61 (by decide) rfl (by decide) rfl rfl ?_
    refine V2_topi (fun v4 ev4 => ?_)
    refine V2_iadd d_R_look_25 ?_
    refine V2_topi (fun v5 ev5 => ?_)
    refine V2_ialoadJ (274 + a) d_R_look_26 (by decide) rfl (xixA (n := 274 + a) (by subst ev5 ev4 ev2 ev1; rw [h6]; simp only [nI, Int32.ofNat_add]; rfl) (by omega) (by decide)) (xixB (n := 274 + a) (by subst ev5 ev4 ev2 ev1; rw [h6]; simp only [nI, Int32.ofNat_add]; rfl) (by omega)) rfl ?_
    refine V2_topi (fun v6 ev6 => ?_)
    refine V2_goto (tgt := 31) d_R_look_27 rfl ?_
    refine V2_ireturn d_R_look_31 rfl ?_
    exact xQi hQ (by subst ev6 ev5 ev4 ev2 ev1; rw [hTi a hlt]; exact (if_pos hlt).symm) rfl
theorem c_R_isName {L : Nat} {xs : Nat → Int32} {d : Nat} {Q : Option Value → xF → Prop} {F : xF} {c : Int32} {use : Nat} (h9 : F 65 9 = nI use) (hu : use ≤ 1) (hQ : ∀ r : Int32, (r = 1 ∧ nmT use c) ∨ (r = 0 ∧ ¬ nmT use c) → Q (some (.int r)) F) : V2 L xs d m_R_isName 0 (xEntry [.ref 65, .int c] 2) [] F Q := by
  have hz : F 65 9 = 0 ↔ use = 0 := by
    rw [h9]
    constructor
    · intro h
      have q1 := nI_toInt (n := use) (by omega)
      rw [h] at q1
      have q0 : (0 : Int32).toInt = 0 := by decide
      omega
    · intro h
      rw [h]
      rfl
  refine V2.to (l' := [some (.ref 65), some (.int c)]) ?_ rfl rfl rfl rfl
  refine V2_iload_n (i := 1) d_R_isName_0 rfl rfl ?_
  refine V2_bipush (v := 100) d_R_isName_1 rfl ?_
  refine V2_icmp_ne (tgt := 8) d_R_isName_3 rfl (fun c1 => ?_) (fun c1 => ?_)
  · refine V2_aload_n (i := 0) d_R_isName_8 rfl rfl ?_
    refine V2_get (v := F 65 9) d_R_isName_9 fl_R_64 (by decide) rfl (by decide) rfl rfl ?_
    refine V2_topi (fun v2 ev2 => ?_)
    refine V2_if_ne (tgt := 35) d_R_isName_12 rfl (fun c3 => ?_) (fun c3 => ?_)
    · refine V2_iload_n (i := 1) d_R_isName_35 rfl rfl ?_
      refine V2_bipush (v := 104) d_R_isName_36 rfl ?_
      refine V2_icmp_eq (tgt := 47) d_R_isName_38 rfl (fun c4 => ?_) (fun c4 => ?_)
      · refine V2_iconst (v := 1) d_R_isName_47 rfl ?_
        refine V2_goto (tgt := 52) d_R_isName_48 rfl ?_
        refine V2_zreturn d_R_isName_52 rfl (by decide) ?_
        exact hQ _ (by subst ev2; unfold nmT isName; simp_all)
      · refine V2_iload_n (i := 1) d_R_isName_41 rfl rfl ?_
        refine V2_bipush (v := 110) d_R_isName_42 rfl ?_
        refine V2_icmp_ne (tgt := 51) d_R_isName_44 rfl (fun c5 => ?_) (fun c5 => ?_)
        · refine V2_iconst (v := 0) d_R_isName_51 rfl ?_
          refine V2_zreturn d_R_isName_52 rfl (by decide) ?_
          exact hQ _ (by subst ev2; unfold nmT isName; simp_all)
        · refine V2_iconst (v := 1) d_R_isName_47 rfl ?_
          refine V2_goto (tgt := 52) d_R_isName_48 rfl ?_
          refine V2_zreturn d_R_isName_52 rfl (by decide) ?_
          exact hQ _ (by subst ev2; unfold nmT isName; simp_all)
    · refine V2_iload_n (i := 1) d_R_isName_15 rfl rfl ?_
      refine V2_bipush (v := 105) d_R_isName_16 rfl ?_
      refine V2_icmp_eq (tgt := 27) d_R_isName_18 rfl (fun c6 => ?_) (fun c6 => ?_)
      · refine V2_iconst (v := 1) d_R_isName_27 rfl ?_
        refine V2_goto (tgt := 52) d_R_isName_28 rfl ?_
        refine V2_zreturn d_R_isName_52 rfl (by decide) ?_
        exact hQ _ (by subst ev2; unfold nmT isName; simp_all)
      · refine V2_iload_n (i := 1) d_R_isName_21 rfl rfl ?_
        refine V2_bipush (v := 119) d_R_isName_22 rfl ?_
        refine V2_icmp_ne (tgt := 31) d_R_isName_24 rfl (fun c7 => ?_) (fun c7 => ?_)
        · refine V2_iconst (v := 0) d_R_isName_31 rfl ?_
          refine V2_goto (tgt := 52) d_R_isName_32 rfl ?_
          refine V2_zreturn d_R_isName_52 rfl (by decide) ?_
          exact hQ _ (by subst ev2; unfold nmT isName; simp_all)
        · refine V2_iconst (v := 1) d_R_isName_27 rfl ?_
          refine V2_goto (tgt := 52) d_R_isName_28 rfl ?_
          refine V2_zreturn d_R_isName_52 rfl (by decide) ?_
          exact hQ _ (by subst ev2; unfold nmT isName; simp_all)
  · refine V2_iconst (v := 1) d_R_isName_6 rfl ?_
    refine V2_zreturn d_R_isName_7 rfl (by decide) ?_
    exact hQ _ (by skip; unfold nmT isName; simp_all)
theorem c_R_step1 {L : Nat} {xs : Nat → Int32} {d : Nat} {Q : Option Value → xF → Prop} {F : xF} {w v : Int32} {n : Nat} (h8 : F 65 8 = nI n) (hn : n ≤ 60) (hQ : Q none (xp (xp (xp F 70 (2 * n) w) 70 (2 * n + 1) v) 65 8 (nI (n + 1)))) : V2 L xs d m_R_step1 0 (xEntry [.ref 65, .int w, .int v] 3) [] F Q := by
  refine V2.to (l' := [some (.ref 65), some (.int w), some (.int v)]) ?_ rfl rfl rfl rfl
  refine V2_aload_n (i := 0) d_R_step1_0 rfl rfl ?_
  refine V2_getr (a := 70) d_R_step1_1 fl_R_26 (by decide) rfl (by decide) rfl ?_
  refine V2_iconst (v := 2) d_R_step1_4 rfl ?_
  refine V2_aload_n (i := 0) d_R_step1_5 rfl rfl ?_
  refine V2_get (v := F 65 8) d_R_step1_6 fl_R_67 (by decide) rfl (by decide) rfl rfl ?_
  refine V2_topi (fun v1 ev1 => ?_)
  refine V2_imul d_R_step1_9 ?_
  refine V2_topi (fun v2 ev2 => ?_)
  refine V2_iload_n (i := 1) d_R_step1_10 rfl rfl ?_
  refine V2_iastore (j := (2 * n)) d_R_step1_11 (by decide) rfl (xixA (n := 2 * n) (by subst ev2 ev1; (try rw [h8]); (try rw [show (xp F 70 (2 * n) w) 65 8 = nI n from h8]); simp only [nI, Int32.ofNat_mul, Int32.ofNat_add]; rfl) (by omega) (by decide)) (xixB (n := 2 * n) (by subst ev2 ev1; (try rw [h8]); (try rw [show (xp F 70 (2 * n) w) 65 8 = nI n from h8]); simp only [nI, Int32.ofNat_mul, Int32.ofNat_add]; rfl) (by omega)) ?_
  refine V2_aload_n (i := 0) d_R_step1_12 rfl rfl ?_
  refine V2_getr (a := 70) d_R_step1_13 fl_R_26 (by decide) rfl (by decide) rfl ?_
  refine V2_iconst (v := 2) d_R_step1_16 rfl ?_
  refine V2_aload_n (i := 0) d_R_step1_17 rfl rfl ?_
  refine V2_get (v := F 65 8) d_R_step1_18 fl_R_67 (by decide) rfl (by decide) rfl rfl ?_
  refine V2_topi (fun v3 ev3 => ?_)
  refine V2_imul d_R_step1_21 ?_
  refine V2_topi (fun v4 ev4 => ?_)
  refine V2_iconst (v := 1) d_R_step1_22 rfl ?_
  refine V2_iadd d_R_step1_23 ?_
  refine V2_topi (fun v5 ev5 => ?_)
  refine V2_iload_n (i := 2) d_R_step1_24 rfl rfl ?_
  refine V2_iastore (j := (2 * n + 1)) d_R_step1_25 (by decide) rfl (xixA (n := 2 * n + 1) (by subst ev5 ev4 ev3 ev2 ev1; (try rw [h8]); (try rw [show (xp F 70 (2 * n) w) 65 8 = nI n from h8]); simp only [nI, Int32.ofNat_mul, Int32.ofNat_add]; rfl) (by omega) (by decide)) (xixB (n := 2 * n + 1) (by subst ev5 ev4 ev3 ev2 ev1; (try rw [h8]); (try rw [show (xp F 70 (2 * n) w) 65 8 = nI n from h8]); simp only [nI, Int32.ofNat_mul, Int32.ofNat_add]; rfl) (by omega)) ?_
  refine V2_aload_n (i := 0) d_R_step1_26 rfl rfl ?_
  refine V2_dup d_R_step1_27 rfl ?_
  refine V2_get (v := F 65 8) d_R_step1_28 fl_R_67 (by decide) rfl (by decide) rfl rfl ?_
  refine V2_topi (fun v6 ev6 => ?_)
  refine V2_iconst (v := 1) d_R_step1_31 rfl ?_
  refine V2_iadd d_R_step1_32 ?_
  refine V2_topi (fun v7 ev7 => ?_)
  refine V2_put d_R_step1_33 fl_R_67 (by decide) rfl (by decide) rfl ?_
  refine V2_return d_R_step1_36 rfl ?_
  exact xQv hQ (by subst ev7 ev6 ev5 ev4 ev3 ev2 ev1; rw [h8, nI_1])
theorem c_R_opens5 {L : Nat} {xs : Nat → Int32} {d : Nat} {Q : Option Value → xF → Prop} {F : xF} {B : xF} {s : PS} (hR : MR B 5 s F) (hQ : Q (some (.int 0)) F) : V2 L xs d m_R_opens 0 (xEntry [.ref 65] 1) [] F Q := by
  refine V2.to (l' := [some (.ref 65)]) ?_ rfl rfl rfl rfl
  refine V2_aload_n (i := 0) d_R_opens_0 rfl rfl ?_
  refine V2_get (v := F 65 7) d_R_opens_1 fl_R_94 (by decide) rfl (by decide) rfl rfl ?_
  refine V2_topi (fun v1 ev1 => ?_)
  refine V2_iconst (v := 5) d_R_opens_4 rfl ?_
  refine V2_icmp_ne (tgt := 10) d_R_opens_5 rfl (fun c2 => (by first | exact absurd c2 (show v1 = 5 from by (try clear hQ); subst ev1; exact hR.2.2.2.1) | exact absurd (show v1 = 5 from by (try clear hQ); subst ev1; exact hR.2.2.2.1) c2)) (fun c2 => ?_)
  refine V2_iconst (v := 0) d_R_opens_8 rfl ?_
  refine V2_zreturn d_R_opens_9 rfl (by decide) ?_
  exact xQi hQ rfl rfl
theorem c_R_opensL {L : Nat} {xs : Nat → Int32} {d : Nat} {Q : Option Value → xF → Prop} {F : xF} {B : xF} {o : Nat} {s : PS} (hR : MR B o s F) (ho : o < 5) (hQ : ∀ G : xF, MR B (o + 1) s.go G → Q (some (.int 1)) G) : V2 L xs d m_R_opens 0 (xEntry [.ref 65] 1) [] F Q := by
  have h5 : ¬ F 65 7 = 5 := by
    rw [hR.2.2.2.1]
    intro h8
    have q1 := nI_toInt (n := o) (by omega)
    rw [h8] at q1
    have q5 : (5 : Int32).toInt = 5 := by decide
    omega
  refine V2.to (l' := [some (.ref 65)]) ?_ rfl rfl rfl rfl
  refine V2_aload_n (i := 0) d_R_opens_0 rfl rfl ?_
  refine V2_get (v := F 65 7) d_R_opens_1 fl_R_94 (by decide) rfl (by decide) rfl rfl ?_
  refine V2_topi (fun v1 ev1 => ?_)
  refine V2_iconst (v := 5) d_R_opens_4 rfl ?_
  refine V2_icmp_ne (tgt := 10) d_R_opens_5 rfl (fun c2 => ?_) (fun c2 => (by first | exact absurd (show ¬ v1 = 5 from by (try clear hQ); subst ev1; exact h5) c2 | exact absurd c2 (show ¬ v1 = 5 from by (try clear hQ); subst ev1; exact h5)))
  refine V2_aload_n (i := 0) d_R_opens_10 rfl rfl ?_
  refine V2_dup d_R_opens_11 rfl ?_
  refine V2_get (v := F 65 7) d_R_opens_12 fl_R_94 (by decide) rfl (by decide) rfl rfl ?_
  refine V2_topi (fun v3 ev3 => ?_)
  refine V2_iconst (v := 1) d_R_opens_15 rfl ?_
  refine V2_iadd d_R_opens_16 ?_
  refine V2_topi (fun v4 ev4 => ?_)
  refine V2_put d_R_opens_17 fl_R_94 (by decide) rfl (by decide) rfl ?_
  refine V2_aload_n (i := 0) d_R_opens_20 rfl rfl ?_
  refine V2_dup d_R_opens_21 rfl ?_
  refine V2_get (v := F 65 6) d_R_opens_22 fl_R_61 (by decide) rfl (by decide) rfl rfl ?_
  refine V2_topi (fun v5 ev5 => ?_)
  refine V2_iconst (v := 1) d_R_opens_25 rfl ?_
  refine V2_iadd d_R_opens_26 ?_
  refine V2_topi (fun v6 ev6 => ?_)
  refine V2_put d_R_opens_27 fl_R_61 (by decide) rfl (by decide) rfl ?_
  refine V2_iconst (v := 1) d_R_opens_30 rfl ?_
  refine V2_zreturn d_R_opens_31 rfl (by decide) ?_
  have g1 := mr_go (mr_7 (m := o + 1) hR (x := F 65 7 + 1) (by rw [hR.2.2.2.1, nI_1]))
  exact hQ _ (by subst ev6 ev5 ev4 ev3 ev1; exact g1)
theorem c_R_whole_loop {L : Nat} {xs : Nat → Int32} {d : Nat} {Q : Option Value → xF → Prop} {B : xF} {T : Nat → Int32} {N use o : Nat} {p : PS → Bool × PS} (hB : TPm B T N use) (hg : goodT N use p) (hp : CKm L xs B N use o p d m_R_both 1) : ∀ (n : Nat) (f : Nat) (s : PS) (G : xF), MR B o s G → okR use s → s.at_ ≤ N → s.n ≤ s.at_ → 1 ≤ s.dep → N ≤ s.at_ + f → (∀ r F1, RESm B o (lpT T N p 0 f s) r F1 → Q (some (.int r)) F1) → f < n → V2 L xs (d + 1) m_R_whole 9 [some (.ref 65)] [] G Q := by
  intro n
  induction n with
  | zero => exact fun f s G g1 g2 g3 g4 g5 g6 hQ h2 => absurd h2 (by omega)
  | succ n ih =>
    intro f s G g1 g2 g3 g4 g5 g6 hQ h2
    have hN := hB.2.1
    refine V2_aload_n (i := 0) d_R_whole_9 rfl rfl ?_
    refine V2_callV [] d_R_whole_10 rfl rfl lk_R_74 mo_R_look (by decide) rfl rfl rfl (Nat.le_of_ble_eq_true rfl) (Nat.le_of_ble_eq_true rfl) ?_
    refine c_R_look (T := T) (N := N) (a := s.at_) ((congrFun (g1.1 66 (by decide) (by decide)) 9).trans hB.1) hB.2.1 (fun i hi => (congrFun (g1.1 66 (by decide) (by decide)) (274 + i)).trans (hB.2.2.1 i hi)) g1.2.2.1 (by omega) ?_
    refine V2_topi (fun v1 ev1 => ?_)
    refine V2_bipush (v := 124) d_R_whole_13 rfl ?_
    refine V2_icmp_ne (tgt := 47) d_R_whole_15 rfl (fun c2 => ?_) (fun c2 => ?_)
    · refine V2_iconst (v := 1) d_R_whole_47 rfl ?_
      refine V2_zreturn d_R_whole_48 rfl (by decide) ?_
      have h8 : ¬ (sgT T N s.at_ = 124) := by
        clear hQ
        subst ev1
        intro h7
        exact c2 h7
      have hlv : ¬ lvT (sgT T N s.at_) = 0 := fun hh => h8 (lvT_is.1.mp hh)
      have hf9 : lpT T N p 0 f s = (true, s) := by
        cases f with
        | zero => rfl
        | succ f => exact if_neg hlv
      rw [hf9] at hQ
      exact xQi (hQ 1 G (Or.inl ⟨rfl, rfl, g1⟩)) rfl rfl
    · have h8 : sgT T N s.at_ = 124 := by
        clear hQ
        subst ev1
        exact c2
      have hlv : lvT (sgT T N s.at_) = 0 := lvT_is.1.mpr h8
      have hlt := lvT_lt hlv (by decide)
      obtain ⟨f, rfl⟩ : ∃ f1, f = f1 + 1 := ⟨f - 1, by omega⟩
      have hf9 : lpT T N p 0 (f + 1) s = andT (p s.go) (fun s1 => lpT T N p 0 f (s1.add 3 (sgT T N s.at_))) := if_pos hlv
      have gg := hg s.go g2 (show s.at_ + 1 ≤ N from hlt)
      have eg1 : s.go.at_ = s.at_ + 1 := rfl
      have eg2 : s.go.n = s.n := rfl
      refine V2_aload_n (i := 0) d_R_whole_18 rfl rfl ?_
      refine V2_dup d_R_whole_19 rfl ?_
      refine V2_get (v := G 65 6) d_R_whole_20 fl_R_61 (by decide) rfl (by decide) rfl rfl ?_
      refine V2_topi (fun v3 ev3 => ?_)
      refine V2_iconst (v := 1) d_R_whole_23 rfl ?_
      refine V2_iadd d_R_whole_24 ?_
      refine V2_topi (fun v4 ev4 => ?_)
      refine V2_put d_R_whole_25 fl_R_61 (by decide) rfl (by decide) rfl ?_
      refine V2_aload_n (i := 0) d_R_whole_28 rfl rfl ?_
      refine V2_callV [] d_R_whole_29 rfl rfl lk_R_70 mo_R_both (by decide) rfl rfl rfl (Nat.le_of_ble_eq_true rfl) (Nat.le_of_ble_eq_true rfl) ?_
      have cr8 : MR B o s.go (xp G 65 6 v4) := by
        clear hQ
        subst ev4 ev3 ev1
        exact mr_go g1
      refine hp _ _ s.go cr8 g2 (by omega) (by omega) (fun rA GA hA => ?_)
      rcases hA with ⟨rfl, okA, crA⟩ | ⟨rfl, okA, crA⟩
      · obtain ⟨k1, k2, k3, k4⟩ := gg.2.2 okA
        have gA := gg.2.1
        have e5 : ((p s.go).2.add 3 (sgT T N s.at_)).at_ = (p s.go).2.at_ := rfl
        have e6 : ((p s.go).2.add 3 (sgT T N s.at_)).n = (p s.go).2.n + 1 := rfl
        have e7 := dep_add (p s.go).2 3 (sgT T N s.at_)
        rw [if_neg (by decide), if_neg (by decide)] at e7
        have e8 : s.go.dep = s.dep := rfl
        have hsg : isSign (sgT T N s.at_) := lv_sign (by omega)
        rw [hf9, andT_t okA] at hQ
        refine V2_if_ne (tgt := 37) d_R_whole_32 rfl (fun _ => ?_) (fun c => (by first | exact absurd c (by decide) | exact absurd (by decide) c))
        refine V2_aload_n (i := 0) d_R_whole_37 rfl rfl ?_
        refine V2_iconst (v := 3) d_R_whole_38 rfl ?_
        refine V2_bipush (v := 124) d_R_whole_39 rfl ?_
        refine V2_callV [.int (3 : Int32), .int (124 : Int32)] d_R_whole_41 rfl rfl lk_R_78 mo_R_step1 (by decide) rfl rfl rfl (Nat.le_of_ble_eq_true rfl) (Nat.le_of_ble_eq_true rfl) ?_
        rw [show (124 : Int32) = sgT T N s.at_ from h8.symm]
        refine c_R_step1 (n := (p s.go).2.n) crA.2.2.2.2.1 (by omega) ?_
        refine V2_goto (tgt := 9) d_R_whole_44 rfl ?_
        exact V2.to (ih f _ _ (mr_add 3 (sgT T N s.at_) crA) (ok_add k3 (Or.inr (Or.inr (Or.inr ⟨rfl, by omega, hsg⟩)))) (by omega) (by omega) (by omega) (by omega) hQ (by omega)) rfl rfl rfl rfl
      · refine V2_if_ne (tgt := 37) d_R_whole_32 rfl (fun c => (by first | exact absurd c (by decide) | exact absurd (by decide) c)) (fun _ => ?_)
        refine V2_iconst (v := 0) d_R_whole_35 rfl ?_
        refine V2_zreturn d_R_whole_36 rfl (by decide) ?_
        exact xQi (hQ _ _ (Or.inr ⟨rfl, by rw [hf9, andT_f okA]; exact okA, by rw [hf9, andT_f okA]; exact crA⟩)) rfl rfl
theorem c_R_whole {L : Nat} {xs : Nat → Int32} {d : Nat} {Q : Option Value → xF → Prop} {F : xF} {B : xF} {T : Nat → Int32} {N use o : Nat} {s : PS} {p : PS → Bool × PS} (hB : TPm B T N use) (hg : goodT N use p) (hp : CKm L xs B N use o p d m_R_both 1) (hR : MR B o s F) (hK : okR use s) (ha : s.at_ ≤ N) (ho : s.n ≤ s.at_) (hQ : ∀ r F1, RESm B o (lvS T N 0 60 p s) r F1 → Q (some (.int r)) F1) : V2 L xs (d + 1) m_R_whole 0 (xEntry [.ref 65] 1) [] F Q := by
  refine V2.to (l' := [some (.ref 65)]) ?_ rfl rfl rfl rfl
  refine V2_aload_n (i := 0) d_R_whole_0 rfl rfl ?_
  refine V2_callV [] d_R_whole_1 rfl rfl lk_R_70 mo_R_both (by decide) rfl rfl rfl (Nat.le_of_ble_eq_true rfl) (Nat.le_of_ble_eq_true rfl) ?_
  have gg := hg s hK ha
  have hl9 : lvS T N 0 60 p s = andT (p s) (lpT T N p 0 60) := rfl
  refine hp _ _ s hR hK ha ho (fun rA GA hA => ?_)
  rcases hA with ⟨rfl, okA, crA⟩ | ⟨rfl, okA, crA⟩
  · refine V2_if_ne (tgt := 9) d_R_whole_4 rfl (fun _ => ?_) (fun c => (by first | exact absurd c (by decide) | exact absurd (by decide) c))
    obtain ⟨k1, k2, k3, k4⟩ := gg.2.2 okA
    have gA := gg.2.1
    rw [hl9, andT_t okA] at hQ
    exact V2.to (c_R_whole_loop hB hg hp 61 60 (p s).2 _ crA k3 gg.2.1 (by omega) (by omega) (by have := hB.2.1; omega) hQ (by omega)) rfl rfl rfl rfl
  · refine V2_if_ne (tgt := 9) d_R_whole_4 rfl (fun c => (by first | exact absurd c (by decide) | exact absurd (by decide) c)) (fun _ => ?_)
    refine V2_iconst (v := 0) d_R_whole_7 rfl ?_
    refine V2_zreturn d_R_whole_8 rfl (by decide) ?_
    exact xQi (hQ _ _ (Or.inr ⟨rfl, by rw [hl9, andT_f okA]; exact okA, by rw [hl9, andT_f okA]; exact crA⟩)) rfl rfl
theorem c_R_both_loop {L : Nat} {xs : Nat → Int32} {d : Nat} {Q : Option Value → xF → Prop} {B : xF} {T : Nat → Int32} {N use o : Nat} {p : PS → Bool × PS} (hB : TPm B T N use) (hg : goodT N use p) (hp : CKm L xs B N use o p d m_R_compared 2) : ∀ (n : Nat) (f : Nat) (s : PS) (G : xF), MR B o s G → okR use s → s.at_ ≤ N → s.n ≤ s.at_ → 1 ≤ s.dep → N ≤ s.at_ + f → (∀ r F1, RESm B o (lpT T N p 1 f s) r F1 → Q (some (.int r)) F1) → f < n → V2 L xs (d + 1) m_R_both 9 [some (.ref 65)] [] G Q := by
  intro n
  induction n with
  | zero => exact fun f s G g1 g2 g3 g4 g5 g6 hQ h2 => absurd h2 (by omega)
  | succ n ih =>
    intro f s G g1 g2 g3 g4 g5 g6 hQ h2
    have hN := hB.2.1
    refine V2_aload_n (i := 0) d_R_both_9 rfl rfl ?_
    refine V2_callV [] d_R_both_10 rfl rfl lk_R_74 mo_R_look (by decide) rfl rfl rfl (Nat.le_of_ble_eq_true rfl) (Nat.le_of_ble_eq_true rfl) ?_
    refine c_R_look (T := T) (N := N) (a := s.at_) ((congrFun (g1.1 66 (by decide) (by decide)) 9).trans hB.1) hB.2.1 (fun i hi => (congrFun (g1.1 66 (by decide) (by decide)) (274 + i)).trans (hB.2.2.1 i hi)) g1.2.2.1 (by omega) ?_
    refine V2_topi (fun v1 ev1 => ?_)
    refine V2_bipush (v := 38) d_R_both_13 rfl ?_
    refine V2_icmp_ne (tgt := 47) d_R_both_15 rfl (fun c2 => ?_) (fun c2 => ?_)
    · refine V2_iconst (v := 1) d_R_both_47 rfl ?_
      refine V2_zreturn d_R_both_48 rfl (by decide) ?_
      have h8 : ¬ (sgT T N s.at_ = 38) := by
        clear hQ
        subst ev1
        intro h7
        exact c2 h7
      have hlv : ¬ lvT (sgT T N s.at_) = 1 := fun hh => h8 (lvT_is.2.1.mp hh)
      have hf9 : lpT T N p 1 f s = (true, s) := by
        cases f with
        | zero => rfl
        | succ f => exact if_neg hlv
      rw [hf9] at hQ
      exact xQi (hQ 1 G (Or.inl ⟨rfl, rfl, g1⟩)) rfl rfl
    · have h8 : sgT T N s.at_ = 38 := by
        clear hQ
        subst ev1
        exact c2
      have hlv : lvT (sgT T N s.at_) = 1 := lvT_is.2.1.mpr h8
      have hlt := lvT_lt hlv (by decide)
      obtain ⟨f, rfl⟩ : ∃ f1, f = f1 + 1 := ⟨f - 1, by omega⟩
      have hf9 : lpT T N p 1 (f + 1) s = andT (p s.go) (fun s1 => lpT T N p 1 f (s1.add 3 (sgT T N s.at_))) := if_pos hlv
      have gg := hg s.go g2 (show s.at_ + 1 ≤ N from hlt)
      have eg1 : s.go.at_ = s.at_ + 1 := rfl
      have eg2 : s.go.n = s.n := rfl
      refine V2_aload_n (i := 0) d_R_both_18 rfl rfl ?_
      refine V2_dup d_R_both_19 rfl ?_
      refine V2_get (v := G 65 6) d_R_both_20 fl_R_61 (by decide) rfl (by decide) rfl rfl ?_
      refine V2_topi (fun v3 ev3 => ?_)
      refine V2_iconst (v := 1) d_R_both_23 rfl ?_
      refine V2_iadd d_R_both_24 ?_
      refine V2_topi (fun v4 ev4 => ?_)
      refine V2_put d_R_both_25 fl_R_61 (by decide) rfl (by decide) rfl ?_
      refine V2_aload_n (i := 0) d_R_both_28 rfl rfl ?_
      refine V2_callV [] d_R_both_29 rfl rfl lk_R_82 mo_R_compared (by decide) rfl rfl rfl (Nat.le_of_ble_eq_true rfl) (Nat.le_of_ble_eq_true rfl) ?_
      have cr8 : MR B o s.go (xp G 65 6 v4) := by
        clear hQ
        subst ev4 ev3 ev1
        exact mr_go g1
      refine hp _ _ s.go cr8 g2 (by omega) (by omega) (fun rA GA hA => ?_)
      rcases hA with ⟨rfl, okA, crA⟩ | ⟨rfl, okA, crA⟩
      · obtain ⟨k1, k2, k3, k4⟩ := gg.2.2 okA
        have gA := gg.2.1
        have e5 : ((p s.go).2.add 3 (sgT T N s.at_)).at_ = (p s.go).2.at_ := rfl
        have e6 : ((p s.go).2.add 3 (sgT T N s.at_)).n = (p s.go).2.n + 1 := rfl
        have e7 := dep_add (p s.go).2 3 (sgT T N s.at_)
        rw [if_neg (by decide), if_neg (by decide)] at e7
        have e8 : s.go.dep = s.dep := rfl
        have hsg : isSign (sgT T N s.at_) := lv_sign (by omega)
        rw [hf9, andT_t okA] at hQ
        refine V2_if_ne (tgt := 37) d_R_both_32 rfl (fun _ => ?_) (fun c => (by first | exact absurd c (by decide) | exact absurd (by decide) c))
        refine V2_aload_n (i := 0) d_R_both_37 rfl rfl ?_
        refine V2_iconst (v := 3) d_R_both_38 rfl ?_
        refine V2_bipush (v := 38) d_R_both_39 rfl ?_
        refine V2_callV [.int (3 : Int32), .int (38 : Int32)] d_R_both_41 rfl rfl lk_R_78 mo_R_step1 (by decide) rfl rfl rfl (Nat.le_of_ble_eq_true rfl) (Nat.le_of_ble_eq_true rfl) ?_
        rw [show (38 : Int32) = sgT T N s.at_ from h8.symm]
        refine c_R_step1 (n := (p s.go).2.n) crA.2.2.2.2.1 (by omega) ?_
        refine V2_goto (tgt := 9) d_R_both_44 rfl ?_
        exact V2.to (ih f _ _ (mr_add 3 (sgT T N s.at_) crA) (ok_add k3 (Or.inr (Or.inr (Or.inr ⟨rfl, by omega, hsg⟩)))) (by omega) (by omega) (by omega) (by omega) hQ (by omega)) rfl rfl rfl rfl
      · refine V2_if_ne (tgt := 37) d_R_both_32 rfl (fun c => (by first | exact absurd c (by decide) | exact absurd (by decide) c)) (fun _ => ?_)
        refine V2_iconst (v := 0) d_R_both_35 rfl ?_
        refine V2_zreturn d_R_both_36 rfl (by decide) ?_
        exact xQi (hQ _ _ (Or.inr ⟨rfl, by rw [hf9, andT_f okA]; exact okA, by rw [hf9, andT_f okA]; exact crA⟩)) rfl rfl
theorem c_R_both {L : Nat} {xs : Nat → Int32} {d : Nat} {Q : Option Value → xF → Prop} {F : xF} {B : xF} {T : Nat → Int32} {N use o : Nat} {s : PS} {p : PS → Bool × PS} (hB : TPm B T N use) (hg : goodT N use p) (hp : CKm L xs B N use o p d m_R_compared 2) (hR : MR B o s F) (hK : okR use s) (ha : s.at_ ≤ N) (ho : s.n ≤ s.at_) (hQ : ∀ r F1, RESm B o (lvS T N 1 60 p s) r F1 → Q (some (.int r)) F1) : V2 L xs (d + 1) m_R_both 0 (xEntry [.ref 65] 1) [] F Q := by
  refine V2.to (l' := [some (.ref 65)]) ?_ rfl rfl rfl rfl
  refine V2_aload_n (i := 0) d_R_both_0 rfl rfl ?_
  refine V2_callV [] d_R_both_1 rfl rfl lk_R_82 mo_R_compared (by decide) rfl rfl rfl (Nat.le_of_ble_eq_true rfl) (Nat.le_of_ble_eq_true rfl) ?_
  have gg := hg s hK ha
  have hl9 : lvS T N 1 60 p s = andT (p s) (lpT T N p 1 60) := rfl
  refine hp _ _ s hR hK ha ho (fun rA GA hA => ?_)
  rcases hA with ⟨rfl, okA, crA⟩ | ⟨rfl, okA, crA⟩
  · refine V2_if_ne (tgt := 9) d_R_both_4 rfl (fun _ => ?_) (fun c => (by first | exact absurd c (by decide) | exact absurd (by decide) c))
    obtain ⟨k1, k2, k3, k4⟩ := gg.2.2 okA
    have gA := gg.2.1
    rw [hl9, andT_t okA] at hQ
    exact V2.to (c_R_both_loop hB hg hp 61 60 (p s).2 _ crA k3 gg.2.1 (by omega) (by omega) (by have := hB.2.1; omega) hQ (by omega)) rfl rfl rfl rfl
  · refine V2_if_ne (tgt := 9) d_R_both_4 rfl (fun c => (by first | exact absurd c (by decide) | exact absurd (by decide) c)) (fun _ => ?_)
    refine V2_iconst (v := 0) d_R_both_7 rfl ?_
    refine V2_zreturn d_R_both_8 rfl (by decide) ?_
    exact xQi (hQ _ _ (Or.inr ⟨rfl, by rw [hl9, andT_f okA]; exact okA, by rw [hl9, andT_f okA]; exact crA⟩)) rfl rfl
theorem c_R_sum_loop {L : Nat} {xs : Nat → Int32} {d : Nat} {Q : Option Value → xF → Prop} {B : xF} {T : Nat → Int32} {N use o : Nat} {p : PS → Bool × PS} (hB : TPm B T N use) (hg : goodT N use p) (hp : CKm L xs B N use o p d m_R_product 2) : ∀ (n : Nat) (f : Nat) (s : PS) (G : xF), MR B o s G → okR use s → s.at_ ≤ N → s.n ≤ s.at_ → 1 ≤ s.dep → N ≤ s.at_ + f → (∀ r F1, RESm B o (lpT T N p 3 f s) r F1 → Q (some (.int r)) F1) → f < n → V2 L xs (d + 1) m_R_sum 9 [some (.ref 65), none] [] G Q := by
  intro n
  induction n with
  | zero => exact fun f s G g1 g2 g3 g4 g5 g6 hQ h2 => absurd h2 (by omega)
  | succ n ih =>
    intro f s G g1 g2 g3 g4 g5 g6 hQ h2
    have hN := hB.2.1
    refine V2_aload_n (i := 0) d_R_sum_9 rfl rfl ?_
    refine V2_callV [] d_R_sum_10 rfl rfl lk_R_74 mo_R_look (by decide) rfl rfl rfl (Nat.le_of_ble_eq_true rfl) (Nat.le_of_ble_eq_true rfl) ?_
    refine c_R_look (T := T) (N := N) (a := s.at_) ((congrFun (g1.1 66 (by decide) (by decide)) 9).trans hB.1) hB.2.1 (fun i hi => (congrFun (g1.1 66 (by decide) (by decide)) (274 + i)).trans (hB.2.2.1 i hi)) g1.2.2.1 (by omega) ?_
    refine V2_topi (fun v1 ev1 => ?_)
    refine V2_bipush (v := 43) d_R_sum_13 rfl ?_
    refine V2_icmp_eq (tgt := 27) d_R_sum_15 rfl (fun c2 => ?_) (fun c2 => ?_)
    · have h8 : sgT T N s.at_ = 43 ∨ sgT T N s.at_ = 45 := by
        clear hQ
        subst ev1
        exact Or.inl c2
      have hlv : lvT (sgT T N s.at_) = 3 := lvT_is.2.2.2.1.mpr h8
      have hlt := lvT_lt hlv (by decide)
      obtain ⟨f, rfl⟩ : ∃ f1, f = f1 + 1 := ⟨f - 1, by omega⟩
      have hf9 : lpT T N p 3 (f + 1) s = andT (p s.go) (fun s1 => lpT T N p 3 f (s1.add 3 (sgT T N s.at_))) := if_pos hlv
      have gg := hg s.go g2 (show s.at_ + 1 ≤ N from hlt)
      have eg1 : s.go.at_ = s.at_ + 1 := rfl
      have eg2 : s.go.n = s.n := rfl
      refine V2_aload_n (i := 0) d_R_sum_27 rfl rfl ?_
      refine V2_callV [] d_R_sum_28 rfl rfl lk_R_74 mo_R_look (by decide) rfl rfl rfl (Nat.le_of_ble_eq_true rfl) (Nat.le_of_ble_eq_true rfl) ?_
      refine c_R_look (T := T) (N := N) (a := s.at_) ((congrFun (g1.1 66 (by decide) (by decide)) 9).trans hB.1) hB.2.1 (fun i hi => (congrFun (g1.1 66 (by decide) (by decide)) (274 + i)).trans (hB.2.2.1 i hi)) g1.2.2.1 (by omega) ?_
      refine V2_topi (fun v3 ev3 => ?_)
      refine V2_istore_n (i := 1) (l' := [some (.ref 65), some (.int v3)]) d_R_sum_31 rfl (xst_r (Nat.le_of_ble_eq_true rfl) rfl rfl) ?_
      refine V2_aload_n (i := 0) d_R_sum_32 rfl rfl ?_
      refine V2_dup d_R_sum_33 rfl ?_
      refine V2_get (v := G 65 6) d_R_sum_34 fl_R_61 (by decide) rfl (by decide) rfl rfl ?_
      refine V2_topi (fun v4 ev4 => ?_)
      refine V2_iconst (v := 1) d_R_sum_37 rfl ?_
      refine V2_iadd d_R_sum_38 ?_
      refine V2_topi (fun v5 ev5 => ?_)
      refine V2_put d_R_sum_39 fl_R_61 (by decide) rfl (by decide) rfl ?_
      refine V2_aload_n (i := 0) d_R_sum_42 rfl rfl ?_
      refine V2_callV [] d_R_sum_43 rfl rfl lk_R_88 mo_R_product (by decide) rfl rfl rfl (Nat.le_of_ble_eq_true rfl) (Nat.le_of_ble_eq_true rfl) ?_
      have cr8 : MR B o s.go (xp G 65 6 v5) := by
        clear hQ
        subst ev5 ev4 ev3 ev1
        exact mr_go g1
      refine hp _ _ s.go cr8 g2 (by omega) (by omega) (fun rA GA hA => ?_)
      rcases hA with ⟨rfl, okA, crA⟩ | ⟨rfl, okA, crA⟩
      · obtain ⟨k1, k2, k3, k4⟩ := gg.2.2 okA
        have gA := gg.2.1
        have e5 : ((p s.go).2.add 3 (sgT T N s.at_)).at_ = (p s.go).2.at_ := rfl
        have e6 : ((p s.go).2.add 3 (sgT T N s.at_)).n = (p s.go).2.n + 1 := rfl
        have e7 := dep_add (p s.go).2 3 (sgT T N s.at_)
        rw [if_neg (by decide), if_neg (by decide)] at e7
        have e8 : s.go.dep = s.dep := rfl
        have hsg : isSign (sgT T N s.at_) := lv_sign (by omega)
        rw [hf9, andT_t okA] at hQ
        refine V2_if_ne (tgt := 51) d_R_sum_46 rfl (fun _ => ?_) (fun c => (by first | exact absurd c (by decide) | exact absurd (by decide) c))
        refine V2_aload_n (i := 0) d_R_sum_51 rfl rfl ?_
        refine V2_iconst (v := 3) d_R_sum_52 rfl ?_
        refine V2_iload_n (i := 1) d_R_sum_53 rfl rfl ?_
        refine V2_callV [.int (3 : Int32), .int v3] d_R_sum_54 rfl rfl lk_R_78 mo_R_step1 (by decide) rfl rfl rfl (Nat.le_of_ble_eq_true rfl) (Nat.le_of_ble_eq_true rfl) ?_
        have esg : v3 = sgT T N s.at_ := by
          clear hQ
          subst ev5 ev4 ev3 ev1
          rfl
        rw [esg]
        refine c_R_step1 (n := (p s.go).2.n) crA.2.2.2.2.1 (by omega) ?_
        refine V2_goto (tgt := 9) d_R_sum_57 rfl ?_
        exact V2.weak (V2.to (l' := [some (.ref 65), none]) (ih f _ _ (mr_add 3 (sgT T N s.at_) crA) (ok_add k3 (Or.inr (Or.inr (Or.inr ⟨rfl, by omega, hsg⟩)))) (by omega) (by omega) (by omega) (by omega) hQ (by omega)) rfl rfl rfl rfl) ⟨rfl, trivial⟩
      · refine V2_if_ne (tgt := 51) d_R_sum_46 rfl (fun c => (by first | exact absurd c (by decide) | exact absurd (by decide) c)) (fun _ => ?_)
        refine V2_iconst (v := 0) d_R_sum_49 rfl ?_
        refine V2_zreturn d_R_sum_50 rfl (by decide) ?_
        exact xQi (hQ _ _ (Or.inr ⟨rfl, by rw [hf9, andT_f okA]; exact okA, by rw [hf9, andT_f okA]; exact crA⟩)) rfl rfl
    · refine V2_aload_n (i := 0) d_R_sum_18 rfl rfl ?_
      refine V2_callV [] d_R_sum_19 rfl rfl lk_R_74 mo_R_look (by decide) rfl rfl rfl (Nat.le_of_ble_eq_true rfl) (Nat.le_of_ble_eq_true rfl) ?_
      refine c_R_look (T := T) (N := N) (a := s.at_) ((congrFun (g1.1 66 (by decide) (by decide)) 9).trans hB.1) hB.2.1 (fun i hi => (congrFun (g1.1 66 (by decide) (by decide)) (274 + i)).trans (hB.2.2.1 i hi)) g1.2.2.1 (by omega) ?_
      refine V2_topi (fun v6 ev6 => ?_)
      refine V2_bipush (v := 45) d_R_sum_22 rfl ?_
      refine V2_icmp_ne (tgt := 60) d_R_sum_24 rfl (fun c7 => ?_) (fun c7 => ?_)
      · refine V2_iconst (v := 1) d_R_sum_60 rfl ?_
        refine V2_zreturn d_R_sum_61 rfl (by decide) ?_
        have h8 : ¬ (sgT T N s.at_ = 43 ∨ sgT T N s.at_ = 45) := by
          clear hQ
          subst ev6 ev1
          intro h7
          rcases h7 with h7 | h7
          · exact c2 h7
          · exact c7 h7
        have hlv : ¬ lvT (sgT T N s.at_) = 3 := fun hh => h8 (lvT_is.2.2.2.1.mp hh)
        have hf9 : lpT T N p 3 f s = (true, s) := by
          cases f with
          | zero => rfl
          | succ f => exact if_neg hlv
        rw [hf9] at hQ
        exact xQi (hQ 1 G (Or.inl ⟨rfl, rfl, g1⟩)) rfl rfl
      · have h8 : sgT T N s.at_ = 43 ∨ sgT T N s.at_ = 45 := by
          clear hQ
          subst ev6 ev1
          exact Or.inr c7
        have hlv : lvT (sgT T N s.at_) = 3 := lvT_is.2.2.2.1.mpr h8
        have hlt := lvT_lt hlv (by decide)
        obtain ⟨f, rfl⟩ : ∃ f1, f = f1 + 1 := ⟨f - 1, by omega⟩
        have hf9 : lpT T N p 3 (f + 1) s = andT (p s.go) (fun s1 => lpT T N p 3 f (s1.add 3 (sgT T N s.at_))) := if_pos hlv
        have gg := hg s.go g2 (show s.at_ + 1 ≤ N from hlt)
        have eg1 : s.go.at_ = s.at_ + 1 := rfl
        have eg2 : s.go.n = s.n := rfl
        refine V2_aload_n (i := 0) d_R_sum_27 rfl rfl ?_
        refine V2_callV [] d_R_sum_28 rfl rfl lk_R_74 mo_R_look (by decide) rfl rfl rfl (Nat.le_of_ble_eq_true rfl) (Nat.le_of_ble_eq_true rfl) ?_
        refine c_R_look (T := T) (N := N) (a := s.at_) ((congrFun (g1.1 66 (by decide) (by decide)) 9).trans hB.1) hB.2.1 (fun i hi => (congrFun (g1.1 66 (by decide) (by decide)) (274 + i)).trans (hB.2.2.1 i hi)) g1.2.2.1 (by omega) ?_
        refine V2_topi (fun v8 ev8 => ?_)
        refine V2_istore_n (i := 1) (l' := [some (.ref 65), some (.int v8)]) d_R_sum_31 rfl (xst_r (Nat.le_of_ble_eq_true rfl) rfl rfl) ?_
        refine V2_aload_n (i := 0) d_R_sum_32 rfl rfl ?_
        refine V2_dup d_R_sum_33 rfl ?_
        refine V2_get (v := G 65 6) d_R_sum_34 fl_R_61 (by decide) rfl (by decide) rfl rfl ?_
        refine V2_topi (fun v9 ev9 => ?_)
        refine V2_iconst (v := 1) d_R_sum_37 rfl ?_
        refine V2_iadd d_R_sum_38 ?_
        refine V2_topi (fun v10 ev10 => ?_)
        refine V2_put d_R_sum_39 fl_R_61 (by decide) rfl (by decide) rfl ?_
        refine V2_aload_n (i := 0) d_R_sum_42 rfl rfl ?_
        refine V2_callV [] d_R_sum_43 rfl rfl lk_R_88 mo_R_product (by decide) rfl rfl rfl (Nat.le_of_ble_eq_true rfl) (Nat.le_of_ble_eq_true rfl) ?_
        have cr8 : MR B o s.go (xp G 65 6 v10) := by
          clear hQ
          subst ev10 ev9 ev8 ev6 ev1
          exact mr_go g1
        refine hp _ _ s.go cr8 g2 (by omega) (by omega) (fun rA GA hA => ?_)
        rcases hA with ⟨rfl, okA, crA⟩ | ⟨rfl, okA, crA⟩
        · obtain ⟨k1, k2, k3, k4⟩ := gg.2.2 okA
          have gA := gg.2.1
          have e5 : ((p s.go).2.add 3 (sgT T N s.at_)).at_ = (p s.go).2.at_ := rfl
          have e6 : ((p s.go).2.add 3 (sgT T N s.at_)).n = (p s.go).2.n + 1 := rfl
          have e7 := dep_add (p s.go).2 3 (sgT T N s.at_)
          rw [if_neg (by decide), if_neg (by decide)] at e7
          have e8 : s.go.dep = s.dep := rfl
          have hsg : isSign (sgT T N s.at_) := lv_sign (by omega)
          rw [hf9, andT_t okA] at hQ
          refine V2_if_ne (tgt := 51) d_R_sum_46 rfl (fun _ => ?_) (fun c => (by first | exact absurd c (by decide) | exact absurd (by decide) c))
          refine V2_aload_n (i := 0) d_R_sum_51 rfl rfl ?_
          refine V2_iconst (v := 3) d_R_sum_52 rfl ?_
          refine V2_iload_n (i := 1) d_R_sum_53 rfl rfl ?_
          refine V2_callV [.int (3 : Int32), .int v8] d_R_sum_54 rfl rfl lk_R_78 mo_R_step1 (by decide) rfl rfl rfl (Nat.le_of_ble_eq_true rfl) (Nat.le_of_ble_eq_true rfl) ?_
          have esg : v8 = sgT T N s.at_ := by
            clear hQ
            subst ev10 ev9 ev8 ev6 ev1
            rfl
          rw [esg]
          refine c_R_step1 (n := (p s.go).2.n) crA.2.2.2.2.1 (by omega) ?_
          refine V2_goto (tgt := 9) d_R_sum_57 rfl ?_
          exact V2.weak (V2.to (l' := [some (.ref 65), none]) (ih f _ _ (mr_add 3 (sgT T N s.at_) crA) (ok_add k3 (Or.inr (Or.inr (Or.inr ⟨rfl, by omega, hsg⟩)))) (by omega) (by omega) (by omega) (by omega) hQ (by omega)) rfl rfl rfl rfl) ⟨rfl, trivial⟩
        · refine V2_if_ne (tgt := 51) d_R_sum_46 rfl (fun c => (by first | exact absurd c (by decide) | exact absurd (by decide) c)) (fun _ => ?_)
          refine V2_iconst (v := 0) d_R_sum_49 rfl ?_
          refine V2_zreturn d_R_sum_50 rfl (by decide) ?_
          exact xQi (hQ _ _ (Or.inr ⟨rfl, by rw [hf9, andT_f okA]; exact okA, by rw [hf9, andT_f okA]; exact crA⟩)) rfl rfl
theorem c_R_sum {L : Nat} {xs : Nat → Int32} {d : Nat} {Q : Option Value → xF → Prop} {F : xF} {B : xF} {T : Nat → Int32} {N use o : Nat} {s : PS} {p : PS → Bool × PS} (hB : TPm B T N use) (hg : goodT N use p) (hp : CKm L xs B N use o p d m_R_product 2) (hR : MR B o s F) (hK : okR use s) (ha : s.at_ ≤ N) (ho : s.n ≤ s.at_) (hQ : ∀ r F1, RESm B o (lvS T N 3 60 p s) r F1 → Q (some (.int r)) F1) : V2 L xs (d + 1) m_R_sum 0 (xEntry [.ref 65] 2) [] F Q := by
  refine V2.to (l' := [some (.ref 65), none]) ?_ rfl rfl rfl rfl
  refine V2_aload_n (i := 0) d_R_sum_0 rfl rfl ?_
  refine V2_callV [] d_R_sum_1 rfl rfl lk_R_88 mo_R_product (by decide) rfl rfl rfl (Nat.le_of_ble_eq_true rfl) (Nat.le_of_ble_eq_true rfl) ?_
  have gg := hg s hK ha
  have hl9 : lvS T N 3 60 p s = andT (p s) (lpT T N p 3 60) := rfl
  refine hp _ _ s hR hK ha ho (fun rA GA hA => ?_)
  rcases hA with ⟨rfl, okA, crA⟩ | ⟨rfl, okA, crA⟩
  · refine V2_if_ne (tgt := 9) d_R_sum_4 rfl (fun _ => ?_) (fun c => (by first | exact absurd c (by decide) | exact absurd (by decide) c))
    obtain ⟨k1, k2, k3, k4⟩ := gg.2.2 okA
    have gA := gg.2.1
    rw [hl9, andT_t okA] at hQ
    exact V2.to (c_R_sum_loop hB hg hp 61 60 (p s).2 _ crA k3 gg.2.1 (by omega) (by omega) (by have := hB.2.1; omega) hQ (by omega)) rfl rfl rfl rfl
  · refine V2_if_ne (tgt := 9) d_R_sum_4 rfl (fun c => (by first | exact absurd c (by decide) | exact absurd (by decide) c)) (fun _ => ?_)
    refine V2_iconst (v := 0) d_R_sum_7 rfl ?_
    refine V2_zreturn d_R_sum_8 rfl (by decide) ?_
    exact xQi (hQ _ _ (Or.inr ⟨rfl, by rw [hl9, andT_f okA]; exact okA, by rw [hl9, andT_f okA]; exact crA⟩)) rfl rfl
theorem c_R_product_loop {L : Nat} {xs : Nat → Int32} {d : Nat} {Q : Option Value → xF → Prop} {B : xF} {T : Nat → Int32} {N use o : Nat} {p : PS → Bool × PS} (hB : TPm B T N use) (hg : goodT N use p) (hp : CKm L xs B N use o p d m_R_one 4) : ∀ (n : Nat) (f : Nat) (s : PS) (G : xF), MR B o s G → okR use s → s.at_ ≤ N → s.n ≤ s.at_ → 1 ≤ s.dep → N ≤ s.at_ + f → (∀ r F1, RESm B o (lpT T N p 4 f s) r F1 → Q (some (.int r)) F1) → f < n → V2 L xs (d + 1) m_R_product 9 [some (.ref 65), none] [] G Q := by
  intro n
  induction n with
  | zero => exact fun f s G g1 g2 g3 g4 g5 g6 hQ h2 => absurd h2 (by omega)
  | succ n ih =>
    intro f s G g1 g2 g3 g4 g5 g6 hQ h2
    have hN := hB.2.1
    refine V2_aload_n (i := 0) d_R_product_9 rfl rfl ?_
    refine V2_callV [] d_R_product_10 rfl rfl lk_R_74 mo_R_look (by decide) rfl rfl rfl (Nat.le_of_ble_eq_true rfl) (Nat.le_of_ble_eq_true rfl) ?_
    refine c_R_look (T := T) (N := N) (a := s.at_) ((congrFun (g1.1 66 (by decide) (by decide)) 9).trans hB.1) hB.2.1 (fun i hi => (congrFun (g1.1 66 (by decide) (by decide)) (274 + i)).trans (hB.2.2.1 i hi)) g1.2.2.1 (by omega) ?_
    refine V2_topi (fun v1 ev1 => ?_)
    refine V2_bipush (v := 42) d_R_product_13 rfl ?_
    refine V2_icmp_eq (tgt := 36) d_R_product_15 rfl (fun c2 => ?_) (fun c2 => ?_)
    · have h8 : sgT T N s.at_ = 42 ∨ sgT T N s.at_ = 47 ∨ sgT T N s.at_ = 37 := by
        clear hQ
        subst ev1
        exact Or.inl c2
      have hlv : lvT (sgT T N s.at_) = 4 := lvT_is.2.2.2.2.mpr h8
      have hlt := lvT_lt hlv (by decide)
      obtain ⟨f, rfl⟩ : ∃ f1, f = f1 + 1 := ⟨f - 1, by omega⟩
      have hf9 : lpT T N p 4 (f + 1) s = andT (p s.go) (fun s1 => lpT T N p 4 f (s1.add 3 (sgT T N s.at_))) := if_pos hlv
      have gg := hg s.go g2 (show s.at_ + 1 ≤ N from hlt)
      have eg1 : s.go.at_ = s.at_ + 1 := rfl
      have eg2 : s.go.n = s.n := rfl
      refine V2_aload_n (i := 0) d_R_product_36 rfl rfl ?_
      refine V2_callV [] d_R_product_37 rfl rfl lk_R_74 mo_R_look (by decide) rfl rfl rfl (Nat.le_of_ble_eq_true rfl) (Nat.le_of_ble_eq_true rfl) ?_
      refine c_R_look (T := T) (N := N) (a := s.at_) ((congrFun (g1.1 66 (by decide) (by decide)) 9).trans hB.1) hB.2.1 (fun i hi => (congrFun (g1.1 66 (by decide) (by decide)) (274 + i)).trans (hB.2.2.1 i hi)) g1.2.2.1 (by omega) ?_
      refine V2_topi (fun v3 ev3 => ?_)
      refine V2_istore_n (i := 1) (l' := [some (.ref 65), some (.int v3)]) d_R_product_40 rfl (xst_r (Nat.le_of_ble_eq_true rfl) rfl rfl) ?_
      refine V2_aload_n (i := 0) d_R_product_41 rfl rfl ?_
      refine V2_dup d_R_product_42 rfl ?_
      refine V2_get (v := G 65 6) d_R_product_43 fl_R_61 (by decide) rfl (by decide) rfl rfl ?_
      refine V2_topi (fun v4 ev4 => ?_)
      refine V2_iconst (v := 1) d_R_product_46 rfl ?_
      refine V2_iadd d_R_product_47 ?_
      refine V2_topi (fun v5 ev5 => ?_)
      refine V2_put d_R_product_48 fl_R_61 (by decide) rfl (by decide) rfl ?_
      refine V2_aload_n (i := 0) d_R_product_51 rfl rfl ?_
      refine V2_callV [] d_R_product_52 rfl rfl lk_R_91 mo_R_one (by decide) rfl rfl rfl (Nat.le_of_ble_eq_true rfl) (Nat.le_of_ble_eq_true rfl) ?_
      have cr8 : MR B o s.go (xp G 65 6 v5) := by
        clear hQ
        subst ev5 ev4 ev3 ev1
        exact mr_go g1
      refine hp _ _ s.go cr8 g2 (by omega) (by omega) (fun rA GA hA => ?_)
      rcases hA with ⟨rfl, okA, crA⟩ | ⟨rfl, okA, crA⟩
      · obtain ⟨k1, k2, k3, k4⟩ := gg.2.2 okA
        have gA := gg.2.1
        have e5 : ((p s.go).2.add 3 (sgT T N s.at_)).at_ = (p s.go).2.at_ := rfl
        have e6 : ((p s.go).2.add 3 (sgT T N s.at_)).n = (p s.go).2.n + 1 := rfl
        have e7 := dep_add (p s.go).2 3 (sgT T N s.at_)
        rw [if_neg (by decide), if_neg (by decide)] at e7
        have e8 : s.go.dep = s.dep := rfl
        have hsg : isSign (sgT T N s.at_) := lv_sign (by omega)
        rw [hf9, andT_t okA] at hQ
        refine V2_if_ne (tgt := 60) d_R_product_55 rfl (fun _ => ?_) (fun c => (by first | exact absurd c (by decide) | exact absurd (by decide) c))
        refine V2_aload_n (i := 0) d_R_product_60 rfl rfl ?_
        refine V2_iconst (v := 3) d_R_product_61 rfl ?_
        refine V2_iload_n (i := 1) d_R_product_62 rfl rfl ?_
        refine V2_callV [.int (3 : Int32), .int v3] d_R_product_63 rfl rfl lk_R_78 mo_R_step1 (by decide) rfl rfl rfl (Nat.le_of_ble_eq_true rfl) (Nat.le_of_ble_eq_true rfl) ?_
        have esg : v3 = sgT T N s.at_ := by
          clear hQ
          subst ev5 ev4 ev3 ev1
          rfl
        rw [esg]
        refine c_R_step1 (n := (p s.go).2.n) crA.2.2.2.2.1 (by omega) ?_
        refine V2_goto (tgt := 9) d_R_product_66 rfl ?_
        exact V2.weak (V2.to (l' := [some (.ref 65), none]) (ih f _ _ (mr_add 3 (sgT T N s.at_) crA) (ok_add k3 (Or.inr (Or.inr (Or.inr ⟨rfl, by omega, hsg⟩)))) (by omega) (by omega) (by omega) (by omega) hQ (by omega)) rfl rfl rfl rfl) ⟨rfl, trivial⟩
      · refine V2_if_ne (tgt := 60) d_R_product_55 rfl (fun c => (by first | exact absurd c (by decide) | exact absurd (by decide) c)) (fun _ => ?_)
        refine V2_iconst (v := 0) d_R_product_58 rfl ?_
        refine V2_zreturn d_R_product_59 rfl (by decide) ?_
        exact xQi (hQ _ _ (Or.inr ⟨rfl, by rw [hf9, andT_f okA]; exact okA, by rw [hf9, andT_f okA]; exact crA⟩)) rfl rfl
    · refine V2_aload_n (i := 0) d_R_product_18 rfl rfl ?_
      refine V2_callV [] d_R_product_19 rfl rfl lk_R_74 mo_R_look (by decide) rfl rfl rfl (Nat.le_of_ble_eq_true rfl) (Nat.le_of_ble_eq_true rfl) ?_
      refine c_R_look (T := T) (N := N) (a := s.at_) ((congrFun (g1.1 66 (by decide) (by decide)) 9).trans hB.1) hB.2.1 (fun i hi => (congrFun (g1.1 66 (by decide) (by decide)) (274 + i)).trans (hB.2.2.1 i hi)) g1.2.2.1 (by omega) ?_
      refine V2_topi (fun v6 ev6 => ?_)
      refine V2_bipush (v := 47) d_R_product_22 rfl ?_
      refine V2_icmp_eq (tgt := 36) d_R_product_24 rfl (fun c7 => ?_) (fun c7 => ?_)
      · have h8 : sgT T N s.at_ = 42 ∨ sgT T N s.at_ = 47 ∨ sgT T N s.at_ = 37 := by
          clear hQ
          subst ev6 ev1
          exact Or.inr (Or.inl c7)
        have hlv : lvT (sgT T N s.at_) = 4 := lvT_is.2.2.2.2.mpr h8
        have hlt := lvT_lt hlv (by decide)
        obtain ⟨f, rfl⟩ : ∃ f1, f = f1 + 1 := ⟨f - 1, by omega⟩
        have hf9 : lpT T N p 4 (f + 1) s = andT (p s.go) (fun s1 => lpT T N p 4 f (s1.add 3 (sgT T N s.at_))) := if_pos hlv
        have gg := hg s.go g2 (show s.at_ + 1 ≤ N from hlt)
        have eg1 : s.go.at_ = s.at_ + 1 := rfl
        have eg2 : s.go.n = s.n := rfl
        refine V2_aload_n (i := 0) d_R_product_36 rfl rfl ?_
        refine V2_callV [] d_R_product_37 rfl rfl lk_R_74 mo_R_look (by decide) rfl rfl rfl (Nat.le_of_ble_eq_true rfl) (Nat.le_of_ble_eq_true rfl) ?_
        refine c_R_look (T := T) (N := N) (a := s.at_) ((congrFun (g1.1 66 (by decide) (by decide)) 9).trans hB.1) hB.2.1 (fun i hi => (congrFun (g1.1 66 (by decide) (by decide)) (274 + i)).trans (hB.2.2.1 i hi)) g1.2.2.1 (by omega) ?_
        refine V2_topi (fun v8 ev8 => ?_)
        refine V2_istore_n (i := 1) (l' := [some (.ref 65), some (.int v8)]) d_R_product_40 rfl (xst_r (Nat.le_of_ble_eq_true rfl) rfl rfl) ?_
        refine V2_aload_n (i := 0) d_R_product_41 rfl rfl ?_
        refine V2_dup d_R_product_42 rfl ?_
        refine V2_get (v := G 65 6) d_R_product_43 fl_R_61 (by decide) rfl (by decide) rfl rfl ?_
        refine V2_topi (fun v9 ev9 => ?_)
        refine V2_iconst (v := 1) d_R_product_46 rfl ?_
        refine V2_iadd d_R_product_47 ?_
        refine V2_topi (fun v10 ev10 => ?_)
        refine V2_put d_R_product_48 fl_R_61 (by decide) rfl (by decide) rfl ?_
        refine V2_aload_n (i := 0) d_R_product_51 rfl rfl ?_
        refine V2_callV [] d_R_product_52 rfl rfl lk_R_91 mo_R_one (by decide) rfl rfl rfl (Nat.le_of_ble_eq_true rfl) (Nat.le_of_ble_eq_true rfl) ?_
        have cr8 : MR B o s.go (xp G 65 6 v10) := by
          clear hQ
          subst ev10 ev9 ev8 ev6 ev1
          exact mr_go g1
        refine hp _ _ s.go cr8 g2 (by omega) (by omega) (fun rA GA hA => ?_)
        rcases hA with ⟨rfl, okA, crA⟩ | ⟨rfl, okA, crA⟩
        · obtain ⟨k1, k2, k3, k4⟩ := gg.2.2 okA
          have gA := gg.2.1
          have e5 : ((p s.go).2.add 3 (sgT T N s.at_)).at_ = (p s.go).2.at_ := rfl
          have e6 : ((p s.go).2.add 3 (sgT T N s.at_)).n = (p s.go).2.n + 1 := rfl
          have e7 := dep_add (p s.go).2 3 (sgT T N s.at_)
          rw [if_neg (by decide), if_neg (by decide)] at e7
          have e8 : s.go.dep = s.dep := rfl
          have hsg : isSign (sgT T N s.at_) := lv_sign (by omega)
          rw [hf9, andT_t okA] at hQ
          refine V2_if_ne (tgt := 60) d_R_product_55 rfl (fun _ => ?_) (fun c => (by first | exact absurd c (by decide) | exact absurd (by decide) c))
          refine V2_aload_n (i := 0) d_R_product_60 rfl rfl ?_
          refine V2_iconst (v := 3) d_R_product_61 rfl ?_
          refine V2_iload_n (i := 1) d_R_product_62 rfl rfl ?_
          refine V2_callV [.int (3 : Int32), .int v8] d_R_product_63 rfl rfl lk_R_78 mo_R_step1 (by decide) rfl rfl rfl (Nat.le_of_ble_eq_true rfl) (Nat.le_of_ble_eq_true rfl) ?_
          have esg : v8 = sgT T N s.at_ := by
            clear hQ
            subst ev10 ev9 ev8 ev6 ev1
            rfl
          rw [esg]
          refine c_R_step1 (n := (p s.go).2.n) crA.2.2.2.2.1 (by omega) ?_
          refine V2_goto (tgt := 9) d_R_product_66 rfl ?_
          exact V2.weak (V2.to (l' := [some (.ref 65), none]) (ih f _ _ (mr_add 3 (sgT T N s.at_) crA) (ok_add k3 (Or.inr (Or.inr (Or.inr ⟨rfl, by omega, hsg⟩)))) (by omega) (by omega) (by omega) (by omega) hQ (by omega)) rfl rfl rfl rfl) ⟨rfl, trivial⟩
        · refine V2_if_ne (tgt := 60) d_R_product_55 rfl (fun c => (by first | exact absurd c (by decide) | exact absurd (by decide) c)) (fun _ => ?_)
          refine V2_iconst (v := 0) d_R_product_58 rfl ?_
          refine V2_zreturn d_R_product_59 rfl (by decide) ?_
          exact xQi (hQ _ _ (Or.inr ⟨rfl, by rw [hf9, andT_f okA]; exact okA, by rw [hf9, andT_f okA]; exact crA⟩)) rfl rfl
      · refine V2_aload_n (i := 0) d_R_product_27 rfl rfl ?_
        refine V2_callV [] d_R_product_28 rfl rfl lk_R_74 mo_R_look (by decide) rfl rfl rfl (Nat.le_of_ble_eq_true rfl) (Nat.le_of_ble_eq_true rfl) ?_
        refine c_R_look (T := T) (N := N) (a := s.at_) ((congrFun (g1.1 66 (by decide) (by decide)) 9).trans hB.1) hB.2.1 (fun i hi => (congrFun (g1.1 66 (by decide) (by decide)) (274 + i)).trans (hB.2.2.1 i hi)) g1.2.2.1 (by omega) ?_
        refine V2_topi (fun v11 ev11 => ?_)
        refine V2_bipush (v := 37) d_R_product_31 rfl ?_
        refine V2_icmp_ne (tgt := 69) d_R_product_33 rfl (fun c12 => ?_) (fun c12 => ?_)
        · refine V2_iconst (v := 1) d_R_product_69 rfl ?_
          refine V2_zreturn d_R_product_70 rfl (by decide) ?_
          have h8 : ¬ (sgT T N s.at_ = 42 ∨ sgT T N s.at_ = 47 ∨ sgT T N s.at_ = 37) := by
            clear hQ
            subst ev11 ev6 ev1
            intro h7
            rcases h7 with h7 | h7 | h7
            · exact c2 h7
            · exact c7 h7
            · exact c12 h7
          have hlv : ¬ lvT (sgT T N s.at_) = 4 := fun hh => h8 (lvT_is.2.2.2.2.mp hh)
          have hf9 : lpT T N p 4 f s = (true, s) := by
            cases f with
            | zero => rfl
            | succ f => exact if_neg hlv
          rw [hf9] at hQ
          exact xQi (hQ 1 G (Or.inl ⟨rfl, rfl, g1⟩)) rfl rfl
        · have h8 : sgT T N s.at_ = 42 ∨ sgT T N s.at_ = 47 ∨ sgT T N s.at_ = 37 := by
            clear hQ
            subst ev11 ev6 ev1
            exact Or.inr (Or.inr c12)
          have hlv : lvT (sgT T N s.at_) = 4 := lvT_is.2.2.2.2.mpr h8
          have hlt := lvT_lt hlv (by decide)
          obtain ⟨f, rfl⟩ : ∃ f1, f = f1 + 1 := ⟨f - 1, by omega⟩
          have hf9 : lpT T N p 4 (f + 1) s = andT (p s.go) (fun s1 => lpT T N p 4 f (s1.add 3 (sgT T N s.at_))) := if_pos hlv
          have gg := hg s.go g2 (show s.at_ + 1 ≤ N from hlt)
          have eg1 : s.go.at_ = s.at_ + 1 := rfl
          have eg2 : s.go.n = s.n := rfl
          refine V2_aload_n (i := 0) d_R_product_36 rfl rfl ?_
          refine V2_callV [] d_R_product_37 rfl rfl lk_R_74 mo_R_look (by decide) rfl rfl rfl (Nat.le_of_ble_eq_true rfl) (Nat.le_of_ble_eq_true rfl) ?_
          refine c_R_look (T := T) (N := N) (a := s.at_) ((congrFun (g1.1 66 (by decide) (by decide)) 9).trans hB.1) hB.2.1 (fun i hi => (congrFun (g1.1 66 (by decide) (by decide)) (274 + i)).trans (hB.2.2.1 i hi)) g1.2.2.1 (by omega) ?_
          refine V2_topi (fun v13 ev13 => ?_)
          refine V2_istore_n (i := 1) (l' := [some (.ref 65), some (.int v13)]) d_R_product_40 rfl (xst_r (Nat.le_of_ble_eq_true rfl) rfl rfl) ?_
          refine V2_aload_n (i := 0) d_R_product_41 rfl rfl ?_
          refine V2_dup d_R_product_42 rfl ?_
          refine V2_get (v := G 65 6) d_R_product_43 fl_R_61 (by decide) rfl (by decide) rfl rfl ?_
          refine V2_topi (fun v14 ev14 => ?_)
          refine V2_iconst (v := 1) d_R_product_46 rfl ?_
          refine V2_iadd d_R_product_47 ?_
          refine V2_topi (fun v15 ev15 => ?_)
          refine V2_put d_R_product_48 fl_R_61 (by decide) rfl (by decide) rfl ?_
          refine V2_aload_n (i := 0) d_R_product_51 rfl rfl ?_
          refine V2_callV [] d_R_product_52 rfl rfl lk_R_91 mo_R_one (by decide) rfl rfl rfl (Nat.le_of_ble_eq_true rfl) (Nat.le_of_ble_eq_true rfl) ?_
          have cr8 : MR B o s.go (xp G 65 6 v15) := by
            clear hQ
            subst ev15 ev14 ev13 ev11 ev6 ev1
            exact mr_go g1
          refine hp _ _ s.go cr8 g2 (by omega) (by omega) (fun rA GA hA => ?_)
          rcases hA with ⟨rfl, okA, crA⟩ | ⟨rfl, okA, crA⟩
          · obtain ⟨k1, k2, k3, k4⟩ := gg.2.2 okA
            have gA := gg.2.1
            have e5 : ((p s.go).2.add 3 (sgT T N s.at_)).at_ = (p s.go).2.at_ := rfl
            have e6 : ((p s.go).2.add 3 (sgT T N s.at_)).n = (p s.go).2.n + 1 := rfl
            have e7 := dep_add (p s.go).2 3 (sgT T N s.at_)
            rw [if_neg (by decide), if_neg (by decide)] at e7
            have e8 : s.go.dep = s.dep := rfl
            have hsg : isSign (sgT T N s.at_) := lv_sign (by omega)
            rw [hf9, andT_t okA] at hQ
            refine V2_if_ne (tgt := 60) d_R_product_55 rfl (fun _ => ?_) (fun c => (by first | exact absurd c (by decide) | exact absurd (by decide) c))
            refine V2_aload_n (i := 0) d_R_product_60 rfl rfl ?_
            refine V2_iconst (v := 3) d_R_product_61 rfl ?_
            refine V2_iload_n (i := 1) d_R_product_62 rfl rfl ?_
            refine V2_callV [.int (3 : Int32), .int v13] d_R_product_63 rfl rfl lk_R_78 mo_R_step1 (by decide) rfl rfl rfl (Nat.le_of_ble_eq_true rfl) (Nat.le_of_ble_eq_true rfl) ?_
            have esg : v13 = sgT T N s.at_ := by
              clear hQ
              subst ev15 ev14 ev13 ev11 ev6 ev1
              rfl
            rw [esg]
            refine c_R_step1 (n := (p s.go).2.n) crA.2.2.2.2.1 (by omega) ?_
            refine V2_goto (tgt := 9) d_R_product_66 rfl ?_
            exact V2.weak (V2.to (l' := [some (.ref 65), none]) (ih f _ _ (mr_add 3 (sgT T N s.at_) crA) (ok_add k3 (Or.inr (Or.inr (Or.inr ⟨rfl, by omega, hsg⟩)))) (by omega) (by omega) (by omega) (by omega) hQ (by omega)) rfl rfl rfl rfl) ⟨rfl, trivial⟩
          · refine V2_if_ne (tgt := 60) d_R_product_55 rfl (fun c => (by first | exact absurd c (by decide) | exact absurd (by decide) c)) (fun _ => ?_)
            refine V2_iconst (v := 0) d_R_product_58 rfl ?_
            refine V2_zreturn d_R_product_59 rfl (by decide) ?_
            exact xQi (hQ _ _ (Or.inr ⟨rfl, by rw [hf9, andT_f okA]; exact okA, by rw [hf9, andT_f okA]; exact crA⟩)) rfl rfl
theorem c_R_product {L : Nat} {xs : Nat → Int32} {d : Nat} {Q : Option Value → xF → Prop} {F : xF} {B : xF} {T : Nat → Int32} {N use o : Nat} {s : PS} {p : PS → Bool × PS} (hB : TPm B T N use) (hg : goodT N use p) (hp : CKm L xs B N use o p d m_R_one 4) (hR : MR B o s F) (hK : okR use s) (ha : s.at_ ≤ N) (ho : s.n ≤ s.at_) (hQ : ∀ r F1, RESm B o (lvS T N 4 60 p s) r F1 → Q (some (.int r)) F1) : V2 L xs (d + 1) m_R_product 0 (xEntry [.ref 65] 2) [] F Q := by
  refine V2.to (l' := [some (.ref 65), none]) ?_ rfl rfl rfl rfl
  refine V2_aload_n (i := 0) d_R_product_0 rfl rfl ?_
  refine V2_callV [] d_R_product_1 rfl rfl lk_R_91 mo_R_one (by decide) rfl rfl rfl (Nat.le_of_ble_eq_true rfl) (Nat.le_of_ble_eq_true rfl) ?_
  have gg := hg s hK ha
  have hl9 : lvS T N 4 60 p s = andT (p s) (lpT T N p 4 60) := rfl
  refine hp _ _ s hR hK ha ho (fun rA GA hA => ?_)
  rcases hA with ⟨rfl, okA, crA⟩ | ⟨rfl, okA, crA⟩
  · refine V2_if_ne (tgt := 9) d_R_product_4 rfl (fun _ => ?_) (fun c => (by first | exact absurd c (by decide) | exact absurd (by decide) c))
    obtain ⟨k1, k2, k3, k4⟩ := gg.2.2 okA
    have gA := gg.2.1
    rw [hl9, andT_t okA] at hQ
    exact V2.to (c_R_product_loop hB hg hp 61 60 (p s).2 _ crA k3 gg.2.1 (by omega) (by omega) (by have := hB.2.1; omega) hQ (by omega)) rfl rfl rfl rfl
  · refine V2_if_ne (tgt := 9) d_R_product_4 rfl (fun c => (by first | exact absurd c (by decide) | exact absurd (by decide) c)) (fun _ => ?_)
    refine V2_iconst (v := 0) d_R_product_7 rfl ?_
    refine V2_zreturn d_R_product_8 rfl (by decide) ?_
    exact xQi (hQ _ _ (Or.inr ⟨rfl, by rw [hl9, andT_f okA]; exact okA, by rw [hl9, andT_f okA]; exact crA⟩)) rfl rfl
theorem c_R_compared {L : Nat} {xs : Nat → Int32} {d : Nat} {Q : Option Value → xF → Prop} {F : xF} {B : xF} {T : Nat → Int32} {N use o : Nat} {s : PS} {p : PS → Bool × PS} (hB : TPm B T N use) (hg : goodT N use p) (hp : CKm L xs B N use o p d m_R_sum 2) (hR : MR B o s F) (hK : okR use s) (ha : s.at_ ≤ N) (ho : s.n ≤ s.at_) (hQ : ∀ r F1, RESm B o (lvS T N 2 1 p s) r F1 → Q (some (.int r)) F1) : V2 L xs (d + 1) m_R_compared 0 (xEntry [.ref 65] 2) [] F Q := by
  refine V2.to (l' := [some (.ref 65), none]) ?_ rfl rfl rfl rfl
  refine V2_aload_n (i := 0) d_R_compared_0 rfl rfl ?_
  refine V2_callV [] d_R_compared_1 rfl rfl lk_R_85 mo_R_sum (by decide) rfl rfl rfl (Nat.le_of_ble_eq_true rfl) (Nat.le_of_ble_eq_true rfl) ?_
  have hN := hB.2.1
  have gg := hg s hK ha
  have hl9 : lvS T N 2 1 p s = andT (p s) (lpT T N p 2 1) := rfl
  refine hp _ _ s hR hK ha ho (fun rA GA hA => ?_)
  rcases hA with ⟨rfl, okA, crA⟩ | ⟨rfl, okA, crA⟩
  · obtain ⟨k1, k2, k3, k4⟩ := gg.2.2 okA
    have gA := gg.2.1
    rw [hl9, andT_t okA] at hQ
    refine V2_if_ne (tgt := 9) d_R_compared_4 rfl (fun _ => ?_) (fun c => (by first | exact absurd c (by decide) | exact absurd (by decide) c))
    refine V2_aload_n (i := 0) d_R_compared_9 rfl rfl ?_
    refine V2_callV [] d_R_compared_10 rfl rfl lk_R_74 mo_R_look (by decide) rfl rfl rfl (Nat.le_of_ble_eq_true rfl) (Nat.le_of_ble_eq_true rfl) ?_
    refine c_R_look (T := T) (N := N) (a := (p s).2.at_) ((congrFun (crA.1 66 (by decide) (by decide)) 9).trans hB.1) hB.2.1 (fun i hi => (congrFun (crA.1 66 (by decide) (by decide)) (274 + i)).trans (hB.2.2.1 i hi)) crA.2.2.1 (by omega) ?_
    refine V2_topi (fun v1 ev1 => ?_)
    refine V2_istore_n (i := 1) (l' := [some (.ref 65), some (.int v1)]) d_R_compared_13 rfl (xst_r (Nat.le_of_ble_eq_true rfl) rfl rfl) ?_
    refine V2_iload_n (i := 1) d_R_compared_14 rfl rfl ?_
    refine V2_bipush (v := 60) d_R_compared_15 rfl ?_
    refine V2_icmp_eq (tgt := 34) d_R_compared_17 rfl (fun c2 => ?_) (fun c2 => ?_)
    · have h8 : sgT T N (p s).2.at_ = 60 ∨ sgT T N (p s).2.at_ = 61 ∨ sgT T N (p s).2.at_ = 62 := by
        clear hQ
        subst ev1
        exact Or.inl c2
      have hlv : lvT (sgT T N (p s).2.at_) = 2 := lvT_is.2.2.1.mpr h8
      have hlt := lvT_lt hlv (by decide)
      have hf9 : lpT T N p 2 1 (p s).2 = andT (p (p s).2.go) (fun s1 => (true, s1.add 3 (sgT T N (p s).2.at_))) := if_pos hlv
      have gg2 := hg (p s).2.go k3 (show (p s).2.at_ + 1 ≤ N from hlt)
      have eg1 : (p s).2.go.at_ = (p s).2.at_ + 1 := rfl
      have eg2 : (p s).2.go.n = (p s).2.n := rfl
      refine V2_aload_n (i := 0) d_R_compared_34 rfl rfl ?_
      refine V2_dup d_R_compared_35 rfl ?_
      refine V2_get (v := GA 65 6) d_R_compared_36 fl_R_61 (by decide) rfl (by decide) rfl rfl ?_
      refine V2_topi (fun v3 ev3 => ?_)
      refine V2_iconst (v := 1) d_R_compared_39 rfl ?_
      refine V2_iadd d_R_compared_40 ?_
      refine V2_topi (fun v4 ev4 => ?_)
      refine V2_put d_R_compared_41 fl_R_61 (by decide) rfl (by decide) rfl ?_
      refine V2_aload_n (i := 0) d_R_compared_44 rfl rfl ?_
      refine V2_callV [] d_R_compared_45 rfl rfl lk_R_85 mo_R_sum (by decide) rfl rfl rfl (Nat.le_of_ble_eq_true rfl) (Nat.le_of_ble_eq_true rfl) ?_
      have cr8 : MR B o (p s).2.go (xp GA 65 6 v4) := by
        clear hQ
        subst ev4 ev3 ev1
        exact mr_go crA
      refine hp _ _ (p s).2.go cr8 k3 (by omega) (by omega) (fun rB GB hB9 => ?_)
      rcases hB9 with ⟨rfl, okB9, crB9⟩ | ⟨rfl, okB9, crB9⟩
      · obtain ⟨j1, j2, j3, j4⟩ := gg2.2.2 okB9
        have gB := gg2.2.1
        rw [hf9, andT_t okB9] at hQ
        refine V2_if_ne (tgt := 53) d_R_compared_48 rfl (fun _ => ?_) (fun c => (by first | exact absurd c (by decide) | exact absurd (by decide) c))
        refine V2_aload_n (i := 0) d_R_compared_53 rfl rfl ?_
        refine V2_iconst (v := 3) d_R_compared_54 rfl ?_
        refine V2_iload_n (i := 1) d_R_compared_55 rfl rfl ?_
        refine V2_callV [.int (3 : Int32), .int v1] d_R_compared_56 rfl rfl lk_R_78 mo_R_step1 (by decide) rfl rfl rfl (Nat.le_of_ble_eq_true rfl) (Nat.le_of_ble_eq_true rfl) ?_
        have esg : v1 = sgT T N (p s).2.at_ := by
          clear hQ
          subst ev4 ev3 ev1
          rfl
        rw [esg]
        refine c_R_step1 (n := (p (p s).2.go).2.n) crB9.2.2.2.2.1 (by omega) ?_
        refine V2_iconst (v := 1) d_R_compared_59 rfl ?_
        refine V2_zreturn d_R_compared_60 rfl (by decide) ?_
        exact xQi (hQ 1 _ (Or.inl ⟨rfl, rfl, mr_add 3 (sgT T N (p s).2.at_) crB9⟩)) rfl rfl
      · refine V2_if_ne (tgt := 53) d_R_compared_48 rfl (fun c => (by first | exact absurd c (by decide) | exact absurd (by decide) c)) (fun _ => ?_)
        refine V2_iconst (v := 0) d_R_compared_51 rfl ?_
        refine V2_zreturn d_R_compared_52 rfl (by decide) ?_
        exact xQi (hQ _ _ (Or.inr ⟨rfl, by rw [hf9, andT_f okB9]; exact okB9, by rw [hf9, andT_f okB9]; exact crB9⟩)) rfl rfl
    · refine V2_iload_n (i := 1) d_R_compared_20 rfl rfl ?_
      refine V2_bipush (v := 61) d_R_compared_21 rfl ?_
      refine V2_icmp_eq (tgt := 34) d_R_compared_23 rfl (fun c5 => ?_) (fun c5 => ?_)
      · have h8 : sgT T N (p s).2.at_ = 60 ∨ sgT T N (p s).2.at_ = 61 ∨ sgT T N (p s).2.at_ = 62 := by
          clear hQ
          subst ev1
          exact Or.inr (Or.inl c5)
        have hlv : lvT (sgT T N (p s).2.at_) = 2 := lvT_is.2.2.1.mpr h8
        have hlt := lvT_lt hlv (by decide)
        have hf9 : lpT T N p 2 1 (p s).2 = andT (p (p s).2.go) (fun s1 => (true, s1.add 3 (sgT T N (p s).2.at_))) := if_pos hlv
        have gg2 := hg (p s).2.go k3 (show (p s).2.at_ + 1 ≤ N from hlt)
        have eg1 : (p s).2.go.at_ = (p s).2.at_ + 1 := rfl
        have eg2 : (p s).2.go.n = (p s).2.n := rfl
        refine V2_aload_n (i := 0) d_R_compared_34 rfl rfl ?_
        refine V2_dup d_R_compared_35 rfl ?_
        refine V2_get (v := GA 65 6) d_R_compared_36 fl_R_61 (by decide) rfl (by decide) rfl rfl ?_
        refine V2_topi (fun v6 ev6 => ?_)
        refine V2_iconst (v := 1) d_R_compared_39 rfl ?_
        refine V2_iadd d_R_compared_40 ?_
        refine V2_topi (fun v7 ev7 => ?_)
        refine V2_put d_R_compared_41 fl_R_61 (by decide) rfl (by decide) rfl ?_
        refine V2_aload_n (i := 0) d_R_compared_44 rfl rfl ?_
        refine V2_callV [] d_R_compared_45 rfl rfl lk_R_85 mo_R_sum (by decide) rfl rfl rfl (Nat.le_of_ble_eq_true rfl) (Nat.le_of_ble_eq_true rfl) ?_
        have cr8 : MR B o (p s).2.go (xp GA 65 6 v7) := by
          clear hQ
          subst ev7 ev6 ev1
          exact mr_go crA
        refine hp _ _ (p s).2.go cr8 k3 (by omega) (by omega) (fun rB GB hB9 => ?_)
        rcases hB9 with ⟨rfl, okB9, crB9⟩ | ⟨rfl, okB9, crB9⟩
        · obtain ⟨j1, j2, j3, j4⟩ := gg2.2.2 okB9
          have gB := gg2.2.1
          rw [hf9, andT_t okB9] at hQ
          refine V2_if_ne (tgt := 53) d_R_compared_48 rfl (fun _ => ?_) (fun c => (by first | exact absurd c (by decide) | exact absurd (by decide) c))
          refine V2_aload_n (i := 0) d_R_compared_53 rfl rfl ?_
          refine V2_iconst (v := 3) d_R_compared_54 rfl ?_
          refine V2_iload_n (i := 1) d_R_compared_55 rfl rfl ?_
          refine V2_callV [.int (3 : Int32), .int v1] d_R_compared_56 rfl rfl lk_R_78 mo_R_step1 (by decide) rfl rfl rfl (Nat.le_of_ble_eq_true rfl) (Nat.le_of_ble_eq_true rfl) ?_
          have esg : v1 = sgT T N (p s).2.at_ := by
            clear hQ
            subst ev7 ev6 ev1
            rfl
          rw [esg]
          refine c_R_step1 (n := (p (p s).2.go).2.n) crB9.2.2.2.2.1 (by omega) ?_
          refine V2_iconst (v := 1) d_R_compared_59 rfl ?_
          refine V2_zreturn d_R_compared_60 rfl (by decide) ?_
          exact xQi (hQ 1 _ (Or.inl ⟨rfl, rfl, mr_add 3 (sgT T N (p s).2.at_) crB9⟩)) rfl rfl
        · refine V2_if_ne (tgt := 53) d_R_compared_48 rfl (fun c => (by first | exact absurd c (by decide) | exact absurd (by decide) c)) (fun _ => ?_)
          refine V2_iconst (v := 0) d_R_compared_51 rfl ?_
          refine V2_zreturn d_R_compared_52 rfl (by decide) ?_
          exact xQi (hQ _ _ (Or.inr ⟨rfl, by rw [hf9, andT_f okB9]; exact okB9, by rw [hf9, andT_f okB9]; exact crB9⟩)) rfl rfl
      · refine V2_iload_n (i := 1) d_R_compared_26 rfl rfl ?_
        refine V2_bipush (v := 62) d_R_compared_27 rfl ?_
        refine V2_icmp_eq (tgt := 34) d_R_compared_29 rfl (fun c8 => ?_) (fun c8 => ?_)
        · have h8 : sgT T N (p s).2.at_ = 60 ∨ sgT T N (p s).2.at_ = 61 ∨ sgT T N (p s).2.at_ = 62 := by
            clear hQ
            subst ev1
            exact Or.inr (Or.inr c8)
          have hlv : lvT (sgT T N (p s).2.at_) = 2 := lvT_is.2.2.1.mpr h8
          have hlt := lvT_lt hlv (by decide)
          have hf9 : lpT T N p 2 1 (p s).2 = andT (p (p s).2.go) (fun s1 => (true, s1.add 3 (sgT T N (p s).2.at_))) := if_pos hlv
          have gg2 := hg (p s).2.go k3 (show (p s).2.at_ + 1 ≤ N from hlt)
          have eg1 : (p s).2.go.at_ = (p s).2.at_ + 1 := rfl
          have eg2 : (p s).2.go.n = (p s).2.n := rfl
          refine V2_aload_n (i := 0) d_R_compared_34 rfl rfl ?_
          refine V2_dup d_R_compared_35 rfl ?_
          refine V2_get (v := GA 65 6) d_R_compared_36 fl_R_61 (by decide) rfl (by decide) rfl rfl ?_
          refine V2_topi (fun v9 ev9 => ?_)
          refine V2_iconst (v := 1) d_R_compared_39 rfl ?_
          refine V2_iadd d_R_compared_40 ?_
          refine V2_topi (fun v10 ev10 => ?_)
          refine V2_put d_R_compared_41 fl_R_61 (by decide) rfl (by decide) rfl ?_
          refine V2_aload_n (i := 0) d_R_compared_44 rfl rfl ?_
          refine V2_callV [] d_R_compared_45 rfl rfl lk_R_85 mo_R_sum (by decide) rfl rfl rfl (Nat.le_of_ble_eq_true rfl) (Nat.le_of_ble_eq_true rfl) ?_
          have cr8 : MR B o (p s).2.go (xp GA 65 6 v10) := by
            clear hQ
            subst ev10 ev9 ev1
            exact mr_go crA
          refine hp _ _ (p s).2.go cr8 k3 (by omega) (by omega) (fun rB GB hB9 => ?_)
          rcases hB9 with ⟨rfl, okB9, crB9⟩ | ⟨rfl, okB9, crB9⟩
          · obtain ⟨j1, j2, j3, j4⟩ := gg2.2.2 okB9
            have gB := gg2.2.1
            rw [hf9, andT_t okB9] at hQ
            refine V2_if_ne (tgt := 53) d_R_compared_48 rfl (fun _ => ?_) (fun c => (by first | exact absurd c (by decide) | exact absurd (by decide) c))
            refine V2_aload_n (i := 0) d_R_compared_53 rfl rfl ?_
            refine V2_iconst (v := 3) d_R_compared_54 rfl ?_
            refine V2_iload_n (i := 1) d_R_compared_55 rfl rfl ?_
            refine V2_callV [.int (3 : Int32), .int v1] d_R_compared_56 rfl rfl lk_R_78 mo_R_step1 (by decide) rfl rfl rfl (Nat.le_of_ble_eq_true rfl) (Nat.le_of_ble_eq_true rfl) ?_
            have esg : v1 = sgT T N (p s).2.at_ := by
              clear hQ
              subst ev10 ev9 ev1
              rfl
            rw [esg]
            refine c_R_step1 (n := (p (p s).2.go).2.n) crB9.2.2.2.2.1 (by omega) ?_
            refine V2_iconst (v := 1) d_R_compared_59 rfl ?_
            refine V2_zreturn d_R_compared_60 rfl (by decide) ?_
            exact xQi (hQ 1 _ (Or.inl ⟨rfl, rfl, mr_add 3 (sgT T N (p s).2.at_) crB9⟩)) rfl rfl
          · refine V2_if_ne (tgt := 53) d_R_compared_48 rfl (fun c => (by first | exact absurd c (by decide) | exact absurd (by decide) c)) (fun _ => ?_)
            refine V2_iconst (v := 0) d_R_compared_51 rfl ?_
            refine V2_zreturn d_R_compared_52 rfl (by decide) ?_
            exact xQi (hQ _ _ (Or.inr ⟨rfl, by rw [hf9, andT_f okB9]; exact okB9, by rw [hf9, andT_f okB9]; exact crB9⟩)) rfl rfl
        · refine V2_iconst (v := 1) d_R_compared_32 rfl ?_
          refine V2_zreturn d_R_compared_33 rfl (by decide) ?_
          have h8 : ¬ (sgT T N (p s).2.at_ = 60 ∨ sgT T N (p s).2.at_ = 61 ∨ sgT T N (p s).2.at_ = 62) := by
            clear hQ
            subst ev1
            intro h7
            rcases h7 with h7 | h7 | h7
            · exact c2 h7
            · exact c5 h7
            · exact c8 h7
          have hlv : ¬ lvT (sgT T N (p s).2.at_) = 2 := fun hh => h8 (lvT_is.2.2.1.mp hh)
          have hf9 : lpT T N p 2 1 (p s).2 = (true, (p s).2) := if_neg hlv
          rw [hf9] at hQ
          exact xQi (hQ 1 GA (Or.inl ⟨rfl, rfl, crA⟩)) rfl rfl
  · refine V2_if_ne (tgt := 9) d_R_compared_4 rfl (fun c => (by first | exact absurd c (by decide) | exact absurd (by decide) c)) (fun _ => ?_)
    refine V2_iconst (v := 0) d_R_compared_7 rfl ?_
    refine V2_zreturn d_R_compared_8 rfl (by decide) ?_
    exact xQi (hQ _ _ (Or.inr ⟨rfl, by rw [hl9, andT_f okA]; exact okA, by rw [hl9, andT_f okA]; exact crA⟩)) rfl rfl
