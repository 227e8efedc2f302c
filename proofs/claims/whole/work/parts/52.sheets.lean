/-! body, sheet, put -/
theorem sh_k {t : Nat} (h : t < 4) : xkinds.getD (57 + 2 * t) (0, 0) = (6, 3) := by
  rcases (show t = 0 ∨ t = 1 ∨ t = 2 ∨ t = 3 by omega) with h | h | h | h <;> subst h <;> rfl
theorem sh_k1 {t : Nat} (h : t < 4) : (xkinds.getD (57 + 2 * t) (0, 0)).1 = 6 := by rw [sh_k h]
theorem sh_a {t : Nat} (h : t < 4) : xkinds.getD (58 + 2 * t) (0, 0) = (100, 24) := by
  rcases (show t = 0 ∨ t = 1 ∨ t = 2 ∨ t = 3 by omega) with h | h | h | h <;> subst h <;> rfl
theorem sh_n {t j : Nat} (h : t < 4) (hj : j = 1 ∨ j = 2) : xsk (57 + 2 * t) j = none := by
  rcases (show t = 0 ∨ t = 1 ∨ t = 2 ∨ t = 3 by omega) with h | h | h | h <;> rcases hj with hj | hj <;> subst h hj <;> rfl
theorem sh_r {t : Nat} (h : t < 4) : xsk (57 + 2 * t) 0 = some (58 + 2 * t) := by
  rcases (show t = 0 ∨ t = 1 ∨ t = 2 ∨ t = 3 by omega) with h | h | h | h <;> subst h <;> rfl
theorem sh_s {t : Nat} (h : t < 4) : xsk 55 (nI t).toNatClampNeg = some (57 + 2 * t) := by
  rcases (show t = 0 ∨ t = 1 ∨ t = 2 ∨ t = 3 by omega) with h | h | h | h <;> subst h <;> rfl
theorem xp_on {F F0 : xF} {a j : Nat} {x : Int32} (h : ∀ k, 65 ≤ k → F k = F0 k) : ∀ k, 65 ≤ k → xp F a j x k = xp F0 a j x k := fun k hk => by
  funext b
  unfold xp
  rw [h k hk]
theorem xrw_on {F F0 : xF} {a : Nat} {r : Nat → Int32} (h : ∀ k, 65 ≤ k → F k = F0 k) : ∀ k, 65 ≤ k → xrw F a r k = xrw F0 a r k := fun k hk => by
  funext b
  unfold xrw
  rw [h k hk]
/-- a sheet alone changes -/
theorem mid_sheet {F F1 G : xF} {t : Nat} (h : Rel F) (ht : t < 4) (hF : ∀ k, ¬ k = 57 + 2 * t → ¬ k = 58 + 2 * t → F1 k = F k) (hG : ∀ k, ¬ k = 74 → ¬ k = 75 → ¬ k = 76 → G k = F k) (hs : relSheet F1 G t) (ho : ∀ u, u < 4 → ¬ u = t → G 74 u = F 74 u ∧ G 75 u = F 75 u ∧ ∀ i, i < 24 → G 76 (24 * u + i) = F 76 (24 * u + i)) : Mid F F1 G := by
  obtain ⟨g1, ⟨g2, g2'⟩, g3, g4, g5, g6, g7⟩ := h.1
  refine ⟨fun k hk => hF k (by omega) (by omega), ?_, ⟨?_, ?_⟩, ?_, ?_, ?_, ?_, ?_⟩
  · rw [hG 66 (by decide) (by decide) (by decide)]
    exact relW_same g1 (fun k a b => hF k (by omega) (by omega))
  · rw [hF (18 + 7) (by omega) (by omega), hF (18 + 10) (by omega) (by omega)]
    exact g2
  · rw [hG 67 (by decide) (by decide) (by decide), hG 65 (by decide) (by decide) (by decide)]
    exact fun hh => relW_same (g2' hh) (fun k a b => hF k (by omega) (by omega))
  · intro k hk
    rw [hG 69 (by decide) (by decide) (by decide), hF 56 (by omega) (by omega)]
    exact g3 k hk
  · rw [hG 65 (by decide) (by decide) (by decide), hF 0 (by omega) (by omega)]
    exact g4
  · rw [hG 65 (by decide) (by decide) (by decide), hF 53 (by omega) (by omega)]
    exact g5
  · rw [hG 65 (by decide) (by decide) (by decide), hG 73 (by decide) (by decide) (by decide), hF 54 (by omega) (by omega)]
    exact g6
  · intro u hu
    by_cases e : u = t
    · subst e
      exact hs
    · obtain ⟨o1, o2, o3⟩ := ho u hu e
      obtain ⟨s1, s2, s3⟩ := g7 u hu
      obtain ⟨n, hn, en⟩ := (h.2.2.2.2.2 u hu).2
      unfold relSheet
      rw [o1, o2, hF (57 + 2 * u) (by omega) (by omega), hF (58 + 2 * u) (by omega) (by omega)]
      refine ⟨s1, s2, fun i hi => ?_⟩
      rw [o3 i (by rw [en, nI_clamp (by omega)] at hi; omega)]
      exact s3 i hi
theorem rel_sheet {F0 F F2 G : xF} {t : Nat} (h : Rel F0) (ht : t < 4) (hM : Mid F0 F G) (hc : ∀ k, k < 65 → F2 k = F k) (hm : ∀ k, 65 ≤ k → F2 k = G k) (hG : ∀ k, ¬ k = 74 → ¬ k = 75 → ¬ k = 76 → G k = F0 k) (hs : invSheet G t) (ho : ∀ u, u < 4 → ¬ u = t → G 74 u = F0 74 u ∧ G 75 u = F0 75 u) : Rel F2 := by
  refine rel_end hM hc (fun k hk => hm k (by omega)) ?_
  obtain ⟨i1, i2, i3, i4, i5⟩ := h.2
  unfold invM
  rw [hG 65 (by decide) (by decide) (by decide), hG 66 (by decide) (by decide) (by decide), hG 67 (by decide) (by decide) (by decide)]
  refine ⟨i1, i2, i3, i4, fun u hu => ?_⟩
  by_cases e : u = t
  · subst e
    exact hs
  · unfold invSheet
    rw [(ho u hu e).1, (ho u hu e).2]
    exact i5 u hu
/-! bits -/
theorem bv_s8 (b : BitVec 32) : ((b <<< (24 : Nat)).sshiftRight 24) &&& 255#32 = b &&& 255#32 := by
  apply BitVec.eq_of_getLsbD_eq
  intro i hi
  rw [BitVec.getLsbD_and, BitVec.getLsbD_and, BitVec.getLsbD_sshiftRight]
  by_cases h : i < 8
  · simp only [BitVec.getLsbD_shiftLeft]
    simp [show 24 + i < 32 by omega, show ¬ 32 ≤ i by omega, show ¬ 24 + i < 24 by omega]
  · have h2 : (255#32).getLsbD i = false := by
      rw [show (255#32) = BitVec.ofNat 32 (2 ^ 8 - 1) from rfl, BitVec.getLsbD_ofNat, Nat.testBit_two_pow_sub_one]
      simp [h]
    simp [h2]
theorem bv_s16 (b : BitVec 32) : ((b <<< (16 : Nat)).sshiftRight 16) &&& 65535#32 = b &&& 65535#32 := by
  apply BitVec.eq_of_getLsbD_eq
  intro i hi
  rw [BitVec.getLsbD_and, BitVec.getLsbD_and, BitVec.getLsbD_sshiftRight]
  by_cases h : i < 16
  · simp only [BitVec.getLsbD_shiftLeft]
    simp [show 16 + i < 32 by omega, show ¬ 32 ≤ i by omega, show ¬ 16 + i < 16 by omega]
  · have h2 : (65535#32).getLsbD i = false := by
      rw [show (65535#32) = BitVec.ofNat 32 (2 ^ 16 - 1) from rfl, BitVec.getLsbD_ofNat, Nat.testBit_two_pow_sub_one]
      simp [h]
    simp [h2]
theorem bv_l (n : Nat) (hn : n ≤ 32) (b c : BitVec 32) (h : ∀ i, i < 32 - n → b.getLsbD i = c.getLsbD i) : b <<< n = c <<< n := by
  apply BitVec.eq_of_getLsbD_eq
  intro i hi
  simp only [BitVec.getLsbD_shiftLeft]
  by_cases h1 : i < n
  · simp [h1]
  · rw [h (i - n) (by omega)]
theorem bv_q8 (b : BitVec 32) : (b &&& 255#32) <<< (24 : Nat) = b <<< (24 : Nat) := by
  refine bv_l 24 (by decide) _ _ (fun i hi => ?_)
  rw [BitVec.getLsbD_and, show (255#32) = BitVec.ofNat 32 (2 ^ 8 - 1) from rfl, BitVec.getLsbD_ofNat, Nat.testBit_two_pow_sub_one]
  simp [show i < 8 by omega, show i < 32 by omega]
theorem bv_q16 (b : BitVec 32) : (b &&& 65535#32) <<< (16 : Nat) = b <<< (16 : Nat) := by
  refine bv_l 16 (by decide) _ _ (fun i hi => ?_)
  rw [BitVec.getLsbD_and, show (65535#32) = BitVec.ofNat 32 (2 ^ 16 - 1) from rfl, BitVec.getLsbD_ofNat, Nat.testBit_two_pow_sub_one]
  simp [show i < 16 by omega, show i < 32 by omega]
theorem i_s8 (b : Int32) : ((b <<< 24) >>> 24) &&& 255 = b &&& 255 := Int32.toBitVec_inj.mp (bv_s8 b.toBitVec)
theorem i_s16 (b : Int32) : ((b <<< 16) >>> 16) &&& 65535 = b &&& 65535 := Int32.toBitVec_inj.mp (bv_s16 b.toBitVec)
theorem i_q8 (b : Int32) : (b &&& 255) <<< 24 = b <<< 24 := Int32.toBitVec_inj.mp (bv_q8 b.toBitVec)
theorem i_q16 (b : Int32) : (b &&& 65535) <<< 16 = b <<< 16 := Int32.toBitVec_inj.mp (bv_q16 b.toBitVec)
theorem i_i8 (b : Int32) : (((b <<< 24) >>> 24) <<< 24) >>> 24 = (b <<< 24) >>> 24 := by
  rw [← i_q8 ((b <<< 24) >>> 24), i_s8, i_q8]
theorem i_i16 (b : Int32) : (((b <<< 16) >>> 16) <<< 16) >>> 16 = (b <<< 16) >>> 16 := by
  rw [← i_q16 ((b <<< 16) >>> 16), i_s16, i_q16]
def lowBits (bits v : Int32) : Int32 := if bits = 8 then v &&& 255 else if bits = 16 then v &&& 65535 else v
def signBits (bits v : Int32) : Int32 := (v <<< ((32 - bits) &&& 31)) >>> ((32 - bits) &&& 31)
theorem eq_bits {bits v : Int32} (h : bits = 0 ∨ bits = 8 ∨ bits = 16 ∨ bits = 32) (h0 : ¬ bits = 0) : eqBits bits (lowBits bits v) (signBits bits v) := by
  rcases h with h | h | h | h
  · exact absurd h h0
  · subst h
    have e : signBits 8 v = (v <<< 24) >>> 24 := by
      unfold signBits
      rw [show ((32 - 8 : Int32) &&& 31) = 24 by decide]
    have e2 : lowBits 8 v = v &&& 255 := if_pos rfl
    unfold eqBits
    rw [if_pos rfl, e, e2]
    exact ⟨(i_s8 v).symm, (i_i8 v).symm⟩
  · subst h
    have e : signBits 16 v = (v <<< 16) >>> 16 := by
      unfold signBits
      rw [show ((32 - 16 : Int32) &&& 31) = 16 by decide]
    have e2 : lowBits 16 v = v &&& 65535 := (if_neg (by decide)).trans (if_pos rfl)
    unfold eqBits
    rw [if_neg (by decide), if_pos rfl, e, e2]
    exact ⟨(i_s16 v).symm, (i_i16 v).symm⟩
  · subst h
    have e : signBits 32 v = v := by
      unfold signBits
      rw [show ((32 - 32 : Int32) &&& 31) = 0 by decide]
      exact Int32.toBitVec_inj.mp (by show (v.toBitVec <<< (0 : Nat)).sshiftRight 0 = v.toBitVec; simp)
    have e2 : lowBits 32 v = v := (if_neg (by decide)).trans (if_neg (by decide))
    unfold eqBits
    rw [if_neg (by decide), if_neg (by decide), e, e2]
theorem eq_0 (bits : Int32) : eqBits bits 0 0 := by
  unfold eqBits
  by_cases h : bits = 8
  · rw [if_pos h]; decide
  · rw [if_neg h]
    by_cases h2 : bits = 16
    · rw [if_pos h2]; decide
    · rw [if_neg h2]
theorem small8 : ∀ n, n < 100 → nI n &&& 255 = nI n ∧ (nI n <<< 24) >>> 24 = nI n ∧ nI n &&& 65535 = nI n ∧ (nI n <<< 16) >>> 16 = nI n := by decide +kernel
/-- what is 0 to 99 says the same on both sides -/
theorem eq_small {bits a b : Int32} {n : Nat} (h : eqBits bits a b) (hn : n < 100) : a = nI n ↔ b = nI n := by
  obtain ⟨s1, s2, s3, s4⟩ := small8 n hn
  unfold eqBits at h
  by_cases h8 : bits = 8
  · rw [if_pos h8] at h
    constructor
    · intro e
      rw [h.2, ← i_q8 b, ← h.1, e, s2]
    · intro e
      rw [h.1, e, s1]
  · rw [if_neg h8] at h
    by_cases h16 : bits = 16
    · rw [if_pos h16] at h
      constructor
      · intro e
        rw [h.2, ← i_q16 b, ← h.1, e, s4]
      · intro e
        rw [h.1, e, s3]
    · rw [if_neg h16] at h
      rw [h]
def k_body (F : xF) (i : Int32) : Int32 × xF := if 0 ≤ i.toInt ∧ i.toInt < (F 65 15).toInt then (F 73 i.toNatClampNeg, F) else (-1000000000 - 2, errF F 2)
theorem inv_tr {F : xF} (h : Rel F) : ∃ n : Nat, n ≤ 30 ∧ F 65 15 = nI n ∧ (F 65 15).toInt = (n : Int) := by
  obtain ⟨n, hn, e⟩ := h.2.2.2.2.1
  exact ⟨n, hn, e, by rw [e]; exact nI_toInt (by omega)⟩
theorem c_cls_body {L : Nat} {xs : Nat → Int32} {d : Nat} {Q : Option Value → xF → Prop} {F : xF} {i : Int32} (hR : Rel F) (hQ : ∀ F1, Mid F F1 (k_body F i).2 → Q (some (.int (k_body F i).1)) F1) : V2 L xs (d + 2) m_P_body 0 (xEntry [.ref 0, .int i] 2) [] F Q := by
  have q0 : (0 : Int32).toInt = 0 := by decide
  have q1 : (1 : Int32).toInt = 1 := by decide
  have q2 : (2 : Int32).toInt = 2 := by decide
  have q3 : (3 : Int32).toInt = 3 := by decide
  have q4 : (4 : Int32).toInt = 4 := by decide
  have q5 : (5 : Int32).toInt = 5 := by decide
  have q6 : (6 : Int32).toInt = 6 := by decide
  have q7 : (7 : Int32).toInt = 7 := by decide
  have q8 : (8 : Int32).toInt = 8 := by decide
  have q9 : (9 : Int32).toInt = 9 := by decide
  have q10 : (10 : Int32).toInt = 10 := by decide
  have q12 : (12 : Int32).toInt = 12 := by decide
  have q16 : (16 : Int32).toInt = 16 := by decide
  have q20 : (20 : Int32).toInt = 20 := by decide
  have q24 : (24 : Int32).toInt = 24 := by decide
  have q30 : (30 : Int32).toInt = 30 := by decide
  have q32 : (32 : Int32).toInt = 32 := by decide
  have q40 : (40 : Int32).toInt = 40 := by decide
  have q60 : (60 : Int32).toInt = 60 := by decide
  have q69 : (69 : Int32).toInt = 69 := by decide
  have q99 : (99 : Int32).toInt = 99 := by decide
  have q9999 : (9999 : Int32).toInt = 9999 := by decide
  have q274 : (274 : Int32).toInt = 274 := by decide
  have q334 : (334 : Int32).toInt = 334 := by decide
  obtain ⟨T, hT, eT, nT⟩ := inv_tr hR
  have e53 : F 53 1 = F 65 15 := hR.1.2.2.2.2.1
  refine V2.to (l' := [some (.ref 0), some (.int i)]) ?_ rfl rfl rfl rfl
  refine V2_aload_n (i := 0) d_P_body_0 rfl rfl ?_
  refine V2_getr (a := 52) d_P_body_1 fl_P_43 (by decide) rfl (by decide) rfl ?_
  refine V2_callV [] d_P_body_4 rfl rfl lk_P_300 mo_Voi_trace (by decide) rfl rfl rfl (Nat.le_of_ble_eq_true rfl) (Nat.le_of_ble_eq_true rfl) ?_
  refine V2.to (l' := [some (.ref 52)]) ?_ rfl rfl rfl rfl
  refine V2_aload_n (i := 0) d_Voi_trace_0 rfl rfl ?_
  refine V2_getr (a := 53) d_Voi_trace_1 fl_Voi_14 (by decide) rfl (by decide) rfl ?_
  refine V2_areturn d_Voi_trace_4 rfl (Or.inl ⟨_, rfl⟩) ?_
  refine V2.to (st' := [.ref 53]) ?_ rfl rfl rfl rfl
  refine V2_iload_n (i := 1) d_P_body_7 rfl rfl ?_
  refine V2_callV [.int i] d_P_body_8 rfl rfl lk_P_303 mo_Nums_has (by decide) rfl rfl rfl (Nat.le_of_ble_eq_true rfl) (Nat.le_of_ble_eq_true rfl) ?_
  refine c_Nums_has_53 ?_
  refine V2_topi (fun v1 ev1 => ?_)
  refine V2_if_ne (tgt := 20) d_P_body_11 rfl (fun c2 => ?_) (fun c2 => ?_)
  · obtain ⟨p, hp, epp⟩ := in_of (x := i) (P := T) (by (try clear hQ); (try subst ev1); ((try simp only [xb_eq, xb_ne, Int32.lt_iff_toInt_lt, Int32.le_iff_toInt_le] at *) <;> (try simp only [← Int32.toInt_inj, true_and, false_and, or_false, false_or, or_true, true_or, and_true, and_false] at *) <;> omega)) (by (try clear hQ); (try subst ev1); ((try simp only [xb_eq, xb_ne, Int32.lt_iff_toInt_lt, Int32.le_iff_toInt_le] at *) <;> (try simp only [← Int32.toInt_inj, true_and, false_and, or_false, false_or, or_true, true_or, and_true, and_false] at *) <;> omega)) (by omega)
    subst epp
    have np : (nI p).toInt = (p : Int) := nI_toInt (by omega)
    have kp : (nI p).toNatClampNeg = p := nI_clamp (by omega)
    refine V2_aload_n (i := 0) d_P_body_20 rfl rfl ?_
    refine V2_getr (a := 52) d_P_body_21 fl_P_43 (by decide) rfl (by decide) rfl ?_
    refine V2_callV [] d_P_body_24 rfl rfl lk_P_300 mo_Voi_trace (by decide) rfl rfl rfl (Nat.le_of_ble_eq_true rfl) (Nat.le_of_ble_eq_true rfl) ?_
    refine V2.to (l' := [some (.ref 52)]) ?_ rfl rfl rfl rfl
    refine V2_aload_n (i := 0) d_Voi_trace_0 rfl rfl ?_
    refine V2_getr (a := 53) d_Voi_trace_1 fl_Voi_14 (by decide) rfl (by decide) rfl ?_
    refine V2_areturn d_Voi_trace_4 rfl (Or.inl ⟨_, rfl⟩) ?_
    refine V2.to (st' := [.ref 53]) ?_ rfl rfl rfl rfl
    refine V2_iload_n (i := 1) d_P_body_27 rfl rfl ?_
    refine V2_callV [.int (nI p)] d_P_body_28 rfl rfl lk_P_304 mo_Nums_at (by decide) rfl rfl rfl (Nat.le_of_ble_eq_true rfl) (Nat.le_of_ble_eq_true rfl) ?_
    refine c_Nums_at_53 (P := T) (e53.trans eT) hT hp ?_
    refine V2_topi (fun v3 ev3 => ?_)
    refine V2_ireturn d_P_body_31 rfl ?_
    have hb0 : 0 ≤ (nI p).toInt ∧ (nI p).toInt < (F 65 15).toInt := (by (try clear hQ); (try subst ev3 ev1); ((try simp only [xb_eq, xb_ne, Int32.lt_iff_toInt_lt, Int32.le_iff_toInt_le] at *) <;> (try simp only [← Int32.toInt_inj, true_and, false_and, or_false, false_or, or_true, true_or, and_true, and_false] at *) <;> omega))
    have e : k_body F (nI p) = (F 73 p, F) := (if_pos hb0).trans (by rw [kp])
    rw [e] at hQ
    subst ev3 ev1
    exact xQi (hQ _ (mid_same hR)) (hR.1.2.2.2.2.2.1 p (by rw [eT, nI_clamp (by omega)]; exact hp)) rfl
  · refine V2_aload_n (i := 0) d_P_body_14 rfl rfl ?_
    refine V2_iconst (v := 2) d_P_body_15 rfl ?_
    refine V2_callV [.int (2 : Int32)] d_P_body_16 rfl rfl lk_P_66 mo_P_fails (by decide) rfl rfl rfl (Nat.le_of_ble_eq_true rfl) (Nat.le_of_ble_eq_true rfl) ?_
    refine c_P_fails2 ?_
    refine V2_topi (fun v4 ev4 => ?_)
    refine V2_ireturn d_P_body_19 rfl ?_
    have hb0 : ¬ (0 ≤ i.toInt ∧ i.toInt < (F 65 15).toInt) := (by (try clear hQ); (try subst ev4 ev1); ((try simp only [xb_eq, xb_ne, Int32.lt_iff_toInt_lt, Int32.le_iff_toInt_le] at *) <;> (try simp only [← Int32.toInt_inj, true_and, false_and, or_false, false_or, or_true, true_or, and_true, and_false] at *) <;> omega))
    have e : k_body F i = (-1000000000 - 2, errF F 2) := if_neg hb0
    rw [e] at hQ
    subst ev4 ev1
    exact xQi (hQ _ (mid_err hR (by decide))) rfl rfl
theorem c_mod_body {L : Nat} {xs : Nat → Int32} {d : Nat} {Q : Option Value → xF → Prop} {F : xF} {i : Int32} {F0 : xF} (hR : Rel F0) (hM : Mid F0 F (k_body F0 i).2) (hQ : ∀ F2, Rel F2 → Q (some (.int (k_body F0 i).1)) F2) : V2 L xs (d + 1) m_R_body 0 (xEntry [.ref 65, .int i] 2) [] F Q := by
  have q0 : (0 : Int32).toInt = 0 := by decide
  have q1 : (1 : Int32).toInt = 1 := by decide
  have q2 : (2 : Int32).toInt = 2 := by decide
  have q3 : (3 : Int32).toInt = 3 := by decide
  have q4 : (4 : Int32).toInt = 4 := by decide
  have q5 : (5 : Int32).toInt = 5 := by decide
  have q6 : (6 : Int32).toInt = 6 := by decide
  have q7 : (7 : Int32).toInt = 7 := by decide
  have q8 : (8 : Int32).toInt = 8 := by decide
  have q9 : (9 : Int32).toInt = 9 := by decide
  have q10 : (10 : Int32).toInt = 10 := by decide
  have q12 : (12 : Int32).toInt = 12 := by decide
  have q16 : (16 : Int32).toInt = 16 := by decide
  have q20 : (20 : Int32).toInt = 20 := by decide
  have q24 : (24 : Int32).toInt = 24 := by decide
  have q30 : (30 : Int32).toInt = 30 := by decide
  have q32 : (32 : Int32).toInt = 32 := by decide
  have q40 : (40 : Int32).toInt = 40 := by decide
  have q60 : (60 : Int32).toInt = 60 := by decide
  have q69 : (69 : Int32).toInt = 69 := by decide
  have q99 : (99 : Int32).toInt = 99 := by decide
  have q9999 : (9999 : Int32).toInt = 9999 := by decide
  have q274 : (274 : Int32).toInt = 274 := by decide
  have q334 : (334 : Int32).toInt = 334 := by decide
  obtain ⟨T, hT, eT, nT⟩ := inv_tr hR
  have e65 : F 65 15 = F0 65 15 := congrFun (hM.1 65 (by decide)) 15
  have s1 : (F 65 15 - 1).toInt = (T : Int) - 1 := by
    rw [e65, eT]
    have := nI_toInt (n := T) (by omega)
    rw [toI_sub (by omega) (by omega) (by decide) (by decide), this]
    rfl
  refine V2.to (l' := [some (.ref 65), some (.int i)]) ?_ rfl rfl rfl rfl
  refine V2_iload_n (i := 1) d_R_body_0 rfl rfl ?_
  refine V2_iconst (v := 0) d_R_body_1 rfl ?_
  refine V2_aload_n (i := 0) d_R_body_2 rfl rfl ?_
  refine V2_get (v := F 65 15) d_R_body_3 fl_R_227 (by decide) rfl (by decide) rfl rfl ?_
  refine V2_topi (fun v1 ev1 => ?_)
  refine V2_iconst (v := 1) d_R_body_6 rfl ?_
  refine V2_isub d_R_body_7 ?_
  refine V2_topi (fun v2 ev2 => ?_)
  refine V2_callS [.int i, .int (0 : Int32), .int v2] d_R_body_8 rfl rfl lk_R_51 mo_R_in (Nat.le_of_ble_eq_true rfl) (Nat.le_of_ble_eq_true rfl) ?_
  refine c_R_in ?_
  refine V2_topi (fun v3 ev3 => ?_)
  refine V2_if_eq (tgt := 23) d_R_body_11 rfl (fun c4 => ?_) (fun c4 => ?_)
  · refine V2_aload_n (i := 0) d_R_body_23 rfl rfl ?_
    refine V2_iconst (v := 2) d_R_body_24 rfl ?_
    refine V2_callV [.int (2 : Int32)] d_R_body_25 rfl rfl lk_R_55 mo_R_error (by decide) rfl rfl rfl (Nat.le_of_ble_eq_true rfl) (Nat.le_of_ble_eq_true rfl) ?_
    refine c_R_error2 ?_
    refine V2_topi (fun v5 ev5 => ?_)
    refine V2_ireturn d_R_body_28 rfl ?_
    have hb0 : ¬ (0 ≤ i.toInt ∧ i.toInt < (F0 65 15).toInt) := (by (try clear hQ); (try subst ev5 ev3 ev2 ev1); ((try simp only [xb_eq, xb_ne, Int32.lt_iff_toInt_lt, Int32.le_iff_toInt_le] at *) <;> (try simp only [← Int32.toInt_inj, true_and, false_and, or_false, false_or, or_true, true_or, and_true, and_false] at *) <;> omega))
    have e : k_body F0 i = (-1000000000 - 2, errF F0 2) := if_neg hb0
    rw [e] at hQ hM
    subst ev5 ev3 ev2 ev1
    exact xQi (hQ _ (rel_err hR hM)) rfl rfl
  · obtain ⟨p, hp, epp⟩ := in_of (x := i) (P := T) (by (try clear hQ); (try subst ev3 ev2 ev1); ((try simp only [xb_eq, xb_ne, Int32.lt_iff_toInt_lt, Int32.le_iff_toInt_le] at *) <;> (try simp only [← Int32.toInt_inj, true_and, false_and, or_false, false_or, or_true, true_or, and_true, and_false] at *) <;> omega)) (by (try clear hQ); (try subst ev3 ev2 ev1); ((try simp only [xb_eq, xb_ne, Int32.lt_iff_toInt_lt, Int32.le_iff_toInt_le] at *) <;> (try simp only [← Int32.toInt_inj, true_and, false_and, or_false, false_or, or_true, true_or, and_true, and_false] at *) <;> omega)) (by omega)
    subst epp
    have np : (nI p).toInt = (p : Int) := nI_toInt (by omega)
    have kp : (nI p).toNatClampNeg = p := nI_clamp (by omega)
    refine V2_aload_n (i := 0) d_R_body_14 rfl rfl ?_
    refine V2_getr (a := 73) d_R_body_15 fl_R_35 (by decide) rfl (by decide) rfl ?_
    refine V2_iload_n (i := 1) d_R_body_18 rfl rfl ?_
    refine V2_ialoadJ (p) d_R_body_19 (by decide) rfl (xixA (n := p) rfl (by omega) (by decide)) (xixB (n := p) rfl (by omega)) rfl ?_
    refine V2_topi (fun v6 ev6 => ?_)
    refine V2_goto (tgt := 28) d_R_body_20 rfl ?_
    refine V2_ireturn d_R_body_28 rfl ?_
    have hb0 : 0 ≤ (nI p).toInt ∧ (nI p).toInt < (F0 65 15).toInt := (by (try clear hQ); (try subst ev6 ev3 ev2 ev1); ((try simp only [xb_eq, xb_ne, Int32.lt_iff_toInt_lt, Int32.le_iff_toInt_le] at *) <;> (try simp only [← Int32.toInt_inj, true_and, false_and, or_false, false_or, or_true, true_or, and_true, and_false] at *) <;> omega))
    have e : k_body F0 (nI p) = (F0 73 p, F0) := (if_pos hb0).trans (by rw [kp])
    rw [e] at hQ hM
    subst ev6 ev3 ev2 ev1
    exact xQi (hQ _ (rel_same hR hM)) (congrFun (hM.1 73 (by decide)) _) rfl
/-- 24 numbers of 0 from a place on -/
def cutB (r : Nat → Int32) (a k : Nat) : Nat → Int32 := fun j => if a ≤ j ∧ j < a + k then 0 else r j
theorem cutB_upd {r : Nat → Int32} {a k : Nat} : upd (cutB r a k) (a + k) 0 = cutB r a (k + 1) := by
  funext j
  unfold upd cutB
  by_cases h1 : j = a + k
  · subst h1
    rw [if_pos rfl, if_pos (by omega)]
  · rw [if_neg h1]
    by_cases h2 : a ≤ j ∧ j < a + k
    · rw [if_pos h2, if_pos (by omega)]
    · rw [if_neg h2, if_neg (by omega)]
def sheetG (F : xF) (t : Nat) (b n : Int32) : xF := xrw (xp (xp F 74 t b) 75 t n) 76 (cutB (F 76) (24 * t) 24)
theorem sheetG_o {F : xF} {t : Nat} {b n : Int32} : ∀ k, ¬ k = 74 → ¬ k = 75 → ¬ k = 76 → sheetG F t b n k = F k := fun k a b c => (xrw_ne c).trans ((xp_row_ne b).trans (xp_row_ne a))
theorem sheetG_74 {F : xF} {t u : Nat} {b n : Int32} : sheetG F t b n 74 u = if u = t then b else F 74 u := by
  unfold sheetG
  rw [xrw_ne (by decide), xp_row_ne (show ¬ 74 = 75 by decide), xp_at]
  rfl
theorem sheetG_75 {F : xF} {t u : Nat} {b n : Int32} : sheetG F t b n 75 u = if u = t then n else F 75 u := by
  unfold sheetG
  rw [xrw_ne (by decide), xp_at, xp_row_ne (show ¬ 75 = 74 by decide)]
  rfl
theorem sheetG_76 {F : xF} {t : Nat} {b n : Int32} : sheetG F t b n 76 = cutB (F 76) (24 * t) 24 := by
  unfold sheetG
  rw [xrw_same]
theorem mid_sheetG {F F1 : xF} {t n : Nat} {b : Int32} (h : Rel F) (ht : t < 4) (hn : n ≤ 24) (hF : ∀ k, ¬ k = 57 + 2 * t → ¬ k = 58 + 2 * t → F1 k = F k) (h1 : F1 (57 + 2 * t) 1 = b) (h2 : F1 (57 + 2 * t) 2 = nI n) (h3 : ∀ i, i < n → F1 (58 + 2 * t) i = 0) : Mid F F1 (sheetG F t b (nI n)) := by
  refine mid_sheet h ht hF sheetG_o ⟨?_, ?_, fun i hi => ?_⟩ (fun u hu e => ⟨?_, ?_, fun i hi => ?_⟩)
  · rw [sheetG_74, if_pos rfl]
    exact h1
  · rw [sheetG_75, if_pos rfl]
    exact h2
  · rw [sheetG_75, if_pos rfl, nI_clamp (by omega)] at hi
    rw [h3 i hi, sheetG_76]
    unfold cutB
    rw [if_pos (by omega)]
    exact eq_0 _
  · rw [sheetG_74, if_neg e]
  · rw [sheetG_75, if_neg e]
  · rw [sheetG_76]
    unfold cutB
    rw [if_neg (by omega)]
theorem rel_sheetG {F0 F : xF} {t n : Nat} {b : Int32} (h : Rel F0) (ht : t < 4) (hn : n ≤ 24) (hb : b = 0 ∨ b = 8 ∨ b = 16 ∨ b = 32) (hM : Mid F0 F (sheetG F0 t b (nI n))) : Rel (sheetG F t b (nI n)) := by
  refine rel_sheet h ht hM (fun k hk => sheetG_o k (by omega) (by omega) (by omega)) (fun k hk => ?_) sheetG_o ⟨?_, n, hn, ?_⟩ (fun u hu e => ⟨?_, ?_⟩)
  · unfold sheetG
    rw [hM.1 76 (by decide)]
    exact xrw_on (xp_on (xp_on hM.1)) k hk
  · rw [sheetG_74, if_pos rfl]
    exact hb
  · rw [sheetG_75, if_pos rfl]
  · rw [sheetG_74, if_neg e]
  · rw [sheetG_75, if_neg e]
def k_sheet (F : xF) (sh b n : Int32) : Int32 × xF :=
  if (0 ≤ sh.toInt ∧ sh.toInt < 4) ∧ (b.toInt = 0 ∨ b.toInt = 8 ∨ b.toInt = 16 ∨ b.toInt = 32) then (if b.toInt = 0 then (1, sheetG F sh.toNatClampNeg 0 (nI 0)) else if n.toInt < 0 then (-1000000000 - 3, errF F 3) else if 24 < n.toInt then (-1000000000 - 1, errF F 1) else (1, sheetG F sh.toNatClampNeg b n)) else (-1000000000 - 1, errF F 1)
theorem c_Sheet_begins_loop {L : Nat} {xs : Nat → Int32} {d : Nat} {Q : Option Value → xF → Prop} {F : xF} {t m : Nat} {b n : Int32} (ht : t < 4) (hm : m ≤ 24) (e2 : F (57 + 2 * t) 2 = nI m) (hQ : Q none (xrw F (58 + 2 * t) (cutB (F (58 + 2 * t)) 0 m))) : ∀ (n_ : Nat) (k : Nat), k ≤ m → m < n_ + k → V2 L xs (d + 1) m_Sheet_begins 24 [some (.ref (57 + 2 * t)), some (.int b), some (.int n), some (.int (nI k))] [] (xrw F (58 + 2 * t) (cutB (F (58 + 2 * t)) 0 k)) Q := by
  intro n_
  induction n_ with
  | zero => exact fun k h1 h2 => absurd h2 (by omega)
  | succ n_ ih =>
    intro k h1 h2
    refine V2_iload_n (i := 3) d_Sheet_begins_24 rfl rfl ?_
    refine V2_aload_n (i := 0) d_Sheet_begins_25 rfl rfl ?_
    refine V2_get d_Sheet_begins_26 fl_Sheet_17 (by omega) (sh_k ht) (by decide) (sh_n ht (by decide)) rfl ?_
    refine V2_topi (fun v1 ev1 => ?_)
    refine V2_icmp_ge (tgt := 45) d_Sheet_begins_29 rfl (fun c2 => ?_) (fun c2 => ?_)
    · refine V2_return d_Sheet_begins_45 rfl ?_
      have hk : k = m := by
        have h9 := c2
        subst ev1
        rw [xrw_ne (by omega), e2] at h9
        exact Nat.le_antisymm h1 ((nI_leI (by omega) (by omega)).mp h9)
      subst hk
      exact hQ
    · have hk : k < m := by
        have h9 := c2
        subst ev1
        rw [xrw_ne (by omega), e2] at h9
        exact Nat.not_le.mp (fun hh => h9 ((nI_leI (by omega) (by omega)).mpr hh))
      refine V2_aload_n (i := 0) d_Sheet_begins_32 rfl rfl ?_
      refine V2_getr (a := (58 + 2 * t)) d_Sheet_begins_33 fl_Sheet_9 (by omega) (sh_k ht) (by decide) (sh_r ht) ?_
      refine V2_iload_n (i := 3) d_Sheet_begins_36 rfl rfl ?_
      refine V2_iconst (v := 0) d_Sheet_begins_37 rfl ?_
      refine V2_iastore (j := (k)) d_Sheet_begins_38 (by omega) (sh_a ht) (xixA (n := k) rfl (by omega) (by decide)) (xixB (n := k) rfl (by omega)) ?_
      obtain ⟨v3, ev3⟩ : ∃ y : Int32, y = nI k + 1 := ⟨_, rfl⟩
      refine V2_iinc (i := 3) (v := v3) (l' := [some (.ref (57 + 2 * t)), some (.int b), some (.int n), some (.int v3)]) d_Sheet_begins_39 rfl (by rw [ev3]; rfl) (xst_i (Nat.le_of_ble_eq_true rfl) rfl rfl) ?_
      refine V2_goto (tgt := 24) d_Sheet_begins_42 rfl ?_
      exact V2.to (ih (k + 1) (by omega) (by omega)) rfl (by rw [ev3, nI_1]) rfl (by subst ev3 ev1; rw [xp_xrw]; exact congrArg _ (by have := cutB_upd (r := F (58 + 2 * t)) (a := 0) (k := k); rw [Nat.zero_add] at this; exact this))
theorem c_Sheet_begins {L : Nat} {xs : Nat → Int32} {d : Nat} {Q : Option Value → xF → Prop} {F : xF} {t m : Nat} {b : Int32} (ht : t < 4) (hm : m ≤ 24) (hQ : ∀ G : xF, (∀ k, ¬ k = 57 + 2 * t → ¬ k = 58 + 2 * t → G k = F k) → G (57 + 2 * t) 1 = b → G (57 + 2 * t) 2 = nI m → (∀ i, i < m → G (58 + 2 * t) i = 0) → Q none G) : V2 L xs (d + 1) m_Sheet_begins 0 (xEntry [.ref (57 + 2 * t), .int b, .int (nI m)] 4) [] F Q := by
  refine V2.to (l' := [some (.ref (57 + 2 * t)), some (.int b), some (.int (nI m)), none]) ?_ rfl rfl rfl rfl
  refine V2_aload_n (i := 0) d_Sheet_begins_0 rfl rfl ?_
  refine V2_iload_n (i := 1) d_Sheet_begins_1 rfl rfl ?_
  refine V2_put d_Sheet_begins_2 fl_Sheet_13 (by omega) (sh_k ht) (by decide) (sh_n ht (by decide)) ?_
  refine V2_aload_n (i := 0) d_Sheet_begins_5 rfl rfl ?_
  refine V2_iconst (v := 0) d_Sheet_begins_6 rfl ?_
  refine V2_iload_n (i := 2) d_Sheet_begins_7 rfl rfl ?_
  refine V2_aload_n (i := 0) d_Sheet_begins_8 rfl rfl ?_
  refine V2_getr (a := (58 + 2 * t)) d_Sheet_begins_9 fl_Sheet_9 (by omega) (sh_k ht) (by decide) (sh_r ht) ?_
  refine V2_alen (t := 0) (v := 24) d_Sheet_begins_12 (by omega) (sh_a ht) (by decide) rfl ?_
  refine V2_mmin d_Sheet_begins_13 lz_Sheet_20 (Nat.le_of_ble_eq_true rfl) ?_
  refine V2_topi (fun v1 ev1 => ?_)
  refine V2_mmax d_Sheet_begins_16 lz_Sheet_26 (Nat.le_of_ble_eq_true rfl) ?_
  refine V2_topi (fun v2 ev2 => ?_)
  refine V2_put d_Sheet_begins_19 fl_Sheet_17 (by omega) (sh_k ht) (by decide) (sh_n ht (by decide)) ?_
  refine V2_iconst (v := 0) d_Sheet_begins_22 rfl ?_
  refine V2_istore_n (i := 3) (l' := [some (.ref (57 + 2 * t)), some (.int b), some (.int (nI m)), some (.int (0 : Int32))]) d_Sheet_begins_23 rfl (xst_i (Nat.le_of_ble_eq_true rfl) rfl rfl) ?_
  have e2 : v2 = nI m := by
    subst ev2 ev1
    rw [xmin24 hm]
    by_cases h : (0 : Int32) < nI m
    · exact if_pos h
    · rw [if_neg h]
      have q0 : (0 : Int32).toInt = 0 := by decide
      have := nI_toInt (n := m) (by omega)
      rw [toI_lt] at h
      exact Int32.toInt_inj.mp (by omega)
  refine V2.to (c_Sheet_begins_loop (F := xp (xp F (57 + 2 * t) 1 b) (57 + 2 * t) 2 (nI m)) ht hm (xp_same _ _ _ _) (hQ _ (fun k a c => (xrw_ne c).trans ((xp_row_ne a).trans (xp_row_ne a))) ?_ ?_ (fun i hi => ?_)) (m + 1) 0 (by omega) (by omega)) rfl rfl rfl ?_
  · rw [xrw_ne (by omega), xp_ne (Or.inr (by decide)), xp_same]
  · rw [xrw_ne (by omega), xp_same]
  · rw [xrw_same]
    unfold cutB
    rw [if_pos (by omega)]
  · rw [e2, show cutB (xp (xp F (57 + 2 * t) 1 b) (57 + 2 * t) 2 (nI m) (58 + 2 * t)) 0 0 = xp (xp F (57 + 2 * t) 1 b) (57 + 2 * t) 2 (nI m) (58 + 2 * t) from by funext j; unfold cutB; rw [if_neg (by omega)], xrw_self]
theorem c_cls_sheet {L : Nat} {xs : Nat → Int32} {d : Nat} {Q : Option Value → xF → Prop} {F : xF} {sh b n : Int32} (hR : Rel F) (hQ : ∀ F1, Mid F F1 (k_sheet F sh b n).2 → Q (some (.int (k_sheet F sh b n).1)) F1) : V2 L xs (d + 2) m_P_sheet 0 (xEntry [.ref 0, .int sh, .int b, .int n] 5) [] F Q := by
  have q0 : (0 : Int32).toInt = 0 := by decide
  have q1 : (1 : Int32).toInt = 1 := by decide
  have q2 : (2 : Int32).toInt = 2 := by decide
  have q3 : (3 : Int32).toInt = 3 := by decide
  have q4 : (4 : Int32).toInt = 4 := by decide
  have q5 : (5 : Int32).toInt = 5 := by decide
  have q6 : (6 : Int32).toInt = 6 := by decide
  have q7 : (7 : Int32).toInt = 7 := by decide
  have q8 : (8 : Int32).toInt = 8 := by decide
  have q9 : (9 : Int32).toInt = 9 := by decide
  have q10 : (10 : Int32).toInt = 10 := by decide
  have q12 : (12 : Int32).toInt = 12 := by decide
  have q16 : (16 : Int32).toInt = 16 := by decide
  have q20 : (20 : Int32).toInt = 20 := by decide
  have q24 : (24 : Int32).toInt = 24 := by decide
  have q30 : (30 : Int32).toInt = 30 := by decide
  have q32 : (32 : Int32).toInt = 32 := by decide
  have q40 : (40 : Int32).toInt = 40 := by decide
  have q60 : (60 : Int32).toInt = 60 := by decide
  have q69 : (69 : Int32).toInt = 69 := by decide
  have q99 : (99 : Int32).toInt = 99 := by decide
  have q9999 : (9999 : Int32).toInt = 9999 := by decide
  have q274 : (274 : Int32).toInt = 274 := by decide
  have q334 : (334 : Int32).toInt = 334 := by decide
  refine V2.to (l' := [some (.ref 0), some (.int sh), some (.int b), some (.int n), none]) ?_ rfl rfl rfl rfl
  refine V2_aload_n (i := 0) d_P_sheet_0 rfl rfl ?_
  refine V2_iload_n (i := 1) d_P_sheet_1 rfl rfl ?_
  refine V2_callV [.int sh] d_P_sheet_2 rfl rfl lk_P_268 mo_P_sheetAt (by decide) rfl rfl rfl (Nat.le_of_ble_eq_true rfl) (Nat.le_of_ble_eq_true rfl) ?_
  refine V2.to (l' := [some (.ref 0), some (.int sh)]) ?_ rfl rfl rfl rfl
  refine V2_iload_n (i := 1) d_P_sheetAt_0 rfl rfl ?_
  refine V2_if_lt (tgt := 22) d_P_sheetAt_1 rfl (fun c1 => ?_) (fun c1 => ?_)
  · refine V2_null d_P_sheetAt_22 ?_
    refine V2_areturnN d_P_sheetAt_23 rfl (Or.inl ⟨_, rfl⟩) ?_
    refine V2.to (st' := [.null]) ?_ rfl rfl rfl rfl
    refine V2_astoreN (i := 4) (l' := [some (.ref 0), some (.int sh), some (.int b), some (.int n), some (.null)]) d_P_sheet_5 (xst_i (Nat.le_of_ble_eq_true rfl) rfl rfl) ?_
    refine V2_aloadN (i := 4) d_P_sheet_7 rfl ?_
    refine V2_ifnullN (tgt := 19) d_P_sheet_9 rfl ?_
    refine V2_aload_n (i := 0) d_P_sheet_19 rfl rfl ?_
    refine V2_iconst (v := 1) d_P_sheet_20 rfl ?_
    refine V2_callV [.int (1 : Int32)] d_P_sheet_21 rfl rfl lk_P_66 mo_P_fails (by decide) rfl rfl rfl (Nat.le_of_ble_eq_true rfl) (Nat.le_of_ble_eq_true rfl) ?_
    refine c_P_fails1 ?_
    refine V2_topi (fun v2 ev2 => ?_)
    refine V2_ireturn d_P_sheet_24 rfl ?_
    have hb0 : ¬ ((0 ≤ sh.toInt ∧ sh.toInt < 4) ∧ (b.toInt = 0 ∨ b.toInt = 8 ∨ b.toInt = 16 ∨ b.toInt = 32)) := (by (try clear hQ); (try subst ev2); ((try simp only [xb_eq, xb_ne, Int32.lt_iff_toInt_lt, Int32.le_iff_toInt_le] at *) <;> (try simp only [← Int32.toInt_inj, true_and, false_and, or_false, false_or, or_true, true_or, and_true, and_false] at *) <;> omega))
    have e : k_sheet F sh b n = (-1000000000 - 1, errF F 1) := if_neg hb0
    rw [e] at hQ
    subst ev2
    exact xQi (hQ _ (mid_err hR (by decide))) rfl rfl
  · refine V2_iload_n (i := 1) d_P_sheetAt_4 rfl rfl ?_
    refine V2_aload_n (i := 0) d_P_sheetAt_5 rfl rfl ?_
    refine V2_getr (a := 55) d_P_sheetAt_6 fl_P_49 (by decide) rfl (by decide) rfl ?_
    refine V2_alen (t := 1) (v := 4) d_P_sheetAt_9 (by decide) rfl (by decide) rfl ?_
    refine V2_icmp_ge (tgt := 22) d_P_sheetAt_10 rfl (fun c3 => ?_) (fun c3 => ?_)
    · refine V2_null d_P_sheetAt_22 ?_
      refine V2_areturnN d_P_sheetAt_23 rfl (Or.inl ⟨_, rfl⟩) ?_
      refine V2.to (st' := [.null]) ?_ rfl rfl rfl rfl
      refine V2_astoreN (i := 4) (l' := [some (.ref 0), some (.int sh), some (.int b), some (.int n), some (.null)]) d_P_sheet_5 (xst_i (Nat.le_of_ble_eq_true rfl) rfl rfl) ?_
      refine V2_aloadN (i := 4) d_P_sheet_7 rfl ?_
      refine V2_ifnullN (tgt := 19) d_P_sheet_9 rfl ?_
      refine V2_aload_n (i := 0) d_P_sheet_19 rfl rfl ?_
      refine V2_iconst (v := 1) d_P_sheet_20 rfl ?_
      refine V2_callV [.int (1 : Int32)] d_P_sheet_21 rfl rfl lk_P_66 mo_P_fails (by decide) rfl rfl rfl (Nat.le_of_ble_eq_true rfl) (Nat.le_of_ble_eq_true rfl) ?_
      refine c_P_fails1 ?_
      refine V2_topi (fun v4 ev4 => ?_)
      refine V2_ireturn d_P_sheet_24 rfl ?_
      have hb0 : ¬ ((0 ≤ sh.toInt ∧ sh.toInt < 4) ∧ (b.toInt = 0 ∨ b.toInt = 8 ∨ b.toInt = 16 ∨ b.toInt = 32)) := (by (try clear hQ); (try subst ev4); ((try simp only [xb_eq, xb_ne, Int32.lt_iff_toInt_lt, Int32.le_iff_toInt_le] at *) <;> (try simp only [← Int32.toInt_inj, true_and, false_and, or_false, false_or, or_true, true_or, and_true, and_false] at *) <;> omega))
      have e : k_sheet F sh b n = (-1000000000 - 1, errF F 1) := if_neg hb0
      rw [e] at hQ
      subst ev4
      exact xQi (hQ _ (mid_err hR (by decide))) rfl rfl
    · obtain ⟨t, ht, ept⟩ := in_of (x := sh) (P := 4) (by (try clear hQ); (try skip); ((try simp only [xb_eq, xb_ne, Int32.lt_iff_toInt_lt, Int32.le_iff_toInt_le] at *) <;> (try simp only [← Int32.toInt_inj, true_and, false_and, or_false, false_or, or_true, true_or, and_true, and_false] at *) <;> omega)) (by (try clear hQ); (try skip); ((try simp only [xb_eq, xb_ne, Int32.lt_iff_toInt_lt, Int32.le_iff_toInt_le] at *) <;> (try simp only [← Int32.toInt_inj, true_and, false_and, or_false, false_or, or_true, true_or, and_true, and_false] at *) <;> omega)) (by omega)
      subst ept
      have nt : (nI t).toInt = (t : Int) := nI_toInt (by omega)
      have kt : (nI t).toNatClampNeg = t := nI_clamp (by omega)
      refine V2_aload_n (i := 0) d_P_sheetAt_13 rfl rfl ?_
      refine V2_getr (a := 55) d_P_sheetAt_14 fl_P_49 (by decide) rfl (by decide) rfl ?_
      refine V2_iload_n (i := 1) d_P_sheetAt_17 rfl rfl ?_
      refine V2_aaload (t := 0) (a := (57 + 2 * t)) d_P_sheetAt_18 (by decide) rfl (by decide) (vp_in_nI ht (by omega)) (sh_s ht) ?_
      refine V2_goto (tgt := 23) d_P_sheetAt_19 rfl ?_
      refine V2_areturn d_P_sheetAt_23 rfl (Or.inl ⟨_, rfl⟩) ?_
      refine V2.to (st' := [.ref (57 + 2 * t)]) ?_ rfl rfl rfl rfl
      refine V2_astore (i := 4) (l' := [some (.ref 0), some (.int (nI t)), some (.int b), some (.int n), some (.ref (57 + 2 * t))]) d_P_sheet_5 (xst_i (Nat.le_of_ble_eq_true rfl) rfl rfl) ?_
      refine V2_aload (i := 4) d_P_sheet_7 rfl ?_
      refine V2_ifnull d_P_sheet_9 ?_
      refine V2_iload_n (i := 2) d_P_sheet_12 rfl rfl ?_
      refine V2_callS [.int b] d_P_sheet_13 rfl rfl lk_P_307 mo_Sheet_canHaveBits (Nat.le_of_ble_eq_true rfl) (Nat.le_of_ble_eq_true rfl) ?_
      refine V2.to (l' := [some (.int b)]) ?_ rfl rfl rfl rfl
      refine V2_iload_n (i := 0) d_Sheet_canHaveBits_0 rfl rfl ?_
      refine V2_if_eq (tgt := 22) d_Sheet_canHaveBits_1 rfl (fun c5 => ?_) (fun c5 => ?_)
      · refine V2_iconst (v := 1) d_Sheet_canHaveBits_22 rfl ?_
        refine V2_goto (tgt := 27) d_Sheet_canHaveBits_23 rfl ?_
        refine V2_zreturn d_Sheet_canHaveBits_27 rfl (by decide) ?_
        refine V2.to (st' := [.int (1 : Int32)]) ?_ rfl rfl rfl rfl
        refine V2_if_ne (tgt := 25) d_P_sheet_16 rfl (fun _ => ?_) (fun c => (by first | exact absurd c (by decide) | exact absurd (by decide) c))
        refine V2_iload_n (i := 2) d_P_sheet_25 rfl rfl ?_
        refine V2_if_ne (tgt := 36) d_P_sheet_26 rfl (fun c6 => ?_) (fun c6 => ?_)
        · refine V2_iload_n (i := 3) d_P_sheet_36 rfl rfl ?_
          refine V2_if_ge (tgt := 46) d_P_sheet_37 rfl (fun c7 => ?_) (fun c7 => ?_)
          · refine V2_iload_n (i := 3) d_P_sheet_46 rfl rfl ?_
            refine V2_bipush (v := 24) d_P_sheet_47 rfl ?_
            refine V2_icmp_le (tgt := 58) d_P_sheet_49 rfl (fun c8 => ?_) (fun c8 => ?_)
            · obtain ⟨m, hm, epm⟩ := in_of (x := n) (P := 25) (by (try clear hQ); (try skip); ((try simp only [xb_eq, xb_ne, Int32.lt_iff_toInt_lt, Int32.le_iff_toInt_le] at *) <;> (try simp only [← Int32.toInt_inj, true_and, false_and, or_false, false_or, or_true, true_or, and_true, and_false] at *) <;> omega)) (by (try clear hQ); (try skip); ((try simp only [xb_eq, xb_ne, Int32.lt_iff_toInt_lt, Int32.le_iff_toInt_le] at *) <;> (try simp only [← Int32.toInt_inj, true_and, false_and, or_false, false_or, or_true, true_or, and_true, and_false] at *) <;> omega)) (by omega)
              subst epm
              have nm : (nI m).toInt = (m : Int) := nI_toInt (by omega)
              have km : (nI m).toNatClampNeg = m := nI_clamp (by omega)
              refine V2_aload (i := 4) d_P_sheet_58 rfl ?_
              refine V2_iload_n (i := 2) d_P_sheet_60 rfl rfl ?_
              refine V2_iload_n (i := 3) d_P_sheet_61 rfl rfl ?_
              refine V2_callV [.int b, .int (nI m)] d_P_sheet_62 rfl rfl lk_P_313 mo_Sheet_begins (by omega) (sh_k1 ht) rfl rfl (Nat.le_of_ble_eq_true rfl) (Nat.le_of_ble_eq_true rfl) ?_
              refine c_Sheet_begins (t := t) (m := m) ht (by omega) (fun G g1 g2 g3 g4 => ?_)
              refine V2_iconst (v := 1) d_P_sheet_65 rfl ?_
              refine V2_ireturn d_P_sheet_66 rfl ?_
              have hb0 : (0 ≤ (nI t).toInt ∧ (nI t).toInt < 4) ∧ (b.toInt = 0 ∨ b.toInt = 8 ∨ b.toInt = 16 ∨ b.toInt = 32) := (by (try clear hQ); (try skip); ((try simp only [xb_eq, xb_ne, Int32.lt_iff_toInt_lt, Int32.le_iff_toInt_le] at *) <;> (try simp only [← Int32.toInt_inj, true_and, false_and, or_false, false_or, or_true, true_or, and_true, and_false] at *) <;> omega))
              have hb1 : ¬ (b.toInt = 0) := (by (try clear hQ); (try skip); ((try simp only [xb_eq, xb_ne, Int32.lt_iff_toInt_lt, Int32.le_iff_toInt_le] at *) <;> (try simp only [← Int32.toInt_inj, true_and, false_and, or_false, false_or, or_true, true_or, and_true, and_false] at *) <;> omega))
              have hb2 : ¬ ((nI m).toInt < 0) := (by (try clear hQ); (try skip); ((try simp only [xb_eq, xb_ne, Int32.lt_iff_toInt_lt, Int32.le_iff_toInt_le] at *) <;> (try simp only [← Int32.toInt_inj, true_and, false_and, or_false, false_or, or_true, true_or, and_true, and_false] at *) <;> omega))
              have hb3 : ¬ (24 < (nI m).toInt) := (by (try clear hQ); (try skip); ((try simp only [xb_eq, xb_ne, Int32.lt_iff_toInt_lt, Int32.le_iff_toInt_le] at *) <;> (try simp only [← Int32.toInt_inj, true_and, false_and, or_false, false_or, or_true, true_or, and_true, and_false] at *) <;> omega))
              have e : k_sheet F (nI t) b (nI m) = (1, sheetG F t b (nI m)) := (if_pos hb0).trans ((if_neg hb1).trans ((if_neg hb2).trans ((if_neg hb3).trans (by rw [kt]))))
              rw [e] at hQ
              skip
              exact xQi (hQ _ (mid_sheetG hR ht (by omega) g1 g2 g3 g4)) rfl rfl
            · refine V2_aload_n (i := 0) d_P_sheet_52 rfl rfl ?_
              refine V2_iconst (v := 1) d_P_sheet_53 rfl ?_
              refine V2_callV [.int (1 : Int32)] d_P_sheet_54 rfl rfl lk_P_66 mo_P_fails (by decide) rfl rfl rfl (Nat.le_of_ble_eq_true rfl) (Nat.le_of_ble_eq_true rfl) ?_
              refine c_P_fails1 ?_
              refine V2_topi (fun v9 ev9 => ?_)
              refine V2_ireturn d_P_sheet_57 rfl ?_
              have hb0 : (0 ≤ (nI t).toInt ∧ (nI t).toInt < 4) ∧ (b.toInt = 0 ∨ b.toInt = 8 ∨ b.toInt = 16 ∨ b.toInt = 32) := (by (try clear hQ); (try subst ev9); ((try simp only [xb_eq, xb_ne, Int32.lt_iff_toInt_lt, Int32.le_iff_toInt_le] at *) <;> (try simp only [← Int32.toInt_inj, true_and, false_and, or_false, false_or, or_true, true_or, and_true, and_false] at *) <;> omega))
              have hb1 : ¬ (b.toInt = 0) := (by (try clear hQ); (try subst ev9); ((try simp only [xb_eq, xb_ne, Int32.lt_iff_toInt_lt, Int32.le_iff_toInt_le] at *) <;> (try simp only [← Int32.toInt_inj, true_and, false_and, or_false, false_or, or_true, true_or, and_true, and_false] at *) <;> omega))
              have hb2 : ¬ (n.toInt < 0) := (by (try clear hQ); (try subst ev9); ((try simp only [xb_eq, xb_ne, Int32.lt_iff_toInt_lt, Int32.le_iff_toInt_le] at *) <;> (try simp only [← Int32.toInt_inj, true_and, false_and, or_false, false_or, or_true, true_or, and_true, and_false] at *) <;> omega))
              have hb3 : 24 < n.toInt := (by (try clear hQ); (try subst ev9); ((try simp only [xb_eq, xb_ne, Int32.lt_iff_toInt_lt, Int32.le_iff_toInt_le] at *) <;> (try simp only [← Int32.toInt_inj, true_and, false_and, or_false, false_or, or_true, true_or, and_true, and_false] at *) <;> omega))
              have e : k_sheet F (nI t) b n = (-1000000000 - 1, errF F 1) := (if_pos hb0).trans ((if_neg hb1).trans ((if_neg hb2).trans (if_pos hb3)))
              rw [e] at hQ
              subst ev9
              exact xQi (hQ _ (mid_err hR (by decide))) rfl rfl
          · refine V2_aload_n (i := 0) d_P_sheet_40 rfl rfl ?_
            refine V2_iconst (v := 3) d_P_sheet_41 rfl ?_
            refine V2_callV [.int (3 : Int32)] d_P_sheet_42 rfl rfl lk_P_66 mo_P_fails (by decide) rfl rfl rfl (Nat.le_of_ble_eq_true rfl) (Nat.le_of_ble_eq_true rfl) ?_
            refine c_P_fails3 ?_
            refine V2_topi (fun v10 ev10 => ?_)
            refine V2_ireturn d_P_sheet_45 rfl ?_
            have hb0 : (0 ≤ (nI t).toInt ∧ (nI t).toInt < 4) ∧ (b.toInt = 0 ∨ b.toInt = 8 ∨ b.toInt = 16 ∨ b.toInt = 32) := (by (try clear hQ); (try subst ev10); ((try simp only [xb_eq, xb_ne, Int32.lt_iff_toInt_lt, Int32.le_iff_toInt_le] at *) <;> (try simp only [← Int32.toInt_inj, true_and, false_and, or_false, false_or, or_true, true_or, and_true, and_false] at *) <;> omega))
            have hb1 : ¬ (b.toInt = 0) := (by (try clear hQ); (try subst ev10); ((try simp only [xb_eq, xb_ne, Int32.lt_iff_toInt_lt, Int32.le_iff_toInt_le] at *) <;> (try simp only [← Int32.toInt_inj, true_and, false_and, or_false, false_or, or_true, true_or, and_true, and_false] at *) <;> omega))
            have hb2 : n.toInt < 0 := (by (try clear hQ); (try subst ev10); ((try simp only [xb_eq, xb_ne, Int32.lt_iff_toInt_lt, Int32.le_iff_toInt_le] at *) <;> (try simp only [← Int32.toInt_inj, true_and, false_and, or_false, false_or, or_true, true_or, and_true, and_false] at *) <;> omega))
            have e : k_sheet F (nI t) b n = (-1000000000 - 3, errF F 3) := (if_pos hb0).trans ((if_neg hb1).trans (if_pos hb2))
            rw [e] at hQ
            subst ev10
            exact xQi (hQ _ (mid_err hR (by decide))) rfl rfl
        · refine V2_aload (i := 4) d_P_sheet_29 rfl ?_
          refine V2_callV [] d_P_sheet_31 rfl rfl lk_P_310 mo_Sheet_goesMissing (by omega) (sh_k1 ht) rfl rfl (Nat.le_of_ble_eq_true rfl) (Nat.le_of_ble_eq_true rfl) ?_
          refine V2.to (l' := [some (.ref (57 + 2 * t))]) ?_ rfl rfl rfl rfl
          refine V2_aload_n (i := 0) d_Sheet_goesMissing_0 rfl rfl ?_
          refine V2_iconst (v := 0) d_Sheet_goesMissing_1 rfl ?_
          refine V2_put d_Sheet_goesMissing_2 fl_Sheet_13 (by omega) (sh_k ht) (by decide) (sh_n ht (by decide)) ?_
          refine V2_aload_n (i := 0) d_Sheet_goesMissing_5 rfl rfl ?_
          refine V2_iconst (v := 0) d_Sheet_goesMissing_6 rfl ?_
          refine V2_put d_Sheet_goesMissing_7 fl_Sheet_17 (by omega) (sh_k ht) (by decide) (sh_n ht (by decide)) ?_
          refine V2_return d_Sheet_goesMissing_10 rfl ?_
          refine V2.to (st' := []) ?_ rfl rfl rfl rfl
          refine V2_iconst (v := 1) d_P_sheet_34 rfl ?_
          refine V2_ireturn d_P_sheet_35 rfl ?_
          have hb0 : (0 ≤ (nI t).toInt ∧ (nI t).toInt < 4) ∧ (b.toInt = 0 ∨ b.toInt = 8 ∨ b.toInt = 16 ∨ b.toInt = 32) := (by (try clear hQ); (try skip); ((try simp only [xb_eq, xb_ne, Int32.lt_iff_toInt_lt, Int32.le_iff_toInt_le] at *) <;> (try simp only [← Int32.toInt_inj, true_and, false_and, or_false, false_or, or_true, true_or, and_true, and_false] at *) <;> omega))
          have hb1 : b.toInt = 0 := (by (try clear hQ); (try skip); ((try simp only [xb_eq, xb_ne, Int32.lt_iff_toInt_lt, Int32.le_iff_toInt_le] at *) <;> (try simp only [← Int32.toInt_inj, true_and, false_and, or_false, false_or, or_true, true_or, and_true, and_false] at *) <;> omega))
          have e : k_sheet F (nI t) b n = (1, sheetG F t 0 (nI 0)) := (if_pos hb0).trans ((if_pos hb1).trans (by rw [kt]))
          rw [e] at hQ
          have eb : b = 0 := Int32.toInt_inj.mp (by omega)
          skip
          exact xQi (hQ _ (mid_sheetG hR ht (n := 0) (by omega) (fun k a c => (xp_row_ne a).trans (xp_row_ne a)) (by rw [xp_ne (Or.inr (by decide)), xp_same]) (by rw [xp_same]; rfl) (fun i hi => absurd hi (Nat.not_lt_zero i)))) rfl rfl
      · refine V2_iload_n (i := 0) d_Sheet_canHaveBits_4 rfl rfl ?_
        refine V2_bipush (v := 8) d_Sheet_canHaveBits_5 rfl ?_
        refine V2_icmp_eq (tgt := 22) d_Sheet_canHaveBits_7 rfl (fun c11 => ?_) (fun c11 => ?_)
        · refine V2_iconst (v := 1) d_Sheet_canHaveBits_22 rfl ?_
          refine V2_goto (tgt := 27) d_Sheet_canHaveBits_23 rfl ?_
          refine V2_zreturn d_Sheet_canHaveBits_27 rfl (by decide) ?_
          refine V2.to (st' := [.int (1 : Int32)]) ?_ rfl rfl rfl rfl
          refine V2_if_ne (tgt := 25) d_P_sheet_16 rfl (fun _ => ?_) (fun c => (by first | exact absurd c (by decide) | exact absurd (by decide) c))
          refine V2_iload_n (i := 2) d_P_sheet_25 rfl rfl ?_
          refine V2_if_ne (tgt := 36) d_P_sheet_26 rfl (fun c12 => ?_) (fun c12 => ?_)
          · refine V2_iload_n (i := 3) d_P_sheet_36 rfl rfl ?_
            refine V2_if_ge (tgt := 46) d_P_sheet_37 rfl (fun c13 => ?_) (fun c13 => ?_)
            · refine V2_iload_n (i := 3) d_P_sheet_46 rfl rfl ?_
              refine V2_bipush (v := 24) d_P_sheet_47 rfl ?_
              refine V2_icmp_le (tgt := 58) d_P_sheet_49 rfl (fun c14 => ?_) (fun c14 => ?_)
              · obtain ⟨m, hm, epm⟩ := in_of (x := n) (P := 25) (by (try clear hQ); (try skip); ((try simp only [xb_eq, xb_ne, Int32.lt_iff_toInt_lt, Int32.le_iff_toInt_le] at *) <;> (try simp only [← Int32.toInt_inj, true_and, false_and, or_false, false_or, or_true, true_or, and_true, and_false] at *) <;> omega)) (by (try clear hQ); (try skip); ((try simp only [xb_eq, xb_ne, Int32.lt_iff_toInt_lt, Int32.le_iff_toInt_le] at *) <;> (try simp only [← Int32.toInt_inj, true_and, false_and, or_false, false_or, or_true, true_or, and_true, and_false] at *) <;> omega)) (by omega)
                subst epm
                have nm : (nI m).toInt = (m : Int) := nI_toInt (by omega)
                have km : (nI m).toNatClampNeg = m := nI_clamp (by omega)
                refine V2_aload (i := 4) d_P_sheet_58 rfl ?_
                refine V2_iload_n (i := 2) d_P_sheet_60 rfl rfl ?_
                refine V2_iload_n (i := 3) d_P_sheet_61 rfl rfl ?_
                refine V2_callV [.int b, .int (nI m)] d_P_sheet_62 rfl rfl lk_P_313 mo_Sheet_begins (by omega) (sh_k1 ht) rfl rfl (Nat.le_of_ble_eq_true rfl) (Nat.le_of_ble_eq_true rfl) ?_
                refine c_Sheet_begins (t := t) (m := m) ht (by omega) (fun G g1 g2 g3 g4 => ?_)
                refine V2_iconst (v := 1) d_P_sheet_65 rfl ?_
                refine V2_ireturn d_P_sheet_66 rfl ?_
                have hb0 : (0 ≤ (nI t).toInt ∧ (nI t).toInt < 4) ∧ (b.toInt = 0 ∨ b.toInt = 8 ∨ b.toInt = 16 ∨ b.toInt = 32) := (by (try clear hQ); (try skip); ((try simp only [xb_eq, xb_ne, Int32.lt_iff_toInt_lt, Int32.le_iff_toInt_le] at *) <;> (try simp only [← Int32.toInt_inj, true_and, false_and, or_false, false_or, or_true, true_or, and_true, and_false] at *) <;> omega))
                have hb1 : ¬ (b.toInt = 0) := (by (try clear hQ); (try skip); ((try simp only [xb_eq, xb_ne, Int32.lt_iff_toInt_lt, Int32.le_iff_toInt_le] at *) <;> (try simp only [← Int32.toInt_inj, true_and, false_and, or_false, false_or, or_true, true_or, and_true, and_false] at *) <;> omega))
                have hb2 : ¬ ((nI m).toInt < 0) := (by (try clear hQ); (try skip); ((try simp only [xb_eq, xb_ne, Int32.lt_iff_toInt_lt, Int32.le_iff_toInt_le] at *) <;> (try simp only [← Int32.toInt_inj, true_and, false_and, or_false, false_or, or_true, true_or, and_true, and_false] at *) <;> omega))
                have hb3 : ¬ (24 < (nI m).toInt) := (by (try clear hQ); (try skip); ((try simp only [xb_eq, xb_ne, Int32.lt_iff_toInt_lt, Int32.le_iff_toInt_le] at *) <;> (try simp only [← Int32.toInt_inj, true_and, false_and, or_false, false_or, or_true, true_or, and_true, and_false] at *) <;> omega))
                have e : k_sheet F (nI t) b (nI m) = (1, sheetG F t b (nI m)) := (if_pos hb0).trans ((if_neg hb1).trans ((if_neg hb2).trans ((if_neg hb3).trans (by rw [kt]))))
                rw [e] at hQ
                skip
                exact xQi (hQ _ (mid_sheetG hR ht (by omega) g1 g2 g3 g4)) rfl rfl
              · refine V2_aload_n (i := 0) d_P_sheet_52 rfl rfl ?_
                refine V2_iconst (v := 1) d_P_sheet_53 rfl ?_
                refine V2_callV [.int (1 : Int32)] d_P_sheet_54 rfl rfl lk_P_66 mo_P_fails (by decide) rfl rfl rfl (Nat.le_of_ble_eq_true rfl) (Nat.le_of_ble_eq_true rfl) ?_
                refine c_P_fails1 ?_
                refine V2_topi (fun v15 ev15 => ?_)
                refine V2_ireturn d_P_sheet_57 rfl ?_
                have hb0 : (0 ≤ (nI t).toInt ∧ (nI t).toInt < 4) ∧ (b.toInt = 0 ∨ b.toInt = 8 ∨ b.toInt = 16 ∨ b.toInt = 32) := (by (try clear hQ); (try subst ev15); ((try simp only [xb_eq, xb_ne, Int32.lt_iff_toInt_lt, Int32.le_iff_toInt_le] at *) <;> (try simp only [← Int32.toInt_inj, true_and, false_and, or_false, false_or, or_true, true_or, and_true, and_false] at *) <;> omega))
                have hb1 : ¬ (b.toInt = 0) := (by (try clear hQ); (try subst ev15); ((try simp only [xb_eq, xb_ne, Int32.lt_iff_toInt_lt, Int32.le_iff_toInt_le] at *) <;> (try simp only [← Int32.toInt_inj, true_and, false_and, or_false, false_or, or_true, true_or, and_true, and_false] at *) <;> omega))
                have hb2 : ¬ (n.toInt < 0) := (by (try clear hQ); (try subst ev15); ((try simp only [xb_eq, xb_ne, Int32.lt_iff_toInt_lt, Int32.le_iff_toInt_le] at *) <;> (try simp only [← Int32.toInt_inj, true_and, false_and, or_false, false_or, or_true, true_or, and_true, and_false] at *) <;> omega))
                have hb3 : 24 < n.toInt := (by (try clear hQ); (try subst ev15); ((try simp only [xb_eq, xb_ne, Int32.lt_iff_toInt_lt, Int32.le_iff_toInt_le] at *) <;> (try simp only [← Int32.toInt_inj, true_and, false_and, or_false, false_or, or_true, true_or, and_true, and_false] at *) <;> omega))
                have e : k_sheet F (nI t) b n = (-1000000000 - 1, errF F 1) := (if_pos hb0).trans ((if_neg hb1).trans ((if_neg hb2).trans (if_pos hb3)))
                rw [e] at hQ
                subst ev15
                exact xQi (hQ _ (mid_err hR (by decide))) rfl rfl
            · refine V2_aload_n (i := 0) d_P_sheet_40 rfl rfl ?_
              refine V2_iconst (v := 3) d_P_sheet_41 rfl ?_
              refine V2_callV [.int (3 : Int32)] d_P_sheet_42 rfl rfl lk_P_66 mo_P_fails (by decide) rfl rfl rfl (Nat.le_of_ble_eq_true rfl) (Nat.le_of_ble_eq_true rfl) ?_
              refine c_P_fails3 ?_
              refine V2_topi (fun v16 ev16 => ?_)
              refine V2_ireturn d_P_sheet_45 rfl ?_
              have hb0 : (0 ≤ (nI t).toInt ∧ (nI t).toInt < 4) ∧ (b.toInt = 0 ∨ b.toInt = 8 ∨ b.toInt = 16 ∨ b.toInt = 32) := (by (try clear hQ); (try subst ev16); ((try simp only [xb_eq, xb_ne, Int32.lt_iff_toInt_lt, Int32.le_iff_toInt_le] at *) <;> (try simp only [← Int32.toInt_inj, true_and, false_and, or_false, false_or, or_true, true_or, and_true, and_false] at *) <;> omega))
              have hb1 : ¬ (b.toInt = 0) := (by (try clear hQ); (try subst ev16); ((try simp only [xb_eq, xb_ne, Int32.lt_iff_toInt_lt, Int32.le_iff_toInt_le] at *) <;> (try simp only [← Int32.toInt_inj, true_and, false_and, or_false, false_or, or_true, true_or, and_true, and_false] at *) <;> omega))
              have hb2 : n.toInt < 0 := (by (try clear hQ); (try subst ev16); ((try simp only [xb_eq, xb_ne, Int32.lt_iff_toInt_lt, Int32.le_iff_toInt_le] at *) <;> (try simp only [← Int32.toInt_inj, true_and, false_and, or_false, false_or, or_true, true_or, and_true, and_false] at *) <;> omega))
              have e : k_sheet F (nI t) b n = (-1000000000 - 3, errF F 3) := (if_pos hb0).trans ((if_neg hb1).trans (if_pos hb2))
              rw [e] at hQ
              subst ev16
              exact xQi (hQ _ (mid_err hR (by decide))) rfl rfl
          · refine V2_aload (i := 4) d_P_sheet_29 rfl ?_
            refine V2_callV [] d_P_sheet_31 rfl rfl lk_P_310 mo_Sheet_goesMissing (by omega) (sh_k1 ht) rfl rfl (Nat.le_of_ble_eq_true rfl) (Nat.le_of_ble_eq_true rfl) ?_
            refine V2.to (l' := [some (.ref (57 + 2 * t))]) ?_ rfl rfl rfl rfl
            refine V2_aload_n (i := 0) d_Sheet_goesMissing_0 rfl rfl ?_
            refine V2_iconst (v := 0) d_Sheet_goesMissing_1 rfl ?_
            refine V2_put d_Sheet_goesMissing_2 fl_Sheet_13 (by omega) (sh_k ht) (by decide) (sh_n ht (by decide)) ?_
            refine V2_aload_n (i := 0) d_Sheet_goesMissing_5 rfl rfl ?_
            refine V2_iconst (v := 0) d_Sheet_goesMissing_6 rfl ?_
            refine V2_put d_Sheet_goesMissing_7 fl_Sheet_17 (by omega) (sh_k ht) (by decide) (sh_n ht (by decide)) ?_
            refine V2_return d_Sheet_goesMissing_10 rfl ?_
            refine V2.to (st' := []) ?_ rfl rfl rfl rfl
            refine V2_iconst (v := 1) d_P_sheet_34 rfl ?_
            refine V2_ireturn d_P_sheet_35 rfl ?_
            have hb0 : (0 ≤ (nI t).toInt ∧ (nI t).toInt < 4) ∧ (b.toInt = 0 ∨ b.toInt = 8 ∨ b.toInt = 16 ∨ b.toInt = 32) := (by (try clear hQ); (try skip); ((try simp only [xb_eq, xb_ne, Int32.lt_iff_toInt_lt, Int32.le_iff_toInt_le] at *) <;> (try simp only [← Int32.toInt_inj, true_and, false_and, or_false, false_or, or_true, true_or, and_true, and_false] at *) <;> omega))
            have hb1 : b.toInt = 0 := (by (try clear hQ); (try skip); ((try simp only [xb_eq, xb_ne, Int32.lt_iff_toInt_lt, Int32.le_iff_toInt_le] at *) <;> (try simp only [← Int32.toInt_inj, true_and, false_and, or_false, false_or, or_true, true_or, and_true, and_false] at *) <;> omega))
            have e : k_sheet F (nI t) b n = (1, sheetG F t 0 (nI 0)) := (if_pos hb0).trans ((if_pos hb1).trans (by rw [kt]))
            rw [e] at hQ
            have eb : b = 0 := Int32.toInt_inj.mp (by omega)
            skip
            exact xQi (hQ _ (mid_sheetG hR ht (n := 0) (by omega) (fun k a c => (xp_row_ne a).trans (xp_row_ne a)) (by rw [xp_ne (Or.inr (by decide)), xp_same]) (by rw [xp_same]; rfl) (fun i hi => absurd hi (Nat.not_lt_zero i)))) rfl rfl
        · refine V2_iload_n (i := 0) d_Sheet_canHaveBits_10 rfl rfl ?_
          refine V2_bipush (v := 16) d_Sheet_canHaveBits_11 rfl ?_
          refine V2_icmp_eq (tgt := 22) d_Sheet_canHaveBits_13 rfl (fun c17 => ?_) (fun c17 => ?_)
          · refine V2_iconst (v := 1) d_Sheet_canHaveBits_22 rfl ?_
            refine V2_goto (tgt := 27) d_Sheet_canHaveBits_23 rfl ?_
            refine V2_zreturn d_Sheet_canHaveBits_27 rfl (by decide) ?_
            refine V2.to (st' := [.int (1 : Int32)]) ?_ rfl rfl rfl rfl
            refine V2_if_ne (tgt := 25) d_P_sheet_16 rfl (fun _ => ?_) (fun c => (by first | exact absurd c (by decide) | exact absurd (by decide) c))
            refine V2_iload_n (i := 2) d_P_sheet_25 rfl rfl ?_
            refine V2_if_ne (tgt := 36) d_P_sheet_26 rfl (fun c18 => ?_) (fun c18 => ?_)
            · refine V2_iload_n (i := 3) d_P_sheet_36 rfl rfl ?_
              refine V2_if_ge (tgt := 46) d_P_sheet_37 rfl (fun c19 => ?_) (fun c19 => ?_)
              · refine V2_iload_n (i := 3) d_P_sheet_46 rfl rfl ?_
                refine V2_bipush (v := 24) d_P_sheet_47 rfl ?_
                refine V2_icmp_le (tgt := 58) d_P_sheet_49 rfl (fun c20 => ?_) (fun c20 => ?_)
                · obtain ⟨m, hm, epm⟩ := in_of (x := n) (P := 25) (by (try clear hQ); (try skip); ((try simp only [xb_eq, xb_ne, Int32.lt_iff_toInt_lt, Int32.le_iff_toInt_le] at *) <;> (try simp only [← Int32.toInt_inj, true_and, false_and, or_false, false_or, or_true, true_or, and_true, and_false] at *) <;> omega)) (by (try clear hQ); (try skip); ((try simp only [xb_eq, xb_ne, Int32.lt_iff_toInt_lt, Int32.le_iff_toInt_le] at *) <;> (try simp only [← Int32.toInt_inj, true_and, false_and, or_false, false_or, or_true, true_or, and_true, and_false] at *) <;> omega)) (by omega)
                  subst epm
                  have nm : (nI m).toInt = (m : Int) := nI_toInt (by omega)
                  have km : (nI m).toNatClampNeg = m := nI_clamp (by omega)
                  refine V2_aload (i := 4) d_P_sheet_58 rfl ?_
                  refine V2_iload_n (i := 2) d_P_sheet_60 rfl rfl ?_
                  refine V2_iload_n (i := 3) d_P_sheet_61 rfl rfl ?_
                  refine V2_callV [.int b, .int (nI m)] d_P_sheet_62 rfl rfl lk_P_313 mo_Sheet_begins (by omega) (sh_k1 ht) rfl rfl (Nat.le_of_ble_eq_true rfl) (Nat.le_of_ble_eq_true rfl) ?_
                  refine c_Sheet_begins (t := t) (m := m) ht (by omega) (fun G g1 g2 g3 g4 => ?_)
                  refine V2_iconst (v := 1) d_P_sheet_65 rfl ?_
                  refine V2_ireturn d_P_sheet_66 rfl ?_
                  have hb0 : (0 ≤ (nI t).toInt ∧ (nI t).toInt < 4) ∧ (b.toInt = 0 ∨ b.toInt = 8 ∨ b.toInt = 16 ∨ b.toInt = 32) := (by (try clear hQ); (try skip); ((try simp only [xb_eq, xb_ne, Int32.lt_iff_toInt_lt, Int32.le_iff_toInt_le] at *) <;> (try simp only [← Int32.toInt_inj, true_and, false_and, or_false, false_or, or_true, true_or, and_true, and_false] at *) <;> omega))
                  have hb1 : ¬ (b.toInt = 0) := (by (try clear hQ); (try skip); ((try simp only [xb_eq, xb_ne, Int32.lt_iff_toInt_lt, Int32.le_iff_toInt_le] at *) <;> (try simp only [← Int32.toInt_inj, true_and, false_and, or_false, false_or, or_true, true_or, and_true, and_false] at *) <;> omega))
                  have hb2 : ¬ ((nI m).toInt < 0) := (by (try clear hQ); (try skip); ((try simp only [xb_eq, xb_ne, Int32.lt_iff_toInt_lt, Int32.le_iff_toInt_le] at *) <;> (try simp only [← Int32.toInt_inj, true_and, false_and, or_false, false_or, or_true, true_or, and_true, and_false] at *) <;> omega))
                  have hb3 : ¬ (24 < (nI m).toInt) := (by (try clear hQ); (try skip); ((try simp only [xb_eq, xb_ne, Int32.lt_iff_toInt_lt, Int32.le_iff_toInt_le] at *) <;> (try simp only [← Int32.toInt_inj, true_and, false_and, or_false, false_or, or_true, true_or, and_true, and_false] at *) <;> omega))
                  have e : k_sheet F (nI t) b (nI m) = (1, sheetG F t b (nI m)) := (if_pos hb0).trans ((if_neg hb1).trans ((if_neg hb2).trans ((if_neg hb3).trans (by rw [kt]))))
                  rw [e] at hQ
                  skip
                  exact xQi (hQ _ (mid_sheetG hR ht (by omega) g1 g2 g3 g4)) rfl rfl
                · refine V2_aload_n (i := 0) d_P_sheet_52 rfl rfl ?_
                  refine V2_iconst (v := 1) d_P_sheet_53 rfl ?_
                  refine V2_callV [.int (1 : Int32)] d_P_sheet_54 rfl rfl lk_P_66 mo_P_fails (by decide) rfl rfl rfl (Nat.le_of_ble_eq_true rfl) (Nat.le_of_ble_eq_true rfl) ?_
                  refine c_P_fails1 ?_
                  refine V2_topi (fun v21 ev21 => ?_)
                  refine V2_ireturn d_P_sheet_57 rfl ?_
                  have hb0 : (0 ≤ (nI t).toInt ∧ (nI t).toInt < 4) ∧ (b.toInt = 0 ∨ b.toInt = 8 ∨ b.toInt = 16 ∨ b.toInt = 32) := (by (try clear hQ); (try subst ev21); ((try simp only [xb_eq, xb_ne, Int32.lt_iff_toInt_lt, Int32.le_iff_toInt_le] at *) <;> (try simp only [← Int32.toInt_inj, true_and, false_and, or_false, false_or, or_true, true_or, and_true, and_false] at *) <;> omega))
                  have hb1 : ¬ (b.toInt = 0) := (by (try clear hQ); (try subst ev21); ((try simp only [xb_eq, xb_ne, Int32.lt_iff_toInt_lt, Int32.le_iff_toInt_le] at *) <;> (try simp only [← Int32.toInt_inj, true_and, false_and, or_false, false_or, or_true, true_or, and_true, and_false] at *) <;> omega))
                  have hb2 : ¬ (n.toInt < 0) := (by (try clear hQ); (try subst ev21); ((try simp only [xb_eq, xb_ne, Int32.lt_iff_toInt_lt, Int32.le_iff_toInt_le] at *) <;> (try simp only [← Int32.toInt_inj, true_and, false_and, or_false, false_or, or_true, true_or, and_true, and_false] at *) <;> omega))
                  have hb3 : 24 < n.toInt := (by (try clear hQ); (try subst ev21); ((try simp only [xb_eq, xb_ne, Int32.lt_iff_toInt_lt, Int32.le_iff_toInt_le] at *) <;> (try simp only [← Int32.toInt_inj, true_and, false_and, or_false, false_or, or_true, true_or, and_true, and_false] at *) <;> omega))
                  have e : k_sheet F (nI t) b n = (-1000000000 - 1, errF F 1) := (if_pos hb0).trans ((if_neg hb1).trans ((if_neg hb2).trans (if_pos hb3)))
                  rw [e] at hQ
                  subst ev21
                  exact xQi (hQ _ (mid_err hR (by decide))) rfl rfl
              · refine V2_aload_n (i := 0) d_P_sheet_40 rfl rfl ?_
                refine V2_iconst (v := 3) d_P_sheet_41 rfl ?_
                refine V2_callV [.int (3 : Int32)] d_P_sheet_42 rfl rfl lk_P_66 mo_P_fails (by decide) rfl rfl rfl (Nat.le_of_ble_eq_true rfl) (Nat.le_of_ble_eq_true rfl) ?_
                refine c_P_fails3 ?_
                refine V2_topi (fun v22 ev22 => ?_)
                refine V2_ireturn d_P_sheet_45 rfl ?_
                have hb0 : (0 ≤ (nI t).toInt ∧ (nI t).toInt < 4) ∧ (b.toInt = 0 ∨ b.toInt = 8 ∨ b.toInt = 16 ∨ b.toInt = 32) := (by (try clear hQ); (try subst ev22); ((try simp only [xb_eq, xb_ne, Int32.lt_iff_toInt_lt, Int32.le_iff_toInt_le] at *) <;> (try simp only [← Int32.toInt_inj, true_and, false_and, or_false, false_or, or_true, true_or, and_true, and_false] at *) <;> omega))
                have hb1 : ¬ (b.toInt = 0) := (by (try clear hQ); (try subst ev22); ((try simp only [xb_eq, xb_ne, Int32.lt_iff_toInt_lt, Int32.le_iff_toInt_le] at *) <;> (try simp only [← Int32.toInt_inj, true_and, false_and, or_false, false_or, or_true, true_or, and_true, and_false] at *) <;> omega))
                have hb2 : n.toInt < 0 := (by (try clear hQ); (try subst ev22); ((try simp only [xb_eq, xb_ne, Int32.lt_iff_toInt_lt, Int32.le_iff_toInt_le] at *) <;> (try simp only [← Int32.toInt_inj, true_and, false_and, or_false, false_or, or_true, true_or, and_true, and_false] at *) <;> omega))
                have e : k_sheet F (nI t) b n = (-1000000000 - 3, errF F 3) := (if_pos hb0).trans ((if_neg hb1).trans (if_pos hb2))
                rw [e] at hQ
                subst ev22
                exact xQi (hQ _ (mid_err hR (by decide))) rfl rfl
            · refine V2_aload (i := 4) d_P_sheet_29 rfl ?_
              refine V2_callV [] d_P_sheet_31 rfl rfl lk_P_310 mo_Sheet_goesMissing (by omega) (sh_k1 ht) rfl rfl (Nat.le_of_ble_eq_true rfl) (Nat.le_of_ble_eq_true rfl) ?_
              refine V2.to (l' := [some (.ref (57 + 2 * t))]) ?_ rfl rfl rfl rfl
              refine V2_aload_n (i := 0) d_Sheet_goesMissing_0 rfl rfl ?_
              refine V2_iconst (v := 0) d_Sheet_goesMissing_1 rfl ?_
              refine V2_put d_Sheet_goesMissing_2 fl_Sheet_13 (by omega) (sh_k ht) (by decide) (sh_n ht (by decide)) ?_
              refine V2_aload_n (i := 0) d_Sheet_goesMissing_5 rfl rfl ?_
              refine V2_iconst (v := 0) d_Sheet_goesMissing_6 rfl ?_
              refine V2_put d_Sheet_goesMissing_7 fl_Sheet_17 (by omega) (sh_k ht) (by decide) (sh_n ht (by decide)) ?_
              refine V2_return d_Sheet_goesMissing_10 rfl ?_
              refine V2.to (st' := []) ?_ rfl rfl rfl rfl
              refine V2_iconst (v := 1) d_P_sheet_34 rfl ?_
              refine V2_ireturn d_P_sheet_35 rfl ?_
              have hb0 : (0 ≤ (nI t).toInt ∧ (nI t).toInt < 4) ∧ (b.toInt = 0 ∨ b.toInt = 8 ∨ b.toInt = 16 ∨ b.toInt = 32) := (by (try clear hQ); (try skip); ((try simp only [xb_eq, xb_ne, Int32.lt_iff_toInt_lt, Int32.le_iff_toInt_le] at *) <;> (try simp only [← Int32.toInt_inj, true_and, false_and, or_false, false_or, or_true, true_or, and_true, and_false] at *) <;> omega))
              have hb1 : b.toInt = 0 := (by (try clear hQ); (try skip); ((try simp only [xb_eq, xb_ne, Int32.lt_iff_toInt_lt, Int32.le_iff_toInt_le] at *) <;> (try simp only [← Int32.toInt_inj, true_and, false_and, or_false, false_or, or_true, true_or, and_true, and_false] at *) <;> omega))
              have e : k_sheet F (nI t) b n = (1, sheetG F t 0 (nI 0)) := (if_pos hb0).trans ((if_pos hb1).trans (by rw [kt]))
              rw [e] at hQ
              have eb : b = 0 := Int32.toInt_inj.mp (by omega)
              skip
              exact xQi (hQ _ (mid_sheetG hR ht (n := 0) (by omega) (fun k a c => (xp_row_ne a).trans (xp_row_ne a)) (by rw [xp_ne (Or.inr (by decide)), xp_same]) (by rw [xp_same]; rfl) (fun i hi => absurd hi (Nat.not_lt_zero i)))) rfl rfl
          · refine V2_iload_n (i := 0) d_Sheet_canHaveBits_16 rfl rfl ?_
            refine V2_bipush (v := 32) d_Sheet_canHaveBits_17 rfl ?_
            refine V2_icmp_ne (tgt := 26) d_Sheet_canHaveBits_19 rfl (fun c23 => ?_) (fun c23 => ?_)
            · refine V2_iconst (v := 0) d_Sheet_canHaveBits_26 rfl ?_
              refine V2_zreturn d_Sheet_canHaveBits_27 rfl (by decide) ?_
              refine V2.to (st' := [.int (0 : Int32)]) ?_ rfl rfl rfl rfl
              refine V2_if_ne (tgt := 25) d_P_sheet_16 rfl (fun c => (by first | exact absurd c (by decide) | exact absurd (by decide) c)) (fun _ => ?_)
              refine V2_aload_n (i := 0) d_P_sheet_19 rfl rfl ?_
              refine V2_iconst (v := 1) d_P_sheet_20 rfl ?_
              refine V2_callV [.int (1 : Int32)] d_P_sheet_21 rfl rfl lk_P_66 mo_P_fails (by decide) rfl rfl rfl (Nat.le_of_ble_eq_true rfl) (Nat.le_of_ble_eq_true rfl) ?_
              refine c_P_fails1 ?_
              refine V2_topi (fun v24 ev24 => ?_)
              refine V2_ireturn d_P_sheet_24 rfl ?_
              have hb0 : ¬ ((0 ≤ (nI t).toInt ∧ (nI t).toInt < 4) ∧ (b.toInt = 0 ∨ b.toInt = 8 ∨ b.toInt = 16 ∨ b.toInt = 32)) := (by (try clear hQ); (try subst ev24); ((try simp only [xb_eq, xb_ne, Int32.lt_iff_toInt_lt, Int32.le_iff_toInt_le] at *) <;> (try simp only [← Int32.toInt_inj, true_and, false_and, or_false, false_or, or_true, true_or, and_true, and_false] at *) <;> omega))
              have e : k_sheet F (nI t) b n = (-1000000000 - 1, errF F 1) := if_neg hb0
              rw [e] at hQ
              subst ev24
              exact xQi (hQ _ (mid_err hR (by decide))) rfl rfl
            · refine V2_iconst (v := 1) d_Sheet_canHaveBits_22 rfl ?_
              refine V2_goto (tgt := 27) d_Sheet_canHaveBits_23 rfl ?_
              refine V2_zreturn d_Sheet_canHaveBits_27 rfl (by decide) ?_
              refine V2.to (st' := [.int (1 : Int32)]) ?_ rfl rfl rfl rfl
              refine V2_if_ne (tgt := 25) d_P_sheet_16 rfl (fun _ => ?_) (fun c => (by first | exact absurd c (by decide) | exact absurd (by decide) c))
              refine V2_iload_n (i := 2) d_P_sheet_25 rfl rfl ?_
              refine V2_if_ne (tgt := 36) d_P_sheet_26 rfl (fun c25 => ?_) (fun c25 => ?_)
              · refine V2_iload_n (i := 3) d_P_sheet_36 rfl rfl ?_
                refine V2_if_ge (tgt := 46) d_P_sheet_37 rfl (fun c26 => ?_) (fun c26 => ?_)
                · refine V2_iload_n (i := 3) d_P_sheet_46 rfl rfl ?_
                  refine V2_bipush (v := 24) d_P_sheet_47 rfl ?_
                  refine V2_icmp_le (tgt := 58) d_P_sheet_49 rfl (fun c27 => ?_) (fun c27 => ?_)
                  · obtain ⟨m, hm, epm⟩ := in_of (x := n) (P := 25) (by (try clear hQ); (try skip); ((try simp only [xb_eq, xb_ne, Int32.lt_iff_toInt_lt, Int32.le_iff_toInt_le] at *) <;> (try simp only [← Int32.toInt_inj, true_and, false_and, or_false, false_or, or_true, true_or, and_true, and_false] at *) <;> omega)) (by (try clear hQ); (try skip); ((try simp only [xb_eq, xb_ne, Int32.lt_iff_toInt_lt, Int32.le_iff_toInt_le] at *) <;> (try simp only [← Int32.toInt_inj, true_and, false_and, or_false, false_or, or_true, true_or, and_true, and_false] at *) <;> omega)) (by omega)
                    subst epm
                    have nm : (nI m).toInt = (m : Int) := nI_toInt (by omega)
                    have km : (nI m).toNatClampNeg = m := nI_clamp (by omega)
                    refine V2_aload (i := 4) d_P_sheet_58 rfl ?_
                    refine V2_iload_n (i := 2) d_P_sheet_60 rfl rfl ?_
                    refine V2_iload_n (i := 3) d_P_sheet_61 rfl rfl ?_
                    refine V2_callV [.int b, .int (nI m)] d_P_sheet_62 rfl rfl lk_P_313 mo_Sheet_begins (by omega) (sh_k1 ht) rfl rfl (Nat.le_of_ble_eq_true rfl) (Nat.le_of_ble_eq_true rfl) ?_
                    refine c_Sheet_begins (t := t) (m := m) ht (by omega) (fun G g1 g2 g3 g4 => ?_)
                    refine V2_iconst (v := 1) d_P_sheet_65 rfl ?_
                    refine V2_ireturn d_P_sheet_66 rfl ?_
                    have hb0 : (0 ≤ (nI t).toInt ∧ (nI t).toInt < 4) ∧ (b.toInt = 0 ∨ b.toInt = 8 ∨ b.toInt = 16 ∨ b.toInt = 32) := (by (try clear hQ); (try skip); ((try simp only [xb_eq, xb_ne, Int32.lt_iff_toInt_lt, Int32.le_iff_toInt_le] at *) <;> (try simp only [← Int32.toInt_inj, true_and, false_and, or_false, false_or, or_true, true_or, and_true, and_false] at *) <;> omega))
                    have hb1 : ¬ (b.toInt = 0) := (by (try clear hQ); (try skip); ((try simp only [xb_eq, xb_ne, Int32.lt_iff_toInt_lt, Int32.le_iff_toInt_le] at *) <;> (try simp only [← Int32.toInt_inj, true_and, false_and, or_false, false_or, or_true, true_or, and_true, and_false] at *) <;> omega))
                    have hb2 : ¬ ((nI m).toInt < 0) := (by (try clear hQ); (try skip); ((try simp only [xb_eq, xb_ne, Int32.lt_iff_toInt_lt, Int32.le_iff_toInt_le] at *) <;> (try simp only [← Int32.toInt_inj, true_and, false_and, or_false, false_or, or_true, true_or, and_true, and_false] at *) <;> omega))
                    have hb3 : ¬ (24 < (nI m).toInt) := (by (try clear hQ); (try skip); ((try simp only [xb_eq, xb_ne, Int32.lt_iff_toInt_lt, Int32.le_iff_toInt_le] at *) <;> (try simp only [← Int32.toInt_inj, true_and, false_and, or_false, false_or, or_true, true_or, and_true, and_false] at *) <;> omega))
                    have e : k_sheet F (nI t) b (nI m) = (1, sheetG F t b (nI m)) := (if_pos hb0).trans ((if_neg hb1).trans ((if_neg hb2).trans ((if_neg hb3).trans (by rw [kt]))))
                    rw [e] at hQ
                    skip
                    exact xQi (hQ _ (mid_sheetG hR ht (by omega) g1 g2 g3 g4)) rfl rfl
                  · refine V2_aload_n (i := 0) d_P_sheet_52 rfl rfl ?_
                    refine V2_iconst (v := 1) d_P_sheet_53 rfl ?_
                    refine V2_callV [.int (1 : Int32)] d_P_sheet_54 rfl rfl lk_P_66 mo_P_fails (by decide) rfl rfl rfl (Nat.le_of_ble_eq_true rfl) (Nat.le_of_ble_eq_true rfl) ?_
                    refine c_P_fails1 ?_
                    refine V2_topi (fun v28 ev28 => ?_)
                    refine V2_ireturn d_P_sheet_57 rfl ?_
                    have hb0 : (0 ≤ (nI t).toInt ∧ (nI t).toInt < 4) ∧ (b.toInt = 0 ∨ b.toInt = 8 ∨ b.toInt = 16 ∨ b.toInt = 32) := (by (try clear hQ); (try subst ev28); ((try simp only [xb_eq, xb_ne, Int32.lt_iff_toInt_lt, Int32.le_iff_toInt_le] at *) <;> (try simp only [← Int32.toInt_inj, true_and, false_and, or_false, false_or, or_true, true_or, and_true, and_false] at *) <;> omega))
                    have hb1 : ¬ (b.toInt = 0) := (by (try clear hQ); (try subst ev28); ((try simp only [xb_eq, xb_ne, Int32.lt_iff_toInt_lt, Int32.le_iff_toInt_le] at *) <;> (try simp only [← Int32.toInt_inj, true_and, false_and, or_false, false_or, or_true, true_or, and_true, and_false] at *) <;> omega))
                    have hb2 : ¬ (n.toInt < 0) := (by (try clear hQ); (try subst ev28); ((try simp only [xb_eq, xb_ne, Int32.lt_iff_toInt_lt, Int32.le_iff_toInt_le] at *) <;> (try simp only [← Int32.toInt_inj, true_and, false_and, or_false, false_or, or_true, true_or, and_true, and_false] at *) <;> omega))
                    have hb3 : 24 < n.toInt := (by (try clear hQ); (try subst ev28); ((try simp only [xb_eq, xb_ne, Int32.lt_iff_toInt_lt, Int32.le_iff_toInt_le] at *) <;> (try simp only [← Int32.toInt_inj, true_and, false_and, or_false, false_or, or_true, true_or, and_true, and_false] at *) <;> omega))
                    have e : k_sheet F (nI t) b n = (-1000000000 - 1, errF F 1) := (if_pos hb0).trans ((if_neg hb1).trans ((if_neg hb2).trans (if_pos hb3)))
                    rw [e] at hQ
                    subst ev28
                    exact xQi (hQ _ (mid_err hR (by decide))) rfl rfl
                · refine V2_aload_n (i := 0) d_P_sheet_40 rfl rfl ?_
                  refine V2_iconst (v := 3) d_P_sheet_41 rfl ?_
                  refine V2_callV [.int (3 : Int32)] d_P_sheet_42 rfl rfl lk_P_66 mo_P_fails (by decide) rfl rfl rfl (Nat.le_of_ble_eq_true rfl) (Nat.le_of_ble_eq_true rfl) ?_
                  refine c_P_fails3 ?_
                  refine V2_topi (fun v29 ev29 => ?_)
                  refine V2_ireturn d_P_sheet_45 rfl ?_
                  have hb0 : (0 ≤ (nI t).toInt ∧ (nI t).toInt < 4) ∧ (b.toInt = 0 ∨ b.toInt = 8 ∨ b.toInt = 16 ∨ b.toInt = 32) := (by (try clear hQ); (try subst ev29); ((try simp only [xb_eq, xb_ne, Int32.lt_iff_toInt_lt, Int32.le_iff_toInt_le] at *) <;> (try simp only [← Int32.toInt_inj, true_and, false_and, or_false, false_or, or_true, true_or, and_true, and_false] at *) <;> omega))
                  have hb1 : ¬ (b.toInt = 0) := (by (try clear hQ); (try subst ev29); ((try simp only [xb_eq, xb_ne, Int32.lt_iff_toInt_lt, Int32.le_iff_toInt_le] at *) <;> (try simp only [← Int32.toInt_inj, true_and, false_and, or_false, false_or, or_true, true_or, and_true, and_false] at *) <;> omega))
                  have hb2 : n.toInt < 0 := (by (try clear hQ); (try subst ev29); ((try simp only [xb_eq, xb_ne, Int32.lt_iff_toInt_lt, Int32.le_iff_toInt_le] at *) <;> (try simp only [← Int32.toInt_inj, true_and, false_and, or_false, false_or, or_true, true_or, and_true, and_false] at *) <;> omega))
                  have e : k_sheet F (nI t) b n = (-1000000000 - 3, errF F 3) := (if_pos hb0).trans ((if_neg hb1).trans (if_pos hb2))
                  rw [e] at hQ
                  subst ev29
                  exact xQi (hQ _ (mid_err hR (by decide))) rfl rfl
              · refine V2_aload (i := 4) d_P_sheet_29 rfl ?_
                refine V2_callV [] d_P_sheet_31 rfl rfl lk_P_310 mo_Sheet_goesMissing (by omega) (sh_k1 ht) rfl rfl (Nat.le_of_ble_eq_true rfl) (Nat.le_of_ble_eq_true rfl) ?_
                refine V2.to (l' := [some (.ref (57 + 2 * t))]) ?_ rfl rfl rfl rfl
                refine V2_aload_n (i := 0) d_Sheet_goesMissing_0 rfl rfl ?_
                refine V2_iconst (v := 0) d_Sheet_goesMissing_1 rfl ?_
                refine V2_put d_Sheet_goesMissing_2 fl_Sheet_13 (by omega) (sh_k ht) (by decide) (sh_n ht (by decide)) ?_
                refine V2_aload_n (i := 0) d_Sheet_goesMissing_5 rfl rfl ?_
                refine V2_iconst (v := 0) d_Sheet_goesMissing_6 rfl ?_
                refine V2_put d_Sheet_goesMissing_7 fl_Sheet_17 (by omega) (sh_k ht) (by decide) (sh_n ht (by decide)) ?_
                refine V2_return d_Sheet_goesMissing_10 rfl ?_
                refine V2.to (st' := []) ?_ rfl rfl rfl rfl
                refine V2_iconst (v := 1) d_P_sheet_34 rfl ?_
                refine V2_ireturn d_P_sheet_35 rfl ?_
                have hb0 : (0 ≤ (nI t).toInt ∧ (nI t).toInt < 4) ∧ (b.toInt = 0 ∨ b.toInt = 8 ∨ b.toInt = 16 ∨ b.toInt = 32) := (by (try clear hQ); (try skip); ((try simp only [xb_eq, xb_ne, Int32.lt_iff_toInt_lt, Int32.le_iff_toInt_le] at *) <;> (try simp only [← Int32.toInt_inj, true_and, false_and, or_false, false_or, or_true, true_or, and_true, and_false] at *) <;> omega))
                have hb1 : b.toInt = 0 := (by (try clear hQ); (try skip); ((try simp only [xb_eq, xb_ne, Int32.lt_iff_toInt_lt, Int32.le_iff_toInt_le] at *) <;> (try simp only [← Int32.toInt_inj, true_and, false_and, or_false, false_or, or_true, true_or, and_true, and_false] at *) <;> omega))
                have e : k_sheet F (nI t) b n = (1, sheetG F t 0 (nI 0)) := (if_pos hb0).trans ((if_pos hb1).trans (by rw [kt]))
                rw [e] at hQ
                have eb : b = 0 := Int32.toInt_inj.mp (by omega)
                skip
                exact xQi (hQ _ (mid_sheetG hR ht (n := 0) (by omega) (fun k a c => (xp_row_ne a).trans (xp_row_ne a)) (by rw [xp_ne (Or.inr (by decide)), xp_same]) (by rw [xp_same]; rfl) (fun i hi => absurd hi (Nat.not_lt_zero i)))) rfl rfl
theorem c_R_sheet_loop {L : Nat} {xs : Nat → Int32} {d : Nat} {Q : Option Value → xF → Prop} {F : xF} {t : Nat} {b n : Int32} (ht : t < 4) (hQ : Q (some (.int 1)) (xrw F 76 (cutB (F 76) (24 * t) 24))) : ∀ (n_ : Nat) (k : Nat), k ≤ 24 → 24 < n_ + k → V2 L xs (d + 2) m_R_sheet 90 [some (.ref 65), some (.int (nI t)), some (.int b), some (.int n), some (.int (nI k))] [] (xrw F 76 (cutB (F 76) (24 * t) k)) Q := by
  intro n_
  induction n_ with
  | zero => exact fun k h1 h2 => absurd h2 (by omega)
  | succ n_ ih =>
    intro k h1 h2
    refine V2_iload (i := 4) d_R_sheet_90 rfl ?_
    refine V2_bipush (v := 24) d_R_sheet_92 rfl ?_
    refine V2_icmp_ge (tgt := 116) d_R_sheet_94 rfl (fun c1 => ?_) (fun c1 => ?_)
    · refine V2_iconst (v := 1) d_R_sheet_116 rfl ?_
      refine V2_ireturn d_R_sheet_117 rfl ?_
      have hk : k = 24 := by
        have := (nI_leI (a := 24) (b := k) (by omega) (by omega)).mp c1
        omega
      subst hk
      exact hQ
    · have hk : k < 24 := Nat.not_le.mp (fun hh => c1 ((nI_leI (a := 24) (b := k) (by omega) (by omega)).mpr hh))
      refine V2_aload_n (i := 0) d_R_sheet_97 rfl rfl ?_
      refine V2_getr (a := 76) d_R_sheet_98 fl_R_44 (by decide) rfl (by decide) rfl ?_
      refine V2_bipush (v := 24) d_R_sheet_101 rfl ?_
      refine V2_iload_n (i := 1) d_R_sheet_103 rfl rfl ?_
      refine V2_imul d_R_sheet_104 ?_
      refine V2_topi (fun v2 ev2 => ?_)
      refine V2_iload (i := 4) d_R_sheet_105 rfl ?_
      refine V2_iadd d_R_sheet_107 ?_
      refine V2_topi (fun v3 ev3 => ?_)
      refine V2_iconst (v := 0) d_R_sheet_108 rfl ?_
      refine V2_iastore (j := (24 * t + k)) d_R_sheet_109 (by decide) rfl (xixA (n := 24 * t + k) (by subst ev3 ev2; simp only [nI, Int32.ofNat_add, Int32.ofNat_mul]; rfl) (by omega) (by decide)) (xixB (n := 24 * t + k) (by subst ev3 ev2; simp only [nI, Int32.ofNat_add, Int32.ofNat_mul]; rfl) (by omega)) ?_
      obtain ⟨v4, ev4⟩ : ∃ y : Int32, y = nI k + 1 := ⟨_, rfl⟩
      refine V2_iinc (i := 4) (v := v4) (l' := [some (.ref 65), some (.int (nI t)), some (.int b), some (.int n), some (.int v4)]) d_R_sheet_110 rfl (by rw [ev4]; rfl) (xst_i (Nat.le_of_ble_eq_true rfl) rfl rfl) ?_
      refine V2_goto (tgt := 90) d_R_sheet_113 rfl ?_
      exact V2.to (ih (k + 1) (by omega) (by omega)) rfl (by rw [ev4, nI_1]) rfl (by subst ev4 ev3 ev2; rw [xp_xrw, cutB_upd])
theorem c_mod_sheet {L : Nat} {xs : Nat → Int32} {d : Nat} {Q : Option Value → xF → Prop} {F : xF} {sh b n : Int32} {F0 : xF} (hR : Rel F0) (hM : Mid F0 F (k_sheet F0 sh b n).2) (hQ : ∀ F2, Rel F2 → Q (some (.int (k_sheet F0 sh b n).1)) F2) : V2 L xs (d + 2) m_R_sheet 0 (xEntry [.ref 65, .int sh, .int b, .int n] 5) [] F Q := by
  have q0 : (0 : Int32).toInt = 0 := by decide
  have q1 : (1 : Int32).toInt = 1 := by decide
  have q2 : (2 : Int32).toInt = 2 := by decide
  have q3 : (3 : Int32).toInt = 3 := by decide
  have q4 : (4 : Int32).toInt = 4 := by decide
  have q5 : (5 : Int32).toInt = 5 := by decide
  have q6 : (6 : Int32).toInt = 6 := by decide
  have q7 : (7 : Int32).toInt = 7 := by decide
  have q8 : (8 : Int32).toInt = 8 := by decide
  have q9 : (9 : Int32).toInt = 9 := by decide
  have q10 : (10 : Int32).toInt = 10 := by decide
  have q12 : (12 : Int32).toInt = 12 := by decide
  have q16 : (16 : Int32).toInt = 16 := by decide
  have q20 : (20 : Int32).toInt = 20 := by decide
  have q24 : (24 : Int32).toInt = 24 := by decide
  have q30 : (30 : Int32).toInt = 30 := by decide
  have q32 : (32 : Int32).toInt = 32 := by decide
  have q40 : (40 : Int32).toInt = 40 := by decide
  have q60 : (60 : Int32).toInt = 60 := by decide
  have q69 : (69 : Int32).toInt = 69 := by decide
  have q99 : (99 : Int32).toInt = 99 := by decide
  have q9999 : (9999 : Int32).toInt = 9999 := by decide
  have q274 : (274 : Int32).toInt = 274 := by decide
  have q334 : (334 : Int32).toInt = 334 := by decide
  have e66 : F 66 = F0 66 := hM.1 66 (by decide)
  refine V2.to (l' := [some (.ref 65), some (.int sh), some (.int b), some (.int n), none]) ?_ rfl rfl rfl rfl
  refine V2_iload_n (i := 1) d_R_sheet_0 rfl rfl ?_
  refine V2_callS [.int sh] d_R_sheet_1 rfl rfl lk_R_258 mo_R_isSheet (Nat.le_of_ble_eq_true rfl) (Nat.le_of_ble_eq_true rfl) ?_
  refine c_R_isSheet ?_
  refine V2_topi (fun v1 ev1 => ?_)
  refine V2_if_eq (tgt := 29) d_R_sheet_4 rfl (fun c2 => ?_) (fun c2 => ?_)
  · refine V2_aload_n (i := 0) d_R_sheet_29 rfl rfl ?_
    refine V2_iconst (v := 1) d_R_sheet_30 rfl ?_
    refine V2_callV [.int (1 : Int32)] d_R_sheet_31 rfl rfl lk_R_55 mo_R_error (by decide) rfl rfl rfl (Nat.le_of_ble_eq_true rfl) (Nat.le_of_ble_eq_true rfl) ?_
    refine c_R_error1 ?_
    refine V2_topi (fun v3 ev3 => ?_)
    refine V2_ireturn d_R_sheet_34 rfl ?_
    have hb0 : ¬ ((0 ≤ sh.toInt ∧ sh.toInt < 4) ∧ (b.toInt = 0 ∨ b.toInt = 8 ∨ b.toInt = 16 ∨ b.toInt = 32)) := (by (try clear hQ); (try subst ev3 ev1); ((try simp only [xb_eq, xb_ne, Int32.lt_iff_toInt_lt, Int32.le_iff_toInt_le] at *) <;> (try simp only [← Int32.toInt_inj, true_and, false_and, or_false, false_or, or_true, true_or, and_true, and_false] at *) <;> omega))
    have e : k_sheet F0 sh b n = (-1000000000 - 1, errF F0 1) := if_neg hb0
    rw [e] at hQ hM
    subst ev3 ev1
    exact xQi (hQ _ (rel_err hR hM)) rfl rfl
  · obtain ⟨t, ht, ept⟩ := in_of (x := sh) (P := 4) (by (try clear hQ); (try subst ev1); ((try simp only [xb_eq, xb_ne, Int32.lt_iff_toInt_lt, Int32.le_iff_toInt_le] at *) <;> (try simp only [← Int32.toInt_inj, true_and, false_and, or_false, false_or, or_true, true_or, and_true, and_false] at *) <;> omega)) (by (try clear hQ); (try subst ev1); ((try simp only [xb_eq, xb_ne, Int32.lt_iff_toInt_lt, Int32.le_iff_toInt_le] at *) <;> (try simp only [← Int32.toInt_inj, true_and, false_and, or_false, false_or, or_true, true_or, and_true, and_false] at *) <;> omega)) (by omega)
    subst ept
    have nt : (nI t).toInt = (t : Int) := nI_toInt (by omega)
    have kt : (nI t).toNatClampNeg = t := nI_clamp (by omega)
    refine V2_iload_n (i := 2) d_R_sheet_7 rfl rfl ?_
    refine V2_if_eq (tgt := 35) d_R_sheet_8 rfl (fun c4 => ?_) (fun c4 => ?_)
    · refine V2_iload_n (i := 2) d_R_sheet_35 rfl rfl ?_
      refine V2_if_eq (tgt := 49) d_R_sheet_36 rfl (fun c5 => ?_) (fun c5 => ?_)
      · refine V2_iload_n (i := 2) d_R_sheet_49 rfl rfl ?_
        refine V2_if_eq (tgt := 65) d_R_sheet_50 rfl (fun c6 => ?_) (fun c6 => ?_)
        · refine V2_aload_n (i := 0) d_R_sheet_65 rfl rfl ?_
          refine V2_getr (a := 74) d_R_sheet_66 fl_R_38 (by decide) rfl (by decide) rfl ?_
          refine V2_iload_n (i := 1) d_R_sheet_69 rfl rfl ?_
          refine V2_iload_n (i := 2) d_R_sheet_70 rfl rfl ?_
          refine V2_iastore (j := (t)) d_R_sheet_71 (by decide) rfl (xixA (n := t) rfl (by omega) (by decide)) (xixB (n := t) rfl (by omega)) ?_
          refine V2_aload_n (i := 0) d_R_sheet_72 rfl rfl ?_
          refine V2_getr (a := 75) d_R_sheet_73 fl_R_41 (by decide) rfl (by decide) rfl ?_
          refine V2_iload_n (i := 1) d_R_sheet_76 rfl rfl ?_
          refine V2_iload_n (i := 2) d_R_sheet_77 rfl rfl ?_
          refine V2_if_ne (tgt := 85) d_R_sheet_78 rfl (fun c7 => ?_) (fun c7 => ?_)
          · obtain ⟨m, hm, epm⟩ := in_of (x := n) (P := 25) (by (try clear hQ); (try subst ev1); ((try simp only [xb_eq, xb_ne, Int32.lt_iff_toInt_lt, Int32.le_iff_toInt_le] at *) <;> (try simp only [← Int32.toInt_inj, true_and, false_and, or_false, false_or, or_true, true_or, and_true, and_false] at *) <;> omega)) (by (try clear hQ); (try subst ev1); ((try simp only [xb_eq, xb_ne, Int32.lt_iff_toInt_lt, Int32.le_iff_toInt_le] at *) <;> (try simp only [← Int32.toInt_inj, true_and, false_and, or_false, false_or, or_true, true_or, and_true, and_false] at *) <;> omega)) (by omega)
            subst epm
            have nm : (nI m).toInt = (m : Int) := nI_toInt (by omega)
            have km : (nI m).toNatClampNeg = m := nI_clamp (by omega)
            refine V2_iload_n (i := 3) d_R_sheet_85 rfl rfl ?_
            refine V2_iastore (j := (t)) d_R_sheet_86 (by decide) rfl (xixA (n := t) rfl (by omega) (by decide)) (xixB (n := t) rfl (by omega)) ?_
            refine V2_iconst (v := 0) d_R_sheet_87 rfl ?_
            refine V2_istore (i := 4) (l' := [some (.ref 65), some (.int (nI t)), some (.int b), some (.int (nI m)), some (.int (0 : Int32))]) d_R_sheet_88 (xst_i (Nat.le_of_ble_eq_true rfl) rfl rfl) ?_
            have hb0 : (0 ≤ (nI t).toInt ∧ (nI t).toInt < 4) ∧ (b.toInt = 0 ∨ b.toInt = 8 ∨ b.toInt = 16 ∨ b.toInt = 32) := (by (try clear hQ); (try subst ev1); ((try simp only [xb_eq, xb_ne, Int32.lt_iff_toInt_lt, Int32.le_iff_toInt_le] at *) <;> (try simp only [← Int32.toInt_inj, true_and, false_and, or_false, false_or, or_true, true_or, and_true, and_false] at *) <;> omega))
            have hb1 : ¬ (b.toInt = 0) := (by (try clear hQ); (try subst ev1); ((try simp only [xb_eq, xb_ne, Int32.lt_iff_toInt_lt, Int32.le_iff_toInt_le] at *) <;> (try simp only [← Int32.toInt_inj, true_and, false_and, or_false, false_or, or_true, true_or, and_true, and_false] at *) <;> omega))
            have hb2 : ¬ ((nI m).toInt < 0) := (by (try clear hQ); (try subst ev1); ((try simp only [xb_eq, xb_ne, Int32.lt_iff_toInt_lt, Int32.le_iff_toInt_le] at *) <;> (try simp only [← Int32.toInt_inj, true_and, false_and, or_false, false_or, or_true, true_or, and_true, and_false] at *) <;> omega))
            have hb3 : ¬ (24 < (nI m).toInt) := (by (try clear hQ); (try subst ev1); ((try simp only [xb_eq, xb_ne, Int32.lt_iff_toInt_lt, Int32.le_iff_toInt_le] at *) <;> (try simp only [← Int32.toInt_inj, true_and, false_and, or_false, false_or, or_true, true_or, and_true, and_false] at *) <;> omega))
            have e : k_sheet F0 (nI t) b (nI m) = (1, sheetG F0 t b (nI m)) := (if_pos hb0).trans ((if_neg hb1).trans ((if_neg hb2).trans ((if_neg hb3).trans (by rw [kt]))))
            rw [e] at hQ hM
            have hbb : b = 0 ∨ b = 8 ∨ b = 16 ∨ b = 32 := by
              simp only [← Int32.toInt_inj]
              omega
            refine V2.to (c_R_sheet_loop (F := xp (xp F 74 t b) 75 t (nI m)) ht (hQ (sheetG F t b (nI m)) (rel_sheetG hR ht (by omega) hbb hM)) 25 0 (by omega) (by omega)) rfl rfl rfl ?_
            rw [show cutB (xp (xp F 74 t b) 75 t (nI m) 76) (24 * t) 0 = xp (xp F 74 t b) 75 t (nI m) 76 from by funext j; unfold cutB; rw [if_neg (by omega)], xrw_self]
          · refine V2_iconst (v := 0) d_R_sheet_81 rfl ?_
            refine V2_goto (tgt := 86) d_R_sheet_82 rfl ?_
            refine V2_iastore (j := (t)) d_R_sheet_86 (by decide) rfl (xixA (n := t) rfl (by omega) (by decide)) (xixB (n := t) rfl (by omega)) ?_
            refine V2_iconst (v := 0) d_R_sheet_87 rfl ?_
            refine V2_istore (i := 4) (l' := [some (.ref 65), some (.int (nI t)), some (.int b), some (.int n), some (.int (0 : Int32))]) d_R_sheet_88 (xst_i (Nat.le_of_ble_eq_true rfl) rfl rfl) ?_
            have hb0 : (0 ≤ (nI t).toInt ∧ (nI t).toInt < 4) ∧ (b.toInt = 0 ∨ b.toInt = 8 ∨ b.toInt = 16 ∨ b.toInt = 32) := (by (try clear hQ); (try subst ev1); ((try simp only [xb_eq, xb_ne, Int32.lt_iff_toInt_lt, Int32.le_iff_toInt_le] at *) <;> (try simp only [← Int32.toInt_inj, true_and, false_and, or_false, false_or, or_true, true_or, and_true, and_false] at *) <;> omega))
            have hb1 : b.toInt = 0 := (by (try clear hQ); (try subst ev1); ((try simp only [xb_eq, xb_ne, Int32.lt_iff_toInt_lt, Int32.le_iff_toInt_le] at *) <;> (try simp only [← Int32.toInt_inj, true_and, false_and, or_false, false_or, or_true, true_or, and_true, and_false] at *) <;> omega))
            have e : k_sheet F0 (nI t) b n = (1, sheetG F0 t 0 (nI 0)) := (if_pos hb0).trans ((if_pos hb1).trans (by rw [kt]))
            rw [e] at hQ hM
            have eb : b = 0 := Int32.toInt_inj.mp (by omega)
            subst eb
            refine V2.to (c_R_sheet_loop (F := xp (xp F 74 t 0) 75 t (nI 0)) ht (hQ (sheetG F t 0 (nI 0)) (rel_sheetG hR ht (by omega) (Or.inl rfl) hM)) 25 0 (by omega) (by omega)) rfl rfl rfl ?_
            rw [show cutB (xp (xp F 74 t 0) 75 t (nI 0) 76) (24 * t) 0 = xp (xp F 74 t 0) 75 t (nI 0) 76 from by funext j; unfold cutB; rw [if_neg (by omega)], xrw_self]
            rfl
        · refine V2_iload_n (i := 3) d_R_sheet_53 rfl rfl ?_
          refine V2_bipush (v := 24) d_R_sheet_54 rfl ?_
          refine V2_icmp_le (tgt := 65) d_R_sheet_56 rfl (fun c8 => ?_) (fun c8 => ?_)
          · refine V2_aload_n (i := 0) d_R_sheet_65 rfl rfl ?_
            refine V2_getr (a := 74) d_R_sheet_66 fl_R_38 (by decide) rfl (by decide) rfl ?_
            refine V2_iload_n (i := 1) d_R_sheet_69 rfl rfl ?_
            refine V2_iload_n (i := 2) d_R_sheet_70 rfl rfl ?_
            refine V2_iastore (j := (t)) d_R_sheet_71 (by decide) rfl (xixA (n := t) rfl (by omega) (by decide)) (xixB (n := t) rfl (by omega)) ?_
            refine V2_aload_n (i := 0) d_R_sheet_72 rfl rfl ?_
            refine V2_getr (a := 75) d_R_sheet_73 fl_R_41 (by decide) rfl (by decide) rfl ?_
            refine V2_iload_n (i := 1) d_R_sheet_76 rfl rfl ?_
            refine V2_iload_n (i := 2) d_R_sheet_77 rfl rfl ?_
            refine V2_if_ne (tgt := 85) d_R_sheet_78 rfl (fun c9 => ?_) (fun c9 => ?_)
            · obtain ⟨m, hm, epm⟩ := in_of (x := n) (P := 25) (by (try clear hQ); (try subst ev1); ((try simp only [xb_eq, xb_ne, Int32.lt_iff_toInt_lt, Int32.le_iff_toInt_le] at *) <;> (try simp only [← Int32.toInt_inj, true_and, false_and, or_false, false_or, or_true, true_or, and_true, and_false] at *) <;> omega)) (by (try clear hQ); (try subst ev1); ((try simp only [xb_eq, xb_ne, Int32.lt_iff_toInt_lt, Int32.le_iff_toInt_le] at *) <;> (try simp only [← Int32.toInt_inj, true_and, false_and, or_false, false_or, or_true, true_or, and_true, and_false] at *) <;> omega)) (by omega)
              subst epm
              have nm : (nI m).toInt = (m : Int) := nI_toInt (by omega)
              have km : (nI m).toNatClampNeg = m := nI_clamp (by omega)
              refine V2_iload_n (i := 3) d_R_sheet_85 rfl rfl ?_
              refine V2_iastore (j := (t)) d_R_sheet_86 (by decide) rfl (xixA (n := t) rfl (by omega) (by decide)) (xixB (n := t) rfl (by omega)) ?_
              refine V2_iconst (v := 0) d_R_sheet_87 rfl ?_
              refine V2_istore (i := 4) (l' := [some (.ref 65), some (.int (nI t)), some (.int b), some (.int (nI m)), some (.int (0 : Int32))]) d_R_sheet_88 (xst_i (Nat.le_of_ble_eq_true rfl) rfl rfl) ?_
              have hb0 : (0 ≤ (nI t).toInt ∧ (nI t).toInt < 4) ∧ (b.toInt = 0 ∨ b.toInt = 8 ∨ b.toInt = 16 ∨ b.toInt = 32) := (by (try clear hQ); (try subst ev1); ((try simp only [xb_eq, xb_ne, Int32.lt_iff_toInt_lt, Int32.le_iff_toInt_le] at *) <;> (try simp only [← Int32.toInt_inj, true_and, false_and, or_false, false_or, or_true, true_or, and_true, and_false] at *) <;> omega))
              have hb1 : ¬ (b.toInt = 0) := (by (try clear hQ); (try subst ev1); ((try simp only [xb_eq, xb_ne, Int32.lt_iff_toInt_lt, Int32.le_iff_toInt_le] at *) <;> (try simp only [← Int32.toInt_inj, true_and, false_and, or_false, false_or, or_true, true_or, and_true, and_false] at *) <;> omega))
              have hb2 : ¬ ((nI m).toInt < 0) := (by (try clear hQ); (try subst ev1); ((try simp only [xb_eq, xb_ne, Int32.lt_iff_toInt_lt, Int32.le_iff_toInt_le] at *) <;> (try simp only [← Int32.toInt_inj, true_and, false_and, or_false, false_or, or_true, true_or, and_true, and_false] at *) <;> omega))
              have hb3 : ¬ (24 < (nI m).toInt) := (by (try clear hQ); (try subst ev1); ((try simp only [xb_eq, xb_ne, Int32.lt_iff_toInt_lt, Int32.le_iff_toInt_le] at *) <;> (try simp only [← Int32.toInt_inj, true_and, false_and, or_false, false_or, or_true, true_or, and_true, and_false] at *) <;> omega))
              have e : k_sheet F0 (nI t) b (nI m) = (1, sheetG F0 t b (nI m)) := (if_pos hb0).trans ((if_neg hb1).trans ((if_neg hb2).trans ((if_neg hb3).trans (by rw [kt]))))
              rw [e] at hQ hM
              have hbb : b = 0 ∨ b = 8 ∨ b = 16 ∨ b = 32 := by
                simp only [← Int32.toInt_inj]
                omega
              refine V2.to (c_R_sheet_loop (F := xp (xp F 74 t b) 75 t (nI m)) ht (hQ (sheetG F t b (nI m)) (rel_sheetG hR ht (by omega) hbb hM)) 25 0 (by omega) (by omega)) rfl rfl rfl ?_
              rw [show cutB (xp (xp F 74 t b) 75 t (nI m) 76) (24 * t) 0 = xp (xp F 74 t b) 75 t (nI m) 76 from by funext j; unfold cutB; rw [if_neg (by omega)], xrw_self]
            · refine V2_iconst (v := 0) d_R_sheet_81 rfl ?_
              refine V2_goto (tgt := 86) d_R_sheet_82 rfl ?_
              refine V2_iastore (j := (t)) d_R_sheet_86 (by decide) rfl (xixA (n := t) rfl (by omega) (by decide)) (xixB (n := t) rfl (by omega)) ?_
              refine V2_iconst (v := 0) d_R_sheet_87 rfl ?_
              refine V2_istore (i := 4) (l' := [some (.ref 65), some (.int (nI t)), some (.int b), some (.int n), some (.int (0 : Int32))]) d_R_sheet_88 (xst_i (Nat.le_of_ble_eq_true rfl) rfl rfl) ?_
              have hb0 : (0 ≤ (nI t).toInt ∧ (nI t).toInt < 4) ∧ (b.toInt = 0 ∨ b.toInt = 8 ∨ b.toInt = 16 ∨ b.toInt = 32) := (by (try clear hQ); (try subst ev1); ((try simp only [xb_eq, xb_ne, Int32.lt_iff_toInt_lt, Int32.le_iff_toInt_le] at *) <;> (try simp only [← Int32.toInt_inj, true_and, false_and, or_false, false_or, or_true, true_or, and_true, and_false] at *) <;> omega))
              have hb1 : b.toInt = 0 := (by (try clear hQ); (try subst ev1); ((try simp only [xb_eq, xb_ne, Int32.lt_iff_toInt_lt, Int32.le_iff_toInt_le] at *) <;> (try simp only [← Int32.toInt_inj, true_and, false_and, or_false, false_or, or_true, true_or, and_true, and_false] at *) <;> omega))
              have e : k_sheet F0 (nI t) b n = (1, sheetG F0 t 0 (nI 0)) := (if_pos hb0).trans ((if_pos hb1).trans (by rw [kt]))
              rw [e] at hQ hM
              have eb : b = 0 := Int32.toInt_inj.mp (by omega)
              subst eb
              refine V2.to (c_R_sheet_loop (F := xp (xp F 74 t 0) 75 t (nI 0)) ht (hQ (sheetG F t 0 (nI 0)) (rel_sheetG hR ht (by omega) (Or.inl rfl) hM)) 25 0 (by omega) (by omega)) rfl rfl rfl ?_
              rw [show cutB (xp (xp F 74 t 0) 75 t (nI 0) 76) (24 * t) 0 = xp (xp F 74 t 0) 75 t (nI 0) 76 from by funext j; unfold cutB; rw [if_neg (by omega)], xrw_self]
              rfl
          · refine V2_aload_n (i := 0) d_R_sheet_59 rfl rfl ?_
            refine V2_iconst (v := 1) d_R_sheet_60 rfl ?_
            refine V2_callV [.int (1 : Int32)] d_R_sheet_61 rfl rfl lk_R_55 mo_R_error (by decide) rfl rfl rfl (Nat.le_of_ble_eq_true rfl) (Nat.le_of_ble_eq_true rfl) ?_
            refine c_R_error1 ?_
            refine V2_topi (fun v10 ev10 => ?_)
            refine V2_ireturn d_R_sheet_64 rfl ?_
            have hb0 : (0 ≤ (nI t).toInt ∧ (nI t).toInt < 4) ∧ (b.toInt = 0 ∨ b.toInt = 8 ∨ b.toInt = 16 ∨ b.toInt = 32) := (by (try clear hQ); (try subst ev10 ev1); ((try simp only [xb_eq, xb_ne, Int32.lt_iff_toInt_lt, Int32.le_iff_toInt_le] at *) <;> (try simp only [← Int32.toInt_inj, true_and, false_and, or_false, false_or, or_true, true_or, and_true, and_false] at *) <;> omega))
            have hb1 : ¬ (b.toInt = 0) := (by (try clear hQ); (try subst ev10 ev1); ((try simp only [xb_eq, xb_ne, Int32.lt_iff_toInt_lt, Int32.le_iff_toInt_le] at *) <;> (try simp only [← Int32.toInt_inj, true_and, false_and, or_false, false_or, or_true, true_or, and_true, and_false] at *) <;> omega))
            have hb2 : ¬ (n.toInt < 0) := (by (try clear hQ); (try subst ev10 ev1); ((try simp only [xb_eq, xb_ne, Int32.lt_iff_toInt_lt, Int32.le_iff_toInt_le] at *) <;> (try simp only [← Int32.toInt_inj, true_and, false_and, or_false, false_or, or_true, true_or, and_true, and_false] at *) <;> omega))
            have hb3 : 24 < n.toInt := (by (try clear hQ); (try subst ev10 ev1); ((try simp only [xb_eq, xb_ne, Int32.lt_iff_toInt_lt, Int32.le_iff_toInt_le] at *) <;> (try simp only [← Int32.toInt_inj, true_and, false_and, or_false, false_or, or_true, true_or, and_true, and_false] at *) <;> omega))
            have e : k_sheet F0 (nI t) b n = (-1000000000 - 1, errF F0 1) := (if_pos hb0).trans ((if_neg hb1).trans ((if_neg hb2).trans (if_pos hb3)))
            rw [e] at hQ hM
            subst ev10 ev1
            exact xQi (hQ _ (rel_err hR hM)) rfl rfl
      · refine V2_iload_n (i := 3) d_R_sheet_39 rfl rfl ?_
        refine V2_if_ge (tgt := 49) d_R_sheet_40 rfl (fun c11 => ?_) (fun c11 => ?_)
        · refine V2_iload_n (i := 2) d_R_sheet_49 rfl rfl ?_
          refine V2_if_eq (tgt := 65) d_R_sheet_50 rfl (fun c12 => ?_) (fun c12 => ?_)
          · refine V2_aload_n (i := 0) d_R_sheet_65 rfl rfl ?_
            refine V2_getr (a := 74) d_R_sheet_66 fl_R_38 (by decide) rfl (by decide) rfl ?_
            refine V2_iload_n (i := 1) d_R_sheet_69 rfl rfl ?_
            refine V2_iload_n (i := 2) d_R_sheet_70 rfl rfl ?_
            refine V2_iastore (j := (t)) d_R_sheet_71 (by decide) rfl (xixA (n := t) rfl (by omega) (by decide)) (xixB (n := t) rfl (by omega)) ?_
            refine V2_aload_n (i := 0) d_R_sheet_72 rfl rfl ?_
            refine V2_getr (a := 75) d_R_sheet_73 fl_R_41 (by decide) rfl (by decide) rfl ?_
            refine V2_iload_n (i := 1) d_R_sheet_76 rfl rfl ?_
            refine V2_iload_n (i := 2) d_R_sheet_77 rfl rfl ?_
            refine V2_if_ne (tgt := 85) d_R_sheet_78 rfl (fun c13 => ?_) (fun c13 => ?_)
            · obtain ⟨m, hm, epm⟩ := in_of (x := n) (P := 25) (by (try clear hQ); (try subst ev1); ((try simp only [xb_eq, xb_ne, Int32.lt_iff_toInt_lt, Int32.le_iff_toInt_le] at *) <;> (try simp only [← Int32.toInt_inj, true_and, false_and, or_false, false_or, or_true, true_or, and_true, and_false] at *) <;> omega)) (by (try clear hQ); (try subst ev1); ((try simp only [xb_eq, xb_ne, Int32.lt_iff_toInt_lt, Int32.le_iff_toInt_le] at *) <;> (try simp only [← Int32.toInt_inj, true_and, false_and, or_false, false_or, or_true, true_or, and_true, and_false] at *) <;> omega)) (by omega)
              subst epm
              have nm : (nI m).toInt = (m : Int) := nI_toInt (by omega)
              have km : (nI m).toNatClampNeg = m := nI_clamp (by omega)
              refine V2_iload_n (i := 3) d_R_sheet_85 rfl rfl ?_
              refine V2_iastore (j := (t)) d_R_sheet_86 (by decide) rfl (xixA (n := t) rfl (by omega) (by decide)) (xixB (n := t) rfl (by omega)) ?_
              refine V2_iconst (v := 0) d_R_sheet_87 rfl ?_
              refine V2_istore (i := 4) (l' := [some (.ref 65), some (.int (nI t)), some (.int b), some (.int (nI m)), some (.int (0 : Int32))]) d_R_sheet_88 (xst_i (Nat.le_of_ble_eq_true rfl) rfl rfl) ?_
              have hb0 : (0 ≤ (nI t).toInt ∧ (nI t).toInt < 4) ∧ (b.toInt = 0 ∨ b.toInt = 8 ∨ b.toInt = 16 ∨ b.toInt = 32) := (by (try clear hQ); (try subst ev1); ((try simp only [xb_eq, xb_ne, Int32.lt_iff_toInt_lt, Int32.le_iff_toInt_le] at *) <;> (try simp only [← Int32.toInt_inj, true_and, false_and, or_false, false_or, or_true, true_or, and_true, and_false] at *) <;> omega))
              have hb1 : ¬ (b.toInt = 0) := (by (try clear hQ); (try subst ev1); ((try simp only [xb_eq, xb_ne, Int32.lt_iff_toInt_lt, Int32.le_iff_toInt_le] at *) <;> (try simp only [← Int32.toInt_inj, true_and, false_and, or_false, false_or, or_true, true_or, and_true, and_false] at *) <;> omega))
              have hb2 : ¬ ((nI m).toInt < 0) := (by (try clear hQ); (try subst ev1); ((try simp only [xb_eq, xb_ne, Int32.lt_iff_toInt_lt, Int32.le_iff_toInt_le] at *) <;> (try simp only [← Int32.toInt_inj, true_and, false_and, or_false, false_or, or_true, true_or, and_true, and_false] at *) <;> omega))
              have hb3 : ¬ (24 < (nI m).toInt) := (by (try clear hQ); (try subst ev1); ((try simp only [xb_eq, xb_ne, Int32.lt_iff_toInt_lt, Int32.le_iff_toInt_le] at *) <;> (try simp only [← Int32.toInt_inj, true_and, false_and, or_false, false_or, or_true, true_or, and_true, and_false] at *) <;> omega))
              have e : k_sheet F0 (nI t) b (nI m) = (1, sheetG F0 t b (nI m)) := (if_pos hb0).trans ((if_neg hb1).trans ((if_neg hb2).trans ((if_neg hb3).trans (by rw [kt]))))
              rw [e] at hQ hM
              have hbb : b = 0 ∨ b = 8 ∨ b = 16 ∨ b = 32 := by
                simp only [← Int32.toInt_inj]
                omega
              refine V2.to (c_R_sheet_loop (F := xp (xp F 74 t b) 75 t (nI m)) ht (hQ (sheetG F t b (nI m)) (rel_sheetG hR ht (by omega) hbb hM)) 25 0 (by omega) (by omega)) rfl rfl rfl ?_
              rw [show cutB (xp (xp F 74 t b) 75 t (nI m) 76) (24 * t) 0 = xp (xp F 74 t b) 75 t (nI m) 76 from by funext j; unfold cutB; rw [if_neg (by omega)], xrw_self]
            · refine V2_iconst (v := 0) d_R_sheet_81 rfl ?_
              refine V2_goto (tgt := 86) d_R_sheet_82 rfl ?_
              refine V2_iastore (j := (t)) d_R_sheet_86 (by decide) rfl (xixA (n := t) rfl (by omega) (by decide)) (xixB (n := t) rfl (by omega)) ?_
              refine V2_iconst (v := 0) d_R_sheet_87 rfl ?_
              refine V2_istore (i := 4) (l' := [some (.ref 65), some (.int (nI t)), some (.int b), some (.int n), some (.int (0 : Int32))]) d_R_sheet_88 (xst_i (Nat.le_of_ble_eq_true rfl) rfl rfl) ?_
              have hb0 : (0 ≤ (nI t).toInt ∧ (nI t).toInt < 4) ∧ (b.toInt = 0 ∨ b.toInt = 8 ∨ b.toInt = 16 ∨ b.toInt = 32) := (by (try clear hQ); (try subst ev1); ((try simp only [xb_eq, xb_ne, Int32.lt_iff_toInt_lt, Int32.le_iff_toInt_le] at *) <;> (try simp only [← Int32.toInt_inj, true_and, false_and, or_false, false_or, or_true, true_or, and_true, and_false] at *) <;> omega))
              have hb1 : b.toInt = 0 := (by (try clear hQ); (try subst ev1); ((try simp only [xb_eq, xb_ne, Int32.lt_iff_toInt_lt, Int32.le_iff_toInt_le] at *) <;> (try simp only [← Int32.toInt_inj, true_and, false_and, or_false, false_or, or_true, true_or, and_true, and_false] at *) <;> omega))
              have e : k_sheet F0 (nI t) b n = (1, sheetG F0 t 0 (nI 0)) := (if_pos hb0).trans ((if_pos hb1).trans (by rw [kt]))
              rw [e] at hQ hM
              have eb : b = 0 := Int32.toInt_inj.mp (by omega)
              subst eb
              refine V2.to (c_R_sheet_loop (F := xp (xp F 74 t 0) 75 t (nI 0)) ht (hQ (sheetG F t 0 (nI 0)) (rel_sheetG hR ht (by omega) (Or.inl rfl) hM)) 25 0 (by omega) (by omega)) rfl rfl rfl ?_
              rw [show cutB (xp (xp F 74 t 0) 75 t (nI 0) 76) (24 * t) 0 = xp (xp F 74 t 0) 75 t (nI 0) 76 from by funext j; unfold cutB; rw [if_neg (by omega)], xrw_self]
              rfl
          · refine V2_iload_n (i := 3) d_R_sheet_53 rfl rfl ?_
            refine V2_bipush (v := 24) d_R_sheet_54 rfl ?_
            refine V2_icmp_le (tgt := 65) d_R_sheet_56 rfl (fun c14 => ?_) (fun c14 => ?_)
            · refine V2_aload_n (i := 0) d_R_sheet_65 rfl rfl ?_
              refine V2_getr (a := 74) d_R_sheet_66 fl_R_38 (by decide) rfl (by decide) rfl ?_
              refine V2_iload_n (i := 1) d_R_sheet_69 rfl rfl ?_
              refine V2_iload_n (i := 2) d_R_sheet_70 rfl rfl ?_
              refine V2_iastore (j := (t)) d_R_sheet_71 (by decide) rfl (xixA (n := t) rfl (by omega) (by decide)) (xixB (n := t) rfl (by omega)) ?_
              refine V2_aload_n (i := 0) d_R_sheet_72 rfl rfl ?_
              refine V2_getr (a := 75) d_R_sheet_73 fl_R_41 (by decide) rfl (by decide) rfl ?_
              refine V2_iload_n (i := 1) d_R_sheet_76 rfl rfl ?_
              refine V2_iload_n (i := 2) d_R_sheet_77 rfl rfl ?_
              refine V2_if_ne (tgt := 85) d_R_sheet_78 rfl (fun c15 => ?_) (fun c15 => ?_)
              · obtain ⟨m, hm, epm⟩ := in_of (x := n) (P := 25) (by (try clear hQ); (try subst ev1); ((try simp only [xb_eq, xb_ne, Int32.lt_iff_toInt_lt, Int32.le_iff_toInt_le] at *) <;> (try simp only [← Int32.toInt_inj, true_and, false_and, or_false, false_or, or_true, true_or, and_true, and_false] at *) <;> omega)) (by (try clear hQ); (try subst ev1); ((try simp only [xb_eq, xb_ne, Int32.lt_iff_toInt_lt, Int32.le_iff_toInt_le] at *) <;> (try simp only [← Int32.toInt_inj, true_and, false_and, or_false, false_or, or_true, true_or, and_true, and_false] at *) <;> omega)) (by omega)
                subst epm
                have nm : (nI m).toInt = (m : Int) := nI_toInt (by omega)
                have km : (nI m).toNatClampNeg = m := nI_clamp (by omega)
                refine V2_iload_n (i := 3) d_R_sheet_85 rfl rfl ?_
                refine V2_iastore (j := (t)) d_R_sheet_86 (by decide) rfl (xixA (n := t) rfl (by omega) (by decide)) (xixB (n := t) rfl (by omega)) ?_
                refine V2_iconst (v := 0) d_R_sheet_87 rfl ?_
                refine V2_istore (i := 4) (l' := [some (.ref 65), some (.int (nI t)), some (.int b), some (.int (nI m)), some (.int (0 : Int32))]) d_R_sheet_88 (xst_i (Nat.le_of_ble_eq_true rfl) rfl rfl) ?_
                have hb0 : (0 ≤ (nI t).toInt ∧ (nI t).toInt < 4) ∧ (b.toInt = 0 ∨ b.toInt = 8 ∨ b.toInt = 16 ∨ b.toInt = 32) := (by (try clear hQ); (try subst ev1); ((try simp only [xb_eq, xb_ne, Int32.lt_iff_toInt_lt, Int32.le_iff_toInt_le] at *) <;> (try simp only [← Int32.toInt_inj, true_and, false_and, or_false, false_or, or_true, true_or, and_true, and_false] at *) <;> omega))
                have hb1 : ¬ (b.toInt = 0) := (by (try clear hQ); (try subst ev1); ((try simp only [xb_eq, xb_ne, Int32.lt_iff_toInt_lt, Int32.le_iff_toInt_le] at *) <;> (try simp only [← Int32.toInt_inj, true_and, false_and, or_false, false_or, or_true, true_or, and_true, and_false] at *) <;> omega))
                have hb2 : ¬ ((nI m).toInt < 0) := (by (try clear hQ); (try subst ev1); ((try simp only [xb_eq, xb_ne, Int32.lt_iff_toInt_lt, Int32.le_iff_toInt_le] at *) <;> (try simp only [← Int32.toInt_inj, true_and, false_and, or_false, false_or, or_true, true_or, and_true, and_false] at *) <;> omega))
                have hb3 : ¬ (24 < (nI m).toInt) := (by (try clear hQ); (try subst ev1); ((try simp only [xb_eq, xb_ne, Int32.lt_iff_toInt_lt, Int32.le_iff_toInt_le] at *) <;> (try simp only [← Int32.toInt_inj, true_and, false_and, or_false, false_or, or_true, true_or, and_true, and_false] at *) <;> omega))
                have e : k_sheet F0 (nI t) b (nI m) = (1, sheetG F0 t b (nI m)) := (if_pos hb0).trans ((if_neg hb1).trans ((if_neg hb2).trans ((if_neg hb3).trans (by rw [kt]))))
                rw [e] at hQ hM
                have hbb : b = 0 ∨ b = 8 ∨ b = 16 ∨ b = 32 := by
                  simp only [← Int32.toInt_inj]
                  omega
                refine V2.to (c_R_sheet_loop (F := xp (xp F 74 t b) 75 t (nI m)) ht (hQ (sheetG F t b (nI m)) (rel_sheetG hR ht (by omega) hbb hM)) 25 0 (by omega) (by omega)) rfl rfl rfl ?_
                rw [show cutB (xp (xp F 74 t b) 75 t (nI m) 76) (24 * t) 0 = xp (xp F 74 t b) 75 t (nI m) 76 from by funext j; unfold cutB; rw [if_neg (by omega)], xrw_self]
              · refine V2_iconst (v := 0) d_R_sheet_81 rfl ?_
                refine V2_goto (tgt := 86) d_R_sheet_82 rfl ?_
                refine V2_iastore (j := (t)) d_R_sheet_86 (by decide) rfl (xixA (n := t) rfl (by omega) (by decide)) (xixB (n := t) rfl (by omega)) ?_
                refine V2_iconst (v := 0) d_R_sheet_87 rfl ?_
                refine V2_istore (i := 4) (l' := [some (.ref 65), some (.int (nI t)), some (.int b), some (.int n), some (.int (0 : Int32))]) d_R_sheet_88 (xst_i (Nat.le_of_ble_eq_true rfl) rfl rfl) ?_
                have hb0 : (0 ≤ (nI t).toInt ∧ (nI t).toInt < 4) ∧ (b.toInt = 0 ∨ b.toInt = 8 ∨ b.toInt = 16 ∨ b.toInt = 32) := (by (try clear hQ); (try subst ev1); ((try simp only [xb_eq, xb_ne, Int32.lt_iff_toInt_lt, Int32.le_iff_toInt_le] at *) <;> (try simp only [← Int32.toInt_inj, true_and, false_and, or_false, false_or, or_true, true_or, and_true, and_false] at *) <;> omega))
                have hb1 : b.toInt = 0 := (by (try clear hQ); (try subst ev1); ((try simp only [xb_eq, xb_ne, Int32.lt_iff_toInt_lt, Int32.le_iff_toInt_le] at *) <;> (try simp only [← Int32.toInt_inj, true_and, false_and, or_false, false_or, or_true, true_or, and_true, and_false] at *) <;> omega))
                have e : k_sheet F0 (nI t) b n = (1, sheetG F0 t 0 (nI 0)) := (if_pos hb0).trans ((if_pos hb1).trans (by rw [kt]))
                rw [e] at hQ hM
                have eb : b = 0 := Int32.toInt_inj.mp (by omega)
                subst eb
                refine V2.to (c_R_sheet_loop (F := xp (xp F 74 t 0) 75 t (nI 0)) ht (hQ (sheetG F t 0 (nI 0)) (rel_sheetG hR ht (by omega) (Or.inl rfl) hM)) 25 0 (by omega) (by omega)) rfl rfl rfl ?_
                rw [show cutB (xp (xp F 74 t 0) 75 t (nI 0) 76) (24 * t) 0 = xp (xp F 74 t 0) 75 t (nI 0) 76 from by funext j; unfold cutB; rw [if_neg (by omega)], xrw_self]
                rfl
            · refine V2_aload_n (i := 0) d_R_sheet_59 rfl rfl ?_
              refine V2_iconst (v := 1) d_R_sheet_60 rfl ?_
              refine V2_callV [.int (1 : Int32)] d_R_sheet_61 rfl rfl lk_R_55 mo_R_error (by decide) rfl rfl rfl (Nat.le_of_ble_eq_true rfl) (Nat.le_of_ble_eq_true rfl) ?_
              refine c_R_error1 ?_
              refine V2_topi (fun v16 ev16 => ?_)
              refine V2_ireturn d_R_sheet_64 rfl ?_
              have hb0 : (0 ≤ (nI t).toInt ∧ (nI t).toInt < 4) ∧ (b.toInt = 0 ∨ b.toInt = 8 ∨ b.toInt = 16 ∨ b.toInt = 32) := (by (try clear hQ); (try subst ev16 ev1); ((try simp only [xb_eq, xb_ne, Int32.lt_iff_toInt_lt, Int32.le_iff_toInt_le] at *) <;> (try simp only [← Int32.toInt_inj, true_and, false_and, or_false, false_or, or_true, true_or, and_true, and_false] at *) <;> omega))
              have hb1 : ¬ (b.toInt = 0) := (by (try clear hQ); (try subst ev16 ev1); ((try simp only [xb_eq, xb_ne, Int32.lt_iff_toInt_lt, Int32.le_iff_toInt_le] at *) <;> (try simp only [← Int32.toInt_inj, true_and, false_and, or_false, false_or, or_true, true_or, and_true, and_false] at *) <;> omega))
              have hb2 : ¬ (n.toInt < 0) := (by (try clear hQ); (try subst ev16 ev1); ((try simp only [xb_eq, xb_ne, Int32.lt_iff_toInt_lt, Int32.le_iff_toInt_le] at *) <;> (try simp only [← Int32.toInt_inj, true_and, false_and, or_false, false_or, or_true, true_or, and_true, and_false] at *) <;> omega))
              have hb3 : 24 < n.toInt := (by (try clear hQ); (try subst ev16 ev1); ((try simp only [xb_eq, xb_ne, Int32.lt_iff_toInt_lt, Int32.le_iff_toInt_le] at *) <;> (try simp only [← Int32.toInt_inj, true_and, false_and, or_false, false_or, or_true, true_or, and_true, and_false] at *) <;> omega))
              have e : k_sheet F0 (nI t) b n = (-1000000000 - 1, errF F0 1) := (if_pos hb0).trans ((if_neg hb1).trans ((if_neg hb2).trans (if_pos hb3)))
              rw [e] at hQ hM
              subst ev16 ev1
              exact xQi (hQ _ (rel_err hR hM)) rfl rfl
        · refine V2_aload_n (i := 0) d_R_sheet_43 rfl rfl ?_
          refine V2_iconst (v := 3) d_R_sheet_44 rfl ?_
          refine V2_callV [.int (3 : Int32)] d_R_sheet_45 rfl rfl lk_R_55 mo_R_error (by decide) rfl rfl rfl (Nat.le_of_ble_eq_true rfl) (Nat.le_of_ble_eq_true rfl) ?_
          refine c_R_error3 ?_
          refine V2_topi (fun v17 ev17 => ?_)
          refine V2_ireturn d_R_sheet_48 rfl ?_
          have hb0 : (0 ≤ (nI t).toInt ∧ (nI t).toInt < 4) ∧ (b.toInt = 0 ∨ b.toInt = 8 ∨ b.toInt = 16 ∨ b.toInt = 32) := (by (try clear hQ); (try subst ev17 ev1); ((try simp only [xb_eq, xb_ne, Int32.lt_iff_toInt_lt, Int32.le_iff_toInt_le] at *) <;> (try simp only [← Int32.toInt_inj, true_and, false_and, or_false, false_or, or_true, true_or, and_true, and_false] at *) <;> omega))
          have hb1 : ¬ (b.toInt = 0) := (by (try clear hQ); (try subst ev17 ev1); ((try simp only [xb_eq, xb_ne, Int32.lt_iff_toInt_lt, Int32.le_iff_toInt_le] at *) <;> (try simp only [← Int32.toInt_inj, true_and, false_and, or_false, false_or, or_true, true_or, and_true, and_false] at *) <;> omega))
          have hb2 : n.toInt < 0 := (by (try clear hQ); (try subst ev17 ev1); ((try simp only [xb_eq, xb_ne, Int32.lt_iff_toInt_lt, Int32.le_iff_toInt_le] at *) <;> (try simp only [← Int32.toInt_inj, true_and, false_and, or_false, false_or, or_true, true_or, and_true, and_false] at *) <;> omega))
          have e : k_sheet F0 (nI t) b n = (-1000000000 - 3, errF F0 3) := (if_pos hb0).trans ((if_neg hb1).trans (if_pos hb2))
          rw [e] at hQ hM
          subst ev17 ev1
          exact xQi (hQ _ (rel_err hR hM)) rfl rfl
    · refine V2_iload_n (i := 2) d_R_sheet_11 rfl rfl ?_
      refine V2_bipush (v := 8) d_R_sheet_12 rfl ?_
      refine V2_icmp_eq (tgt := 35) d_R_sheet_14 rfl (fun c18 => ?_) (fun c18 => ?_)
      · refine V2_iload_n (i := 2) d_R_sheet_35 rfl rfl ?_
        refine V2_if_eq (tgt := 49) d_R_sheet_36 rfl (fun c19 => ?_) (fun c19 => ?_)
        · refine V2_iload_n (i := 2) d_R_sheet_49 rfl rfl ?_
          refine V2_if_eq (tgt := 65) d_R_sheet_50 rfl (fun c20 => ?_) (fun c20 => ?_)
          · refine V2_aload_n (i := 0) d_R_sheet_65 rfl rfl ?_
            refine V2_getr (a := 74) d_R_sheet_66 fl_R_38 (by decide) rfl (by decide) rfl ?_
            refine V2_iload_n (i := 1) d_R_sheet_69 rfl rfl ?_
            refine V2_iload_n (i := 2) d_R_sheet_70 rfl rfl ?_
            refine V2_iastore (j := (t)) d_R_sheet_71 (by decide) rfl (xixA (n := t) rfl (by omega) (by decide)) (xixB (n := t) rfl (by omega)) ?_
            refine V2_aload_n (i := 0) d_R_sheet_72 rfl rfl ?_
            refine V2_getr (a := 75) d_R_sheet_73 fl_R_41 (by decide) rfl (by decide) rfl ?_
            refine V2_iload_n (i := 1) d_R_sheet_76 rfl rfl ?_
            refine V2_iload_n (i := 2) d_R_sheet_77 rfl rfl ?_
            refine V2_if_ne (tgt := 85) d_R_sheet_78 rfl (fun c21 => ?_) (fun c21 => ?_)
            · obtain ⟨m, hm, epm⟩ := in_of (x := n) (P := 25) (by (try clear hQ); (try subst ev1); ((try simp only [xb_eq, xb_ne, Int32.lt_iff_toInt_lt, Int32.le_iff_toInt_le] at *) <;> (try simp only [← Int32.toInt_inj, true_and, false_and, or_false, false_or, or_true, true_or, and_true, and_false] at *) <;> omega)) (by (try clear hQ); (try subst ev1); ((try simp only [xb_eq, xb_ne, Int32.lt_iff_toInt_lt, Int32.le_iff_toInt_le] at *) <;> (try simp only [← Int32.toInt_inj, true_and, false_and, or_false, false_or, or_true, true_or, and_true, and_false] at *) <;> omega)) (by omega)
              subst epm
              have nm : (nI m).toInt = (m : Int) := nI_toInt (by omega)
              have km : (nI m).toNatClampNeg = m := nI_clamp (by omega)
              refine V2_iload_n (i := 3) d_R_sheet_85 rfl rfl ?_
              refine V2_iastore (j := (t)) d_R_sheet_86 (by decide) rfl (xixA (n := t) rfl (by omega) (by decide)) (xixB (n := t) rfl (by omega)) ?_
              refine V2_iconst (v := 0) d_R_sheet_87 rfl ?_
              refine V2_istore (i := 4) (l' := [some (.ref 65), some (.int (nI t)), some (.int b), some (.int (nI m)), some (.int (0 : Int32))]) d_R_sheet_88 (xst_i (Nat.le_of_ble_eq_true rfl) rfl rfl) ?_
              have hb0 : (0 ≤ (nI t).toInt ∧ (nI t).toInt < 4) ∧ (b.toInt = 0 ∨ b.toInt = 8 ∨ b.toInt = 16 ∨ b.toInt = 32) := (by (try clear hQ); (try subst ev1); ((try simp only [xb_eq, xb_ne, Int32.lt_iff_toInt_lt, Int32.le_iff_toInt_le] at *) <;> (try simp only [← Int32.toInt_inj, true_and, false_and, or_false, false_or, or_true, true_or, and_true, and_false] at *) <;> omega))
              have hb1 : ¬ (b.toInt = 0) := (by (try clear hQ); (try subst ev1); ((try simp only [xb_eq, xb_ne, Int32.lt_iff_toInt_lt, Int32.le_iff_toInt_le] at *) <;> (try simp only [← Int32.toInt_inj, true_and, false_and, or_false, false_or, or_true, true_or, and_true, and_false] at *) <;> omega))
              have hb2 : ¬ ((nI m).toInt < 0) := (by (try clear hQ); (try subst ev1); ((try simp only [xb_eq, xb_ne, Int32.lt_iff_toInt_lt, Int32.le_iff_toInt_le] at *) <;> (try simp only [← Int32.toInt_inj, true_and, false_and, or_false, false_or, or_true, true_or, and_true, and_false] at *) <;> omega))
              have hb3 : ¬ (24 < (nI m).toInt) := (by (try clear hQ); (try subst ev1); ((try simp only [xb_eq, xb_ne, Int32.lt_iff_toInt_lt, Int32.le_iff_toInt_le] at *) <;> (try simp only [← Int32.toInt_inj, true_and, false_and, or_false, false_or, or_true, true_or, and_true, and_false] at *) <;> omega))
              have e : k_sheet F0 (nI t) b (nI m) = (1, sheetG F0 t b (nI m)) := (if_pos hb0).trans ((if_neg hb1).trans ((if_neg hb2).trans ((if_neg hb3).trans (by rw [kt]))))
              rw [e] at hQ hM
              have hbb : b = 0 ∨ b = 8 ∨ b = 16 ∨ b = 32 := by
                simp only [← Int32.toInt_inj]
                omega
              refine V2.to (c_R_sheet_loop (F := xp (xp F 74 t b) 75 t (nI m)) ht (hQ (sheetG F t b (nI m)) (rel_sheetG hR ht (by omega) hbb hM)) 25 0 (by omega) (by omega)) rfl rfl rfl ?_
              rw [show cutB (xp (xp F 74 t b) 75 t (nI m) 76) (24 * t) 0 = xp (xp F 74 t b) 75 t (nI m) 76 from by funext j; unfold cutB; rw [if_neg (by omega)], xrw_self]
            · refine V2_iconst (v := 0) d_R_sheet_81 rfl ?_
              refine V2_goto (tgt := 86) d_R_sheet_82 rfl ?_
              refine V2_iastore (j := (t)) d_R_sheet_86 (by decide) rfl (xixA (n := t) rfl (by omega) (by decide)) (xixB (n := t) rfl (by omega)) ?_
              refine V2_iconst (v := 0) d_R_sheet_87 rfl ?_
              refine V2_istore (i := 4) (l' := [some (.ref 65), some (.int (nI t)), some (.int b), some (.int n), some (.int (0 : Int32))]) d_R_sheet_88 (xst_i (Nat.le_of_ble_eq_true rfl) rfl rfl) ?_
              have hb0 : (0 ≤ (nI t).toInt ∧ (nI t).toInt < 4) ∧ (b.toInt = 0 ∨ b.toInt = 8 ∨ b.toInt = 16 ∨ b.toInt = 32) := (by (try clear hQ); (try subst ev1); ((try simp only [xb_eq, xb_ne, Int32.lt_iff_toInt_lt, Int32.le_iff_toInt_le] at *) <;> (try simp only [← Int32.toInt_inj, true_and, false_and, or_false, false_or, or_true, true_or, and_true, and_false] at *) <;> omega))
              have hb1 : b.toInt = 0 := (by (try clear hQ); (try subst ev1); ((try simp only [xb_eq, xb_ne, Int32.lt_iff_toInt_lt, Int32.le_iff_toInt_le] at *) <;> (try simp only [← Int32.toInt_inj, true_and, false_and, or_false, false_or, or_true, true_or, and_true, and_false] at *) <;> omega))
              have e : k_sheet F0 (nI t) b n = (1, sheetG F0 t 0 (nI 0)) := (if_pos hb0).trans ((if_pos hb1).trans (by rw [kt]))
              rw [e] at hQ hM
              have eb : b = 0 := Int32.toInt_inj.mp (by omega)
              subst eb
              refine V2.to (c_R_sheet_loop (F := xp (xp F 74 t 0) 75 t (nI 0)) ht (hQ (sheetG F t 0 (nI 0)) (rel_sheetG hR ht (by omega) (Or.inl rfl) hM)) 25 0 (by omega) (by omega)) rfl rfl rfl ?_
              rw [show cutB (xp (xp F 74 t 0) 75 t (nI 0) 76) (24 * t) 0 = xp (xp F 74 t 0) 75 t (nI 0) 76 from by funext j; unfold cutB; rw [if_neg (by omega)], xrw_self]
              rfl
          · refine V2_iload_n (i := 3) d_R_sheet_53 rfl rfl ?_
            refine V2_bipush (v := 24) d_R_sheet_54 rfl ?_
            refine V2_icmp_le (tgt := 65) d_R_sheet_56 rfl (fun c22 => ?_) (fun c22 => ?_)
            · refine V2_aload_n (i := 0) d_R_sheet_65 rfl rfl ?_
              refine V2_getr (a := 74) d_R_sheet_66 fl_R_38 (by decide) rfl (by decide) rfl ?_
              refine V2_iload_n (i := 1) d_R_sheet_69 rfl rfl ?_
              refine V2_iload_n (i := 2) d_R_sheet_70 rfl rfl ?_
              refine V2_iastore (j := (t)) d_R_sheet_71 (by decide) rfl (xixA (n := t) rfl (by omega) (by decide)) (xixB (n := t) rfl (by omega)) ?_
              refine V2_aload_n (i := 0) d_R_sheet_72 rfl rfl ?_
              refine V2_getr (a := 75) d_R_sheet_73 fl_R_41 (by decide) rfl (by decide) rfl ?_
              refine V2_iload_n (i := 1) d_R_sheet_76 rfl rfl ?_
              refine V2_iload_n (i := 2) d_R_sheet_77 rfl rfl ?_
              refine V2_if_ne (tgt := 85) d_R_sheet_78 rfl (fun c23 => ?_) (fun c23 => ?_)
              · obtain ⟨m, hm, epm⟩ := in_of (x := n) (P := 25) (by (try clear hQ); (try subst ev1); ((try simp only [xb_eq, xb_ne, Int32.lt_iff_toInt_lt, Int32.le_iff_toInt_le] at *) <;> (try simp only [← Int32.toInt_inj, true_and, false_and, or_false, false_or, or_true, true_or, and_true, and_false] at *) <;> omega)) (by (try clear hQ); (try subst ev1); ((try simp only [xb_eq, xb_ne, Int32.lt_iff_toInt_lt, Int32.le_iff_toInt_le] at *) <;> (try simp only [← Int32.toInt_inj, true_and, false_and, or_false, false_or, or_true, true_or, and_true, and_false] at *) <;> omega)) (by omega)
                subst epm
                have nm : (nI m).toInt = (m : Int) := nI_toInt (by omega)
                have km : (nI m).toNatClampNeg = m := nI_clamp (by omega)
                refine V2_iload_n (i := 3) d_R_sheet_85 rfl rfl ?_
                refine V2_iastore (j := (t)) d_R_sheet_86 (by decide) rfl (xixA (n := t) rfl (by omega) (by decide)) (xixB (n := t) rfl (by omega)) ?_
                refine V2_iconst (v := 0) d_R_sheet_87 rfl ?_
                refine V2_istore (i := 4) (l' := [some (.ref 65), some (.int (nI t)), some (.int b), some (.int (nI m)), some (.int (0 : Int32))]) d_R_sheet_88 (xst_i (Nat.le_of_ble_eq_true rfl) rfl rfl) ?_
                have hb0 : (0 ≤ (nI t).toInt ∧ (nI t).toInt < 4) ∧ (b.toInt = 0 ∨ b.toInt = 8 ∨ b.toInt = 16 ∨ b.toInt = 32) := (by (try clear hQ); (try subst ev1); ((try simp only [xb_eq, xb_ne, Int32.lt_iff_toInt_lt, Int32.le_iff_toInt_le] at *) <;> (try simp only [← Int32.toInt_inj, true_and, false_and, or_false, false_or, or_true, true_or, and_true, and_false] at *) <;> omega))
                have hb1 : ¬ (b.toInt = 0) := (by (try clear hQ); (try subst ev1); ((try simp only [xb_eq, xb_ne, Int32.lt_iff_toInt_lt, Int32.le_iff_toInt_le] at *) <;> (try simp only [← Int32.toInt_inj, true_and, false_and, or_false, false_or, or_true, true_or, and_true, and_false] at *) <;> omega))
                have hb2 : ¬ ((nI m).toInt < 0) := (by (try clear hQ); (try subst ev1); ((try simp only [xb_eq, xb_ne, Int32.lt_iff_toInt_lt, Int32.le_iff_toInt_le] at *) <;> (try simp only [← Int32.toInt_inj, true_and, false_and, or_false, false_or, or_true, true_or, and_true, and_false] at *) <;> omega))
                have hb3 : ¬ (24 < (nI m).toInt) := (by (try clear hQ); (try subst ev1); ((try simp only [xb_eq, xb_ne, Int32.lt_iff_toInt_lt, Int32.le_iff_toInt_le] at *) <;> (try simp only [← Int32.toInt_inj, true_and, false_and, or_false, false_or, or_true, true_or, and_true, and_false] at *) <;> omega))
                have e : k_sheet F0 (nI t) b (nI m) = (1, sheetG F0 t b (nI m)) := (if_pos hb0).trans ((if_neg hb1).trans ((if_neg hb2).trans ((if_neg hb3).trans (by rw [kt]))))
                rw [e] at hQ hM
                have hbb : b = 0 ∨ b = 8 ∨ b = 16 ∨ b = 32 := by
                  simp only [← Int32.toInt_inj]
                  omega
                refine V2.to (c_R_sheet_loop (F := xp (xp F 74 t b) 75 t (nI m)) ht (hQ (sheetG F t b (nI m)) (rel_sheetG hR ht (by omega) hbb hM)) 25 0 (by omega) (by omega)) rfl rfl rfl ?_
                rw [show cutB (xp (xp F 74 t b) 75 t (nI m) 76) (24 * t) 0 = xp (xp F 74 t b) 75 t (nI m) 76 from by funext j; unfold cutB; rw [if_neg (by omega)], xrw_self]
              · refine V2_iconst (v := 0) d_R_sheet_81 rfl ?_
                refine V2_goto (tgt := 86) d_R_sheet_82 rfl ?_
                refine V2_iastore (j := (t)) d_R_sheet_86 (by decide) rfl (xixA (n := t) rfl (by omega) (by decide)) (xixB (n := t) rfl (by omega)) ?_
                refine V2_iconst (v := 0) d_R_sheet_87 rfl ?_
                refine V2_istore (i := 4) (l' := [some (.ref 65), some (.int (nI t)), some (.int b), some (.int n), some (.int (0 : Int32))]) d_R_sheet_88 (xst_i (Nat.le_of_ble_eq_true rfl) rfl rfl) ?_
                have hb0 : (0 ≤ (nI t).toInt ∧ (nI t).toInt < 4) ∧ (b.toInt = 0 ∨ b.toInt = 8 ∨ b.toInt = 16 ∨ b.toInt = 32) := (by (try clear hQ); (try subst ev1); ((try simp only [xb_eq, xb_ne, Int32.lt_iff_toInt_lt, Int32.le_iff_toInt_le] at *) <;> (try simp only [← Int32.toInt_inj, true_and, false_and, or_false, false_or, or_true, true_or, and_true, and_false] at *) <;> omega))
                have hb1 : b.toInt = 0 := (by (try clear hQ); (try subst ev1); ((try simp only [xb_eq, xb_ne, Int32.lt_iff_toInt_lt, Int32.le_iff_toInt_le] at *) <;> (try simp only [← Int32.toInt_inj, true_and, false_and, or_false, false_or, or_true, true_or, and_true, and_false] at *) <;> omega))
                have e : k_sheet F0 (nI t) b n = (1, sheetG F0 t 0 (nI 0)) := (if_pos hb0).trans ((if_pos hb1).trans (by rw [kt]))
                rw [e] at hQ hM
                have eb : b = 0 := Int32.toInt_inj.mp (by omega)
                subst eb
                refine V2.to (c_R_sheet_loop (F := xp (xp F 74 t 0) 75 t (nI 0)) ht (hQ (sheetG F t 0 (nI 0)) (rel_sheetG hR ht (by omega) (Or.inl rfl) hM)) 25 0 (by omega) (by omega)) rfl rfl rfl ?_
                rw [show cutB (xp (xp F 74 t 0) 75 t (nI 0) 76) (24 * t) 0 = xp (xp F 74 t 0) 75 t (nI 0) 76 from by funext j; unfold cutB; rw [if_neg (by omega)], xrw_self]
                rfl
            · refine V2_aload_n (i := 0) d_R_sheet_59 rfl rfl ?_
              refine V2_iconst (v := 1) d_R_sheet_60 rfl ?_
              refine V2_callV [.int (1 : Int32)] d_R_sheet_61 rfl rfl lk_R_55 mo_R_error (by decide) rfl rfl rfl (Nat.le_of_ble_eq_true rfl) (Nat.le_of_ble_eq_true rfl) ?_
              refine c_R_error1 ?_
              refine V2_topi (fun v24 ev24 => ?_)
              refine V2_ireturn d_R_sheet_64 rfl ?_
              have hb0 : (0 ≤ (nI t).toInt ∧ (nI t).toInt < 4) ∧ (b.toInt = 0 ∨ b.toInt = 8 ∨ b.toInt = 16 ∨ b.toInt = 32) := (by (try clear hQ); (try subst ev24 ev1); ((try simp only [xb_eq, xb_ne, Int32.lt_iff_toInt_lt, Int32.le_iff_toInt_le] at *) <;> (try simp only [← Int32.toInt_inj, true_and, false_and, or_false, false_or, or_true, true_or, and_true, and_false] at *) <;> omega))
              have hb1 : ¬ (b.toInt = 0) := (by (try clear hQ); (try subst ev24 ev1); ((try simp only [xb_eq, xb_ne, Int32.lt_iff_toInt_lt, Int32.le_iff_toInt_le] at *) <;> (try simp only [← Int32.toInt_inj, true_and, false_and, or_false, false_or, or_true, true_or, and_true, and_false] at *) <;> omega))
              have hb2 : ¬ (n.toInt < 0) := (by (try clear hQ); (try subst ev24 ev1); ((try simp only [xb_eq, xb_ne, Int32.lt_iff_toInt_lt, Int32.le_iff_toInt_le] at *) <;> (try simp only [← Int32.toInt_inj, true_and, false_and, or_false, false_or, or_true, true_or, and_true, and_false] at *) <;> omega))
              have hb3 : 24 < n.toInt := (by (try clear hQ); (try subst ev24 ev1); ((try simp only [xb_eq, xb_ne, Int32.lt_iff_toInt_lt, Int32.le_iff_toInt_le] at *) <;> (try simp only [← Int32.toInt_inj, true_and, false_and, or_false, false_or, or_true, true_or, and_true, and_false] at *) <;> omega))
              have e : k_sheet F0 (nI t) b n = (-1000000000 - 1, errF F0 1) := (if_pos hb0).trans ((if_neg hb1).trans ((if_neg hb2).trans (if_pos hb3)))
              rw [e] at hQ hM
              subst ev24 ev1
              exact xQi (hQ _ (rel_err hR hM)) rfl rfl
        · refine V2_iload_n (i := 3) d_R_sheet_39 rfl rfl ?_
          refine V2_if_ge (tgt := 49) d_R_sheet_40 rfl (fun c25 => ?_) (fun c25 => ?_)
          · refine V2_iload_n (i := 2) d_R_sheet_49 rfl rfl ?_
            refine V2_if_eq (tgt := 65) d_R_sheet_50 rfl (fun c26 => ?_) (fun c26 => ?_)
            · refine V2_aload_n (i := 0) d_R_sheet_65 rfl rfl ?_
              refine V2_getr (a := 74) d_R_sheet_66 fl_R_38 (by decide) rfl (by decide) rfl ?_
              refine V2_iload_n (i := 1) d_R_sheet_69 rfl rfl ?_
              refine V2_iload_n (i := 2) d_R_sheet_70 rfl rfl ?_
              refine V2_iastore (j := (t)) d_R_sheet_71 (by decide) rfl (xixA (n := t) rfl (by omega) (by decide)) (xixB (n := t) rfl (by omega)) ?_
              refine V2_aload_n (i := 0) d_R_sheet_72 rfl rfl ?_
              refine V2_getr (a := 75) d_R_sheet_73 fl_R_41 (by decide) rfl (by decide) rfl ?_
              refine V2_iload_n (i := 1) d_R_sheet_76 rfl rfl ?_
              refine V2_iload_n (i := 2) d_R_sheet_77 rfl rfl ?_
              refine V2_if_ne (tgt := 85) d_R_sheet_78 rfl (fun c27 => ?_) (fun c27 => ?_)
              · obtain ⟨m, hm, epm⟩ := in_of (x := n) (P := 25) (by (try clear hQ); (try subst ev1); ((try simp only [xb_eq, xb_ne, Int32.lt_iff_toInt_lt, Int32.le_iff_toInt_le] at *) <;> (try simp only [← Int32.toInt_inj, true_and, false_and, or_false, false_or, or_true, true_or, and_true, and_false] at *) <;> omega)) (by (try clear hQ); (try subst ev1); ((try simp only [xb_eq, xb_ne, Int32.lt_iff_toInt_lt, Int32.le_iff_toInt_le] at *) <;> (try simp only [← Int32.toInt_inj, true_and, false_and, or_false, false_or, or_true, true_or, and_true, and_false] at *) <;> omega)) (by omega)
                subst epm
                have nm : (nI m).toInt = (m : Int) := nI_toInt (by omega)
                have km : (nI m).toNatClampNeg = m := nI_clamp (by omega)
                refine V2_iload_n (i := 3) d_R_sheet_85 rfl rfl ?_
                refine V2_iastore (j := (t)) d_R_sheet_86 (by decide) rfl (xixA (n := t) rfl (by omega) (by decide)) (xixB (n := t) rfl (by omega)) ?_
                refine V2_iconst (v := 0) d_R_sheet_87 rfl ?_
                refine V2_istore (i := 4) (l' := [some (.ref 65), some (.int (nI t)), some (.int b), some (.int (nI m)), some (.int (0 : Int32))]) d_R_sheet_88 (xst_i (Nat.le_of_ble_eq_true rfl) rfl rfl) ?_
                have hb0 : (0 ≤ (nI t).toInt ∧ (nI t).toInt < 4) ∧ (b.toInt = 0 ∨ b.toInt = 8 ∨ b.toInt = 16 ∨ b.toInt = 32) := (by (try clear hQ); (try subst ev1); ((try simp only [xb_eq, xb_ne, Int32.lt_iff_toInt_lt, Int32.le_iff_toInt_le] at *) <;> (try simp only [← Int32.toInt_inj, true_and, false_and, or_false, false_or, or_true, true_or, and_true, and_false] at *) <;> omega))
                have hb1 : ¬ (b.toInt = 0) := (by (try clear hQ); (try subst ev1); ((try simp only [xb_eq, xb_ne, Int32.lt_iff_toInt_lt, Int32.le_iff_toInt_le] at *) <;> (try simp only [← Int32.toInt_inj, true_and, false_and, or_false, false_or, or_true, true_or, and_true, and_false] at *) <;> omega))
                have hb2 : ¬ ((nI m).toInt < 0) := (by (try clear hQ); (try subst ev1); ((try simp only [xb_eq, xb_ne, Int32.lt_iff_toInt_lt, Int32.le_iff_toInt_le] at *) <;> (try simp only [← Int32.toInt_inj, true_and, false_and, or_false, false_or, or_true, true_or, and_true, and_false] at *) <;> omega))
                have hb3 : ¬ (24 < (nI m).toInt) := (by (try clear hQ); (try subst ev1); ((try simp only [xb_eq, xb_ne, Int32.lt_iff_toInt_lt, Int32.le_iff_toInt_le] at *) <;> (try simp only [← Int32.toInt_inj, true_and, false_and, or_false, false_or, or_true, true_or, and_true, and_false] at *) <;> omega))
                have e : k_sheet F0 (nI t) b (nI m) = (1, sheetG F0 t b (nI m)) := (if_pos hb0).trans ((if_neg hb1).trans ((if_neg hb2).trans ((if_neg hb3).trans (by rw [kt]))))
                rw [e] at hQ hM
                have hbb : b = 0 ∨ b = 8 ∨ b = 16 ∨ b = 32 := by
                  simp only [← Int32.toInt_inj]
                  omega
                refine V2.to (c_R_sheet_loop (F := xp (xp F 74 t b) 75 t (nI m)) ht (hQ (sheetG F t b (nI m)) (rel_sheetG hR ht (by omega) hbb hM)) 25 0 (by omega) (by omega)) rfl rfl rfl ?_
                rw [show cutB (xp (xp F 74 t b) 75 t (nI m) 76) (24 * t) 0 = xp (xp F 74 t b) 75 t (nI m) 76 from by funext j; unfold cutB; rw [if_neg (by omega)], xrw_self]
              · refine V2_iconst (v := 0) d_R_sheet_81 rfl ?_
                refine V2_goto (tgt := 86) d_R_sheet_82 rfl ?_
                refine V2_iastore (j := (t)) d_R_sheet_86 (by decide) rfl (xixA (n := t) rfl (by omega) (by decide)) (xixB (n := t) rfl (by omega)) ?_
                refine V2_iconst (v := 0) d_R_sheet_87 rfl ?_
                refine V2_istore (i := 4) (l' := [some (.ref 65), some (.int (nI t)), some (.int b), some (.int n), some (.int (0 : Int32))]) d_R_sheet_88 (xst_i (Nat.le_of_ble_eq_true rfl) rfl rfl) ?_
                have hb0 : (0 ≤ (nI t).toInt ∧ (nI t).toInt < 4) ∧ (b.toInt = 0 ∨ b.toInt = 8 ∨ b.toInt = 16 ∨ b.toInt = 32) := (by (try clear hQ); (try subst ev1); ((try simp only [xb_eq, xb_ne, Int32.lt_iff_toInt_lt, Int32.le_iff_toInt_le] at *) <;> (try simp only [← Int32.toInt_inj, true_and, false_and, or_false, false_or, or_true, true_or, and_true, and_false] at *) <;> omega))
                have hb1 : b.toInt = 0 := (by (try clear hQ); (try subst ev1); ((try simp only [xb_eq, xb_ne, Int32.lt_iff_toInt_lt, Int32.le_iff_toInt_le] at *) <;> (try simp only [← Int32.toInt_inj, true_and, false_and, or_false, false_or, or_true, true_or, and_true, and_false] at *) <;> omega))
                have e : k_sheet F0 (nI t) b n = (1, sheetG F0 t 0 (nI 0)) := (if_pos hb0).trans ((if_pos hb1).trans (by rw [kt]))
                rw [e] at hQ hM
                have eb : b = 0 := Int32.toInt_inj.mp (by omega)
                subst eb
                refine V2.to (c_R_sheet_loop (F := xp (xp F 74 t 0) 75 t (nI 0)) ht (hQ (sheetG F t 0 (nI 0)) (rel_sheetG hR ht (by omega) (Or.inl rfl) hM)) 25 0 (by omega) (by omega)) rfl rfl rfl ?_
                rw [show cutB (xp (xp F 74 t 0) 75 t (nI 0) 76) (24 * t) 0 = xp (xp F 74 t 0) 75 t (nI 0) 76 from by funext j; unfold cutB; rw [if_neg (by omega)], xrw_self]
                rfl
            · refine V2_iload_n (i := 3) d_R_sheet_53 rfl rfl ?_
              refine V2_bipush (v := 24) d_R_sheet_54 rfl ?_
              refine V2_icmp_le (tgt := 65) d_R_sheet_56 rfl (fun c28 => ?_) (fun c28 => ?_)
              · refine V2_aload_n (i := 0) d_R_sheet_65 rfl rfl ?_
                refine V2_getr (a := 74) d_R_sheet_66 fl_R_38 (by decide) rfl (by decide) rfl ?_
                refine V2_iload_n (i := 1) d_R_sheet_69 rfl rfl ?_
                refine V2_iload_n (i := 2) d_R_sheet_70 rfl rfl ?_
                refine V2_iastore (j := (t)) d_R_sheet_71 (by decide) rfl (xixA (n := t) rfl (by omega) (by decide)) (xixB (n := t) rfl (by omega)) ?_
                refine V2_aload_n (i := 0) d_R_sheet_72 rfl rfl ?_
                refine V2_getr (a := 75) d_R_sheet_73 fl_R_41 (by decide) rfl (by decide) rfl ?_
                refine V2_iload_n (i := 1) d_R_sheet_76 rfl rfl ?_
                refine V2_iload_n (i := 2) d_R_sheet_77 rfl rfl ?_
                refine V2_if_ne (tgt := 85) d_R_sheet_78 rfl (fun c29 => ?_) (fun c29 => ?_)
                · obtain ⟨m, hm, epm⟩ := in_of (x := n) (P := 25) (by (try clear hQ); (try subst ev1); ((try simp only [xb_eq, xb_ne, Int32.lt_iff_toInt_lt, Int32.le_iff_toInt_le] at *) <;> (try simp only [← Int32.toInt_inj, true_and, false_and, or_false, false_or, or_true, true_or, and_true, and_false] at *) <;> omega)) (by (try clear hQ); (try subst ev1); ((try simp only [xb_eq, xb_ne, Int32.lt_iff_toInt_lt, Int32.le_iff_toInt_le] at *) <;> (try simp only [← Int32.toInt_inj, true_and, false_and, or_false, false_or, or_true, true_or, and_true, and_false] at *) <;> omega)) (by omega)
                  subst epm
                  have nm : (nI m).toInt = (m : Int) := nI_toInt (by omega)
                  have km : (nI m).toNatClampNeg = m := nI_clamp (by omega)
                  refine V2_iload_n (i := 3) d_R_sheet_85 rfl rfl ?_
                  refine V2_iastore (j := (t)) d_R_sheet_86 (by decide) rfl (xixA (n := t) rfl (by omega) (by decide)) (xixB (n := t) rfl (by omega)) ?_
                  refine V2_iconst (v := 0) d_R_sheet_87 rfl ?_
                  refine V2_istore (i := 4) (l' := [some (.ref 65), some (.int (nI t)), some (.int b), some (.int (nI m)), some (.int (0 : Int32))]) d_R_sheet_88 (xst_i (Nat.le_of_ble_eq_true rfl) rfl rfl) ?_
                  have hb0 : (0 ≤ (nI t).toInt ∧ (nI t).toInt < 4) ∧ (b.toInt = 0 ∨ b.toInt = 8 ∨ b.toInt = 16 ∨ b.toInt = 32) := (by (try clear hQ); (try subst ev1); ((try simp only [xb_eq, xb_ne, Int32.lt_iff_toInt_lt, Int32.le_iff_toInt_le] at *) <;> (try simp only [← Int32.toInt_inj, true_and, false_and, or_false, false_or, or_true, true_or, and_true, and_false] at *) <;> omega))
                  have hb1 : ¬ (b.toInt = 0) := (by (try clear hQ); (try subst ev1); ((try simp only [xb_eq, xb_ne, Int32.lt_iff_toInt_lt, Int32.le_iff_toInt_le] at *) <;> (try simp only [← Int32.toInt_inj, true_and, false_and, or_false, false_or, or_true, true_or, and_true, and_false] at *) <;> omega))
                  have hb2 : ¬ ((nI m).toInt < 0) := (by (try clear hQ); (try subst ev1); ((try simp only [xb_eq, xb_ne, Int32.lt_iff_toInt_lt, Int32.le_iff_toInt_le] at *) <;> (try simp only [← Int32.toInt_inj, true_and, false_and, or_false, false_or, or_true, true_or, and_true, and_false] at *) <;> omega))
                  have hb3 : ¬ (24 < (nI m).toInt) := (by (try clear hQ); (try subst ev1); ((try simp only [xb_eq, xb_ne, Int32.lt_iff_toInt_lt, Int32.le_iff_toInt_le] at *) <;> (try simp only [← Int32.toInt_inj, true_and, false_and, or_false, false_or, or_true, true_or, and_true, and_false] at *) <;> omega))
                  have e : k_sheet F0 (nI t) b (nI m) = (1, sheetG F0 t b (nI m)) := (if_pos hb0).trans ((if_neg hb1).trans ((if_neg hb2).trans ((if_neg hb3).trans (by rw [kt]))))
                  rw [e] at hQ hM
                  have hbb : b = 0 ∨ b = 8 ∨ b = 16 ∨ b = 32 := by
                    simp only [← Int32.toInt_inj]
                    omega
                  refine V2.to (c_R_sheet_loop (F := xp (xp F 74 t b) 75 t (nI m)) ht (hQ (sheetG F t b (nI m)) (rel_sheetG hR ht (by omega) hbb hM)) 25 0 (by omega) (by omega)) rfl rfl rfl ?_
                  rw [show cutB (xp (xp F 74 t b) 75 t (nI m) 76) (24 * t) 0 = xp (xp F 74 t b) 75 t (nI m) 76 from by funext j; unfold cutB; rw [if_neg (by omega)], xrw_self]
                · refine V2_iconst (v := 0) d_R_sheet_81 rfl ?_
                  refine V2_goto (tgt := 86) d_R_sheet_82 rfl ?_
                  refine V2_iastore (j := (t)) d_R_sheet_86 (by decide) rfl (xixA (n := t) rfl (by omega) (by decide)) (xixB (n := t) rfl (by omega)) ?_
                  refine V2_iconst (v := 0) d_R_sheet_87 rfl ?_
                  refine V2_istore (i := 4) (l' := [some (.ref 65), some (.int (nI t)), some (.int b), some (.int n), some (.int (0 : Int32))]) d_R_sheet_88 (xst_i (Nat.le_of_ble_eq_true rfl) rfl rfl) ?_
                  have hb0 : (0 ≤ (nI t).toInt ∧ (nI t).toInt < 4) ∧ (b.toInt = 0 ∨ b.toInt = 8 ∨ b.toInt = 16 ∨ b.toInt = 32) := (by (try clear hQ); (try subst ev1); ((try simp only [xb_eq, xb_ne, Int32.lt_iff_toInt_lt, Int32.le_iff_toInt_le] at *) <;> (try simp only [← Int32.toInt_inj, true_and, false_and, or_false, false_or, or_true, true_or, and_true, and_false] at *) <;> omega))
                  have hb1 : b.toInt = 0 := (by (try clear hQ); (try subst ev1); ((try simp only [xb_eq, xb_ne, Int32.lt_iff_toInt_lt, Int32.le_iff_toInt_le] at *) <;> (try simp only [← Int32.toInt_inj, true_and, false_and, or_false, false_or, or_true, true_or, and_true, and_false] at *) <;> omega))
                  have e : k_sheet F0 (nI t) b n = (1, sheetG F0 t 0 (nI 0)) := (if_pos hb0).trans ((if_pos hb1).trans (by rw [kt]))
                  rw [e] at hQ hM
                  have eb : b = 0 := Int32.toInt_inj.mp (by omega)
                  subst eb
                  refine V2.to (c_R_sheet_loop (F := xp (xp F 74 t 0) 75 t (nI 0)) ht (hQ (sheetG F t 0 (nI 0)) (rel_sheetG hR ht (by omega) (Or.inl rfl) hM)) 25 0 (by omega) (by omega)) rfl rfl rfl ?_
                  rw [show cutB (xp (xp F 74 t 0) 75 t (nI 0) 76) (24 * t) 0 = xp (xp F 74 t 0) 75 t (nI 0) 76 from by funext j; unfold cutB; rw [if_neg (by omega)], xrw_self]
                  rfl
              · refine V2_aload_n (i := 0) d_R_sheet_59 rfl rfl ?_
                refine V2_iconst (v := 1) d_R_sheet_60 rfl ?_
                refine V2_callV [.int (1 : Int32)] d_R_sheet_61 rfl rfl lk_R_55 mo_R_error (by decide) rfl rfl rfl (Nat.le_of_ble_eq_true rfl) (Nat.le_of_ble_eq_true rfl) ?_
                refine c_R_error1 ?_
                refine V2_topi (fun v30 ev30 => ?_)
                refine V2_ireturn d_R_sheet_64 rfl ?_
                have hb0 : (0 ≤ (nI t).toInt ∧ (nI t).toInt < 4) ∧ (b.toInt = 0 ∨ b.toInt = 8 ∨ b.toInt = 16 ∨ b.toInt = 32) := (by (try clear hQ); (try subst ev30 ev1); ((try simp only [xb_eq, xb_ne, Int32.lt_iff_toInt_lt, Int32.le_iff_toInt_le] at *) <;> (try simp only [← Int32.toInt_inj, true_and, false_and, or_false, false_or, or_true, true_or, and_true, and_false] at *) <;> omega))
                have hb1 : ¬ (b.toInt = 0) := (by (try clear hQ); (try subst ev30 ev1); ((try simp only [xb_eq, xb_ne, Int32.lt_iff_toInt_lt, Int32.le_iff_toInt_le] at *) <;> (try simp only [← Int32.toInt_inj, true_and, false_and, or_false, false_or, or_true, true_or, and_true, and_false] at *) <;> omega))
                have hb2 : ¬ (n.toInt < 0) := (by (try clear hQ); (try subst ev30 ev1); ((try simp only [xb_eq, xb_ne, Int32.lt_iff_toInt_lt, Int32.le_iff_toInt_le] at *) <;> (try simp only [← Int32.toInt_inj, true_and, false_and, or_false, false_or, or_true, true_or, and_true, and_false] at *) <;> omega))
                have hb3 : 24 < n.toInt := (by (try clear hQ); (try subst ev30 ev1); ((try simp only [xb_eq, xb_ne, Int32.lt_iff_toInt_lt, Int32.le_iff_toInt_le] at *) <;> (try simp only [← Int32.toInt_inj, true_and, false_and, or_false, false_or, or_true, true_or, and_true, and_false] at *) <;> omega))
                have e : k_sheet F0 (nI t) b n = (-1000000000 - 1, errF F0 1) := (if_pos hb0).trans ((if_neg hb1).trans ((if_neg hb2).trans (if_pos hb3)))
                rw [e] at hQ hM
                subst ev30 ev1
                exact xQi (hQ _ (rel_err hR hM)) rfl rfl
          · refine V2_aload_n (i := 0) d_R_sheet_43 rfl rfl ?_
            refine V2_iconst (v := 3) d_R_sheet_44 rfl ?_
            refine V2_callV [.int (3 : Int32)] d_R_sheet_45 rfl rfl lk_R_55 mo_R_error (by decide) rfl rfl rfl (Nat.le_of_ble_eq_true rfl) (Nat.le_of_ble_eq_true rfl) ?_
            refine c_R_error3 ?_
            refine V2_topi (fun v31 ev31 => ?_)
            refine V2_ireturn d_R_sheet_48 rfl ?_
            have hb0 : (0 ≤ (nI t).toInt ∧ (nI t).toInt < 4) ∧ (b.toInt = 0 ∨ b.toInt = 8 ∨ b.toInt = 16 ∨ b.toInt = 32) := (by (try clear hQ); (try subst ev31 ev1); ((try simp only [xb_eq, xb_ne, Int32.lt_iff_toInt_lt, Int32.le_iff_toInt_le] at *) <;> (try simp only [← Int32.toInt_inj, true_and, false_and, or_false, false_or, or_true, true_or, and_true, and_false] at *) <;> omega))
            have hb1 : ¬ (b.toInt = 0) := (by (try clear hQ); (try subst ev31 ev1); ((try simp only [xb_eq, xb_ne, Int32.lt_iff_toInt_lt, Int32.le_iff_toInt_le] at *) <;> (try simp only [← Int32.toInt_inj, true_and, false_and, or_false, false_or, or_true, true_or, and_true, and_false] at *) <;> omega))
            have hb2 : n.toInt < 0 := (by (try clear hQ); (try subst ev31 ev1); ((try simp only [xb_eq, xb_ne, Int32.lt_iff_toInt_lt, Int32.le_iff_toInt_le] at *) <;> (try simp only [← Int32.toInt_inj, true_and, false_and, or_false, false_or, or_true, true_or, and_true, and_false] at *) <;> omega))
            have e : k_sheet F0 (nI t) b n = (-1000000000 - 3, errF F0 3) := (if_pos hb0).trans ((if_neg hb1).trans (if_pos hb2))
            rw [e] at hQ hM
            subst ev31 ev1
            exact xQi (hQ _ (rel_err hR hM)) rfl rfl
      · refine V2_iload_n (i := 2) d_R_sheet_17 rfl rfl ?_
        refine V2_bipush (v := 16) d_R_sheet_18 rfl ?_
        refine V2_icmp_eq (tgt := 35) d_R_sheet_20 rfl (fun c32 => ?_) (fun c32 => ?_)
        · refine V2_iload_n (i := 2) d_R_sheet_35 rfl rfl ?_
          refine V2_if_eq (tgt := 49) d_R_sheet_36 rfl (fun c33 => ?_) (fun c33 => ?_)
          · refine V2_iload_n (i := 2) d_R_sheet_49 rfl rfl ?_
            refine V2_if_eq (tgt := 65) d_R_sheet_50 rfl (fun c34 => ?_) (fun c34 => ?_)
            · refine V2_aload_n (i := 0) d_R_sheet_65 rfl rfl ?_
              refine V2_getr (a := 74) d_R_sheet_66 fl_R_38 (by decide) rfl (by decide) rfl ?_
              refine V2_iload_n (i := 1) d_R_sheet_69 rfl rfl ?_
              refine V2_iload_n (i := 2) d_R_sheet_70 rfl rfl ?_
              refine V2_iastore (j := (t)) d_R_sheet_71 (by decide) rfl (xixA (n := t) rfl (by omega) (by decide)) (xixB (n := t) rfl (by omega)) ?_
              refine V2_aload_n (i := 0) d_R_sheet_72 rfl rfl ?_
              refine V2_getr (a := 75) d_R_sheet_73 fl_R_41 (by decide) rfl (by decide) rfl ?_
              refine V2_iload_n (i := 1) d_R_sheet_76 rfl rfl ?_
              refine V2_iload_n (i := 2) d_R_sheet_77 rfl rfl ?_
              refine V2_if_ne (tgt := 85) d_R_sheet_78 rfl (fun c35 => ?_) (fun c35 => ?_)
              · obtain ⟨m, hm, epm⟩ := in_of (x := n) (P := 25) (by (try clear hQ); (try subst ev1); ((try simp only [xb_eq, xb_ne, Int32.lt_iff_toInt_lt, Int32.le_iff_toInt_le] at *) <;> (try simp only [← Int32.toInt_inj, true_and, false_and, or_false, false_or, or_true, true_or, and_true, and_false] at *) <;> omega)) (by (try clear hQ); (try subst ev1); ((try simp only [xb_eq, xb_ne, Int32.lt_iff_toInt_lt, Int32.le_iff_toInt_le] at *) <;> (try simp only [← Int32.toInt_inj, true_and, false_and, or_false, false_or, or_true, true_or, and_true, and_false] at *) <;> omega)) (by omega)
                subst epm
                have nm : (nI m).toInt = (m : Int) := nI_toInt (by omega)
                have km : (nI m).toNatClampNeg = m := nI_clamp (by omega)
                refine V2_iload_n (i := 3) d_R_sheet_85 rfl rfl ?_
                refine V2_iastore (j := (t)) d_R_sheet_86 (by decide) rfl (xixA (n := t) rfl (by omega) (by decide)) (xixB (n := t) rfl (by omega)) ?_
                refine V2_iconst (v := 0) d_R_sheet_87 rfl ?_
                refine V2_istore (i := 4) (l' := [some (.ref 65), some (.int (nI t)), some (.int b), some (.int (nI m)), some (.int (0 : Int32))]) d_R_sheet_88 (xst_i (Nat.le_of_ble_eq_true rfl) rfl rfl) ?_
                have hb0 : (0 ≤ (nI t).toInt ∧ (nI t).toInt < 4) ∧ (b.toInt = 0 ∨ b.toInt = 8 ∨ b.toInt = 16 ∨ b.toInt = 32) := (by (try clear hQ); (try subst ev1); ((try simp only [xb_eq, xb_ne, Int32.lt_iff_toInt_lt, Int32.le_iff_toInt_le] at *) <;> (try simp only [← Int32.toInt_inj, true_and, false_and, or_false, false_or, or_true, true_or, and_true, and_false] at *) <;> omega))
                have hb1 : ¬ (b.toInt = 0) := (by (try clear hQ); (try subst ev1); ((try simp only [xb_eq, xb_ne, Int32.lt_iff_toInt_lt, Int32.le_iff_toInt_le] at *) <;> (try simp only [← Int32.toInt_inj, true_and, false_and, or_false, false_or, or_true, true_or, and_true, and_false] at *) <;> omega))
                have hb2 : ¬ ((nI m).toInt < 0) := (by (try clear hQ); (try subst ev1); ((try simp only [xb_eq, xb_ne, Int32.lt_iff_toInt_lt, Int32.le_iff_toInt_le] at *) <;> (try simp only [← Int32.toInt_inj, true_and, false_and, or_false, false_or, or_true, true_or, and_true, and_false] at *) <;> omega))
                have hb3 : ¬ (24 < (nI m).toInt) := (by (try clear hQ); (try subst ev1); ((try simp only [xb_eq, xb_ne, Int32.lt_iff_toInt_lt, Int32.le_iff_toInt_le] at *) <;> (try simp only [← Int32.toInt_inj, true_and, false_and, or_false, false_or, or_true, true_or, and_true, and_false] at *) <;> omega))
                have e : k_sheet F0 (nI t) b (nI m) = (1, sheetG F0 t b (nI m)) := (if_pos hb0).trans ((if_neg hb1).trans ((if_neg hb2).trans ((if_neg hb3).trans (by rw [kt]))))
                rw [e] at hQ hM
                have hbb : b = 0 ∨ b = 8 ∨ b = 16 ∨ b = 32 := by
                  simp only [← Int32.toInt_inj]
                  omega
                refine V2.to (c_R_sheet_loop (F := xp (xp F 74 t b) 75 t (nI m)) ht (hQ (sheetG F t b (nI m)) (rel_sheetG hR ht (by omega) hbb hM)) 25 0 (by omega) (by omega)) rfl rfl rfl ?_
                rw [show cutB (xp (xp F 74 t b) 75 t (nI m) 76) (24 * t) 0 = xp (xp F 74 t b) 75 t (nI m) 76 from by funext j; unfold cutB; rw [if_neg (by omega)], xrw_self]
              · refine V2_iconst (v := 0) d_R_sheet_81 rfl ?_
                refine V2_goto (tgt := 86) d_R_sheet_82 rfl ?_
                refine V2_iastore (j := (t)) d_R_sheet_86 (by decide) rfl (xixA (n := t) rfl (by omega) (by decide)) (xixB (n := t) rfl (by omega)) ?_
                refine V2_iconst (v := 0) d_R_sheet_87 rfl ?_
                refine V2_istore (i := 4) (l' := [some (.ref 65), some (.int (nI t)), some (.int b), some (.int n), some (.int (0 : Int32))]) d_R_sheet_88 (xst_i (Nat.le_of_ble_eq_true rfl) rfl rfl) ?_
                have hb0 : (0 ≤ (nI t).toInt ∧ (nI t).toInt < 4) ∧ (b.toInt = 0 ∨ b.toInt = 8 ∨ b.toInt = 16 ∨ b.toInt = 32) := (by (try clear hQ); (try subst ev1); ((try simp only [xb_eq, xb_ne, Int32.lt_iff_toInt_lt, Int32.le_iff_toInt_le] at *) <;> (try simp only [← Int32.toInt_inj, true_and, false_and, or_false, false_or, or_true, true_or, and_true, and_false] at *) <;> omega))
                have hb1 : b.toInt = 0 := (by (try clear hQ); (try subst ev1); ((try simp only [xb_eq, xb_ne, Int32.lt_iff_toInt_lt, Int32.le_iff_toInt_le] at *) <;> (try simp only [← Int32.toInt_inj, true_and, false_and, or_false, false_or, or_true, true_or, and_true, and_false] at *) <;> omega))
                have e : k_sheet F0 (nI t) b n = (1, sheetG F0 t 0 (nI 0)) := (if_pos hb0).trans ((if_pos hb1).trans (by rw [kt]))
                rw [e] at hQ hM
                have eb : b = 0 := Int32.toInt_inj.mp (by omega)
                subst eb
                refine V2.to (c_R_sheet_loop (F := xp (xp F 74 t 0) 75 t (nI 0)) ht (hQ (sheetG F t 0 (nI 0)) (rel_sheetG hR ht (by omega) (Or.inl rfl) hM)) 25 0 (by omega) (by omega)) rfl rfl rfl ?_
                rw [show cutB (xp (xp F 74 t 0) 75 t (nI 0) 76) (24 * t) 0 = xp (xp F 74 t 0) 75 t (nI 0) 76 from by funext j; unfold cutB; rw [if_neg (by omega)], xrw_self]
                rfl
            · refine V2_iload_n (i := 3) d_R_sheet_53 rfl rfl ?_
              refine V2_bipush (v := 24) d_R_sheet_54 rfl ?_
              refine V2_icmp_le (tgt := 65) d_R_sheet_56 rfl (fun c36 => ?_) (fun c36 => ?_)
              · refine V2_aload_n (i := 0) d_R_sheet_65 rfl rfl ?_
                refine V2_getr (a := 74) d_R_sheet_66 fl_R_38 (by decide) rfl (by decide) rfl ?_
                refine V2_iload_n (i := 1) d_R_sheet_69 rfl rfl ?_
                refine V2_iload_n (i := 2) d_R_sheet_70 rfl rfl ?_
                refine V2_iastore (j := (t)) d_R_sheet_71 (by decide) rfl (xixA (n := t) rfl (by omega) (by decide)) (xixB (n := t) rfl (by omega)) ?_
                refine V2_aload_n (i := 0) d_R_sheet_72 rfl rfl ?_
                refine V2_getr (a := 75) d_R_sheet_73 fl_R_41 (by decide) rfl (by decide) rfl ?_
                refine V2_iload_n (i := 1) d_R_sheet_76 rfl rfl ?_
                refine V2_iload_n (i := 2) d_R_sheet_77 rfl rfl ?_
                refine V2_if_ne (tgt := 85) d_R_sheet_78 rfl (fun c37 => ?_) (fun c37 => ?_)
                · obtain ⟨m, hm, epm⟩ := in_of (x := n) (P := 25) (by (try clear hQ); (try subst ev1); ((try simp only [xb_eq, xb_ne, Int32.lt_iff_toInt_lt, Int32.le_iff_toInt_le] at *) <;> (try simp only [← Int32.toInt_inj, true_and, false_and, or_false, false_or, or_true, true_or, and_true, and_false] at *) <;> omega)) (by (try clear hQ); (try subst ev1); ((try simp only [xb_eq, xb_ne, Int32.lt_iff_toInt_lt, Int32.le_iff_toInt_le] at *) <;> (try simp only [← Int32.toInt_inj, true_and, false_and, or_false, false_or, or_true, true_or, and_true, and_false] at *) <;> omega)) (by omega)
                  subst epm
                  have nm : (nI m).toInt = (m : Int) := nI_toInt (by omega)
                  have km : (nI m).toNatClampNeg = m := nI_clamp (by omega)
                  refine V2_iload_n (i := 3) d_R_sheet_85 rfl rfl ?_
                  refine V2_iastore (j := (t)) d_R_sheet_86 (by decide) rfl (xixA (n := t) rfl (by omega) (by decide)) (xixB (n := t) rfl (by omega)) ?_
                  refine V2_iconst (v := 0) d_R_sheet_87 rfl ?_
                  refine V2_istore (i := 4) (l' := [some (.ref 65), some (.int (nI t)), some (.int b), some (.int (nI m)), some (.int (0 : Int32))]) d_R_sheet_88 (xst_i (Nat.le_of_ble_eq_true rfl) rfl rfl) ?_
                  have hb0 : (0 ≤ (nI t).toInt ∧ (nI t).toInt < 4) ∧ (b.toInt = 0 ∨ b.toInt = 8 ∨ b.toInt = 16 ∨ b.toInt = 32) := (by (try clear hQ); (try subst ev1); ((try simp only [xb_eq, xb_ne, Int32.lt_iff_toInt_lt, Int32.le_iff_toInt_le] at *) <;> (try simp only [← Int32.toInt_inj, true_and, false_and, or_false, false_or, or_true, true_or, and_true, and_false] at *) <;> omega))
                  have hb1 : ¬ (b.toInt = 0) := (by (try clear hQ); (try subst ev1); ((try simp only [xb_eq, xb_ne, Int32.lt_iff_toInt_lt, Int32.le_iff_toInt_le] at *) <;> (try simp only [← Int32.toInt_inj, true_and, false_and, or_false, false_or, or_true, true_or, and_true, and_false] at *) <;> omega))
                  have hb2 : ¬ ((nI m).toInt < 0) := (by (try clear hQ); (try subst ev1); ((try simp only [xb_eq, xb_ne, Int32.lt_iff_toInt_lt, Int32.le_iff_toInt_le] at *) <;> (try simp only [← Int32.toInt_inj, true_and, false_and, or_false, false_or, or_true, true_or, and_true, and_false] at *) <;> omega))
                  have hb3 : ¬ (24 < (nI m).toInt) := (by (try clear hQ); (try subst ev1); ((try simp only [xb_eq, xb_ne, Int32.lt_iff_toInt_lt, Int32.le_iff_toInt_le] at *) <;> (try simp only [← Int32.toInt_inj, true_and, false_and, or_false, false_or, or_true, true_or, and_true, and_false] at *) <;> omega))
                  have e : k_sheet F0 (nI t) b (nI m) = (1, sheetG F0 t b (nI m)) := (if_pos hb0).trans ((if_neg hb1).trans ((if_neg hb2).trans ((if_neg hb3).trans (by rw [kt]))))
                  rw [e] at hQ hM
                  have hbb : b = 0 ∨ b = 8 ∨ b = 16 ∨ b = 32 := by
                    simp only [← Int32.toInt_inj]
                    omega
                  refine V2.to (c_R_sheet_loop (F := xp (xp F 74 t b) 75 t (nI m)) ht (hQ (sheetG F t b (nI m)) (rel_sheetG hR ht (by omega) hbb hM)) 25 0 (by omega) (by omega)) rfl rfl rfl ?_
                  rw [show cutB (xp (xp F 74 t b) 75 t (nI m) 76) (24 * t) 0 = xp (xp F 74 t b) 75 t (nI m) 76 from by funext j; unfold cutB; rw [if_neg (by omega)], xrw_self]
                · refine V2_iconst (v := 0) d_R_sheet_81 rfl ?_
                  refine V2_goto (tgt := 86) d_R_sheet_82 rfl ?_
                  refine V2_iastore (j := (t)) d_R_sheet_86 (by decide) rfl (xixA (n := t) rfl (by omega) (by decide)) (xixB (n := t) rfl (by omega)) ?_
                  refine V2_iconst (v := 0) d_R_sheet_87 rfl ?_
                  refine V2_istore (i := 4) (l' := [some (.ref 65), some (.int (nI t)), some (.int b), some (.int n), some (.int (0 : Int32))]) d_R_sheet_88 (xst_i (Nat.le_of_ble_eq_true rfl) rfl rfl) ?_
                  have hb0 : (0 ≤ (nI t).toInt ∧ (nI t).toInt < 4) ∧ (b.toInt = 0 ∨ b.toInt = 8 ∨ b.toInt = 16 ∨ b.toInt = 32) := (by (try clear hQ); (try subst ev1); ((try simp only [xb_eq, xb_ne, Int32.lt_iff_toInt_lt, Int32.le_iff_toInt_le] at *) <;> (try simp only [← Int32.toInt_inj, true_and, false_and, or_false, false_or, or_true, true_or, and_true, and_false] at *) <;> omega))
                  have hb1 : b.toInt = 0 := (by (try clear hQ); (try subst ev1); ((try simp only [xb_eq, xb_ne, Int32.lt_iff_toInt_lt, Int32.le_iff_toInt_le] at *) <;> (try simp only [← Int32.toInt_inj, true_and, false_and, or_false, false_or, or_true, true_or, and_true, and_false] at *) <;> omega))
                  have e : k_sheet F0 (nI t) b n = (1, sheetG F0 t 0 (nI 0)) := (if_pos hb0).trans ((if_pos hb1).trans (by rw [kt]))
                  rw [e] at hQ hM
                  have eb : b = 0 := Int32.toInt_inj.mp (by omega)
                  subst eb
                  refine V2.to (c_R_sheet_loop (F := xp (xp F 74 t 0) 75 t (nI 0)) ht (hQ (sheetG F t 0 (nI 0)) (rel_sheetG hR ht (by omega) (Or.inl rfl) hM)) 25 0 (by omega) (by omega)) rfl rfl rfl ?_
                  rw [show cutB (xp (xp F 74 t 0) 75 t (nI 0) 76) (24 * t) 0 = xp (xp F 74 t 0) 75 t (nI 0) 76 from by funext j; unfold cutB; rw [if_neg (by omega)], xrw_self]
                  rfl
              · refine V2_aload_n (i := 0) d_R_sheet_59 rfl rfl ?_
                refine V2_iconst (v := 1) d_R_sheet_60 rfl ?_
                refine V2_callV [.int (1 : Int32)] d_R_sheet_61 rfl rfl lk_R_55 mo_R_error (by decide) rfl rfl rfl (Nat.le_of_ble_eq_true rfl) (Nat.le_of_ble_eq_true rfl) ?_
                refine c_R_error1 ?_
                refine V2_topi (fun v38 ev38 => ?_)
                refine V2_ireturn d_R_sheet_64 rfl ?_
                have hb0 : (0 ≤ (nI t).toInt ∧ (nI t).toInt < 4) ∧ (b.toInt = 0 ∨ b.toInt = 8 ∨ b.toInt = 16 ∨ b.toInt = 32) := (by (try clear hQ); (try subst ev38 ev1); ((try simp only [xb_eq, xb_ne, Int32.lt_iff_toInt_lt, Int32.le_iff_toInt_le] at *) <;> (try simp only [← Int32.toInt_inj, true_and, false_and, or_false, false_or, or_true, true_or, and_true, and_false] at *) <;> omega))
                have hb1 : ¬ (b.toInt = 0) := (by (try clear hQ); (try subst ev38 ev1); ((try simp only [xb_eq, xb_ne, Int32.lt_iff_toInt_lt, Int32.le_iff_toInt_le] at *) <;> (try simp only [← Int32.toInt_inj, true_and, false_and, or_false, false_or, or_true, true_or, and_true, and_false] at *) <;> omega))
                have hb2 : ¬ (n.toInt < 0) := (by (try clear hQ); (try subst ev38 ev1); ((try simp only [xb_eq, xb_ne, Int32.lt_iff_toInt_lt, Int32.le_iff_toInt_le] at *) <;> (try simp only [← Int32.toInt_inj, true_and, false_and, or_false, false_or, or_true, true_or, and_true, and_false] at *) <;> omega))
                have hb3 : 24 < n.toInt := (by (try clear hQ); (try subst ev38 ev1); ((try simp only [xb_eq, xb_ne, Int32.lt_iff_toInt_lt, Int32.le_iff_toInt_le] at *) <;> (try simp only [← Int32.toInt_inj, true_and, false_and, or_false, false_or, or_true, true_or, and_true, and_false] at *) <;> omega))
                have e : k_sheet F0 (nI t) b n = (-1000000000 - 1, errF F0 1) := (if_pos hb0).trans ((if_neg hb1).trans ((if_neg hb2).trans (if_pos hb3)))
                rw [e] at hQ hM
                subst ev38 ev1
                exact xQi (hQ _ (rel_err hR hM)) rfl rfl
          · refine V2_iload_n (i := 3) d_R_sheet_39 rfl rfl ?_
            refine V2_if_ge (tgt := 49) d_R_sheet_40 rfl (fun c39 => ?_) (fun c39 => ?_)
            · refine V2_iload_n (i := 2) d_R_sheet_49 rfl rfl ?_
              refine V2_if_eq (tgt := 65) d_R_sheet_50 rfl (fun c40 => ?_) (fun c40 => ?_)
              · refine V2_aload_n (i := 0) d_R_sheet_65 rfl rfl ?_
                refine V2_getr (a := 74) d_R_sheet_66 fl_R_38 (by decide) rfl (by decide) rfl ?_
                refine V2_iload_n (i := 1) d_R_sheet_69 rfl rfl ?_
                refine V2_iload_n (i := 2) d_R_sheet_70 rfl rfl ?_
                refine V2_iastore (j := (t)) d_R_sheet_71 (by decide) rfl (xixA (n := t) rfl (by omega) (by decide)) (xixB (n := t) rfl (by omega)) ?_
                refine V2_aload_n (i := 0) d_R_sheet_72 rfl rfl ?_
                refine V2_getr (a := 75) d_R_sheet_73 fl_R_41 (by decide) rfl (by decide) rfl ?_
                refine V2_iload_n (i := 1) d_R_sheet_76 rfl rfl ?_
                refine V2_iload_n (i := 2) d_R_sheet_77 rfl rfl ?_
                refine V2_if_ne (tgt := 85) d_R_sheet_78 rfl (fun c41 => ?_) (fun c41 => ?_)
                · obtain ⟨m, hm, epm⟩ := in_of (x := n) (P := 25) (by (try clear hQ); (try subst ev1); ((try simp only [xb_eq, xb_ne, Int32.lt_iff_toInt_lt, Int32.le_iff_toInt_le] at *) <;> (try simp only [← Int32.toInt_inj, true_and, false_and, or_false, false_or, or_true, true_or, and_true, and_false] at *) <;> omega)) (by (try clear hQ); (try subst ev1); ((try simp only [xb_eq, xb_ne, Int32.lt_iff_toInt_lt, Int32.le_iff_toInt_le] at *) <;> (try simp only [← Int32.toInt_inj, true_and, false_and, or_false, false_or, or_true, true_or, and_true, and_false] at *) <;> omega)) (by omega)
                  subst epm
                  have nm : (nI m).toInt = (m : Int) := nI_toInt (by omega)
                  have km : (nI m).toNatClampNeg = m := nI_clamp (by omega)
                  refine V2_iload_n (i := 3) d_R_sheet_85 rfl rfl ?_
                  refine V2_iastore (j := (t)) d_R_sheet_86 (by decide) rfl (xixA (n := t) rfl (by omega) (by decide)) (xixB (n := t) rfl (by omega)) ?_
                  refine V2_iconst (v := 0) d_R_sheet_87 rfl ?_
                  refine V2_istore (i := 4) (l' := [some (.ref 65), some (.int (nI t)), some (.int b), some (.int (nI m)), some (.int (0 : Int32))]) d_R_sheet_88 (xst_i (Nat.le_of_ble_eq_true rfl) rfl rfl) ?_
                  have hb0 : (0 ≤ (nI t).toInt ∧ (nI t).toInt < 4) ∧ (b.toInt = 0 ∨ b.toInt = 8 ∨ b.toInt = 16 ∨ b.toInt = 32) := (by (try clear hQ); (try subst ev1); ((try simp only [xb_eq, xb_ne, Int32.lt_iff_toInt_lt, Int32.le_iff_toInt_le] at *) <;> (try simp only [← Int32.toInt_inj, true_and, false_and, or_false, false_or, or_true, true_or, and_true, and_false] at *) <;> omega))
                  have hb1 : ¬ (b.toInt = 0) := (by (try clear hQ); (try subst ev1); ((try simp only [xb_eq, xb_ne, Int32.lt_iff_toInt_lt, Int32.le_iff_toInt_le] at *) <;> (try simp only [← Int32.toInt_inj, true_and, false_and, or_false, false_or, or_true, true_or, and_true, and_false] at *) <;> omega))
                  have hb2 : ¬ ((nI m).toInt < 0) := (by (try clear hQ); (try subst ev1); ((try simp only [xb_eq, xb_ne, Int32.lt_iff_toInt_lt, Int32.le_iff_toInt_le] at *) <;> (try simp only [← Int32.toInt_inj, true_and, false_and, or_false, false_or, or_true, true_or, and_true, and_false] at *) <;> omega))
                  have hb3 : ¬ (24 < (nI m).toInt) := (by (try clear hQ); (try subst ev1); ((try simp only [xb_eq, xb_ne, Int32.lt_iff_toInt_lt, Int32.le_iff_toInt_le] at *) <;> (try simp only [← Int32.toInt_inj, true_and, false_and, or_false, false_or, or_true, true_or, and_true, and_false] at *) <;> omega))
                  have e : k_sheet F0 (nI t) b (nI m) = (1, sheetG F0 t b (nI m)) := (if_pos hb0).trans ((if_neg hb1).trans ((if_neg hb2).trans ((if_neg hb3).trans (by rw [kt]))))
                  rw [e] at hQ hM
                  have hbb : b = 0 ∨ b = 8 ∨ b = 16 ∨ b = 32 := by
                    simp only [← Int32.toInt_inj]
                    omega
                  refine V2.to (c_R_sheet_loop (F := xp (xp F 74 t b) 75 t (nI m)) ht (hQ (sheetG F t b (nI m)) (rel_sheetG hR ht (by omega) hbb hM)) 25 0 (by omega) (by omega)) rfl rfl rfl ?_
                  rw [show cutB (xp (xp F 74 t b) 75 t (nI m) 76) (24 * t) 0 = xp (xp F 74 t b) 75 t (nI m) 76 from by funext j; unfold cutB; rw [if_neg (by omega)], xrw_self]
                · refine V2_iconst (v := 0) d_R_sheet_81 rfl ?_
                  refine V2_goto (tgt := 86) d_R_sheet_82 rfl ?_
                  refine V2_iastore (j := (t)) d_R_sheet_86 (by decide) rfl (xixA (n := t) rfl (by omega) (by decide)) (xixB (n := t) rfl (by omega)) ?_
                  refine V2_iconst (v := 0) d_R_sheet_87 rfl ?_
                  refine V2_istore (i := 4) (l' := [some (.ref 65), some (.int (nI t)), some (.int b), some (.int n), some (.int (0 : Int32))]) d_R_sheet_88 (xst_i (Nat.le_of_ble_eq_true rfl) rfl rfl) ?_
                  have hb0 : (0 ≤ (nI t).toInt ∧ (nI t).toInt < 4) ∧ (b.toInt = 0 ∨ b.toInt = 8 ∨ b.toInt = 16 ∨ b.toInt = 32) := (by (try clear hQ); (try subst ev1); ((try simp only [xb_eq, xb_ne, Int32.lt_iff_toInt_lt, Int32.le_iff_toInt_le] at *) <;> (try simp only [← Int32.toInt_inj, true_and, false_and, or_false, false_or, or_true, true_or, and_true, and_false] at *) <;> omega))
                  have hb1 : b.toInt = 0 := (by (try clear hQ); (try subst ev1); ((try simp only [xb_eq, xb_ne, Int32.lt_iff_toInt_lt, Int32.le_iff_toInt_le] at *) <;> (try simp only [← Int32.toInt_inj, true_and, false_and, or_false, false_or, or_true, true_or, and_true, and_false] at *) <;> omega))
                  have e : k_sheet F0 (nI t) b n = (1, sheetG F0 t 0 (nI 0)) := (if_pos hb0).trans ((if_pos hb1).trans (by rw [kt]))
                  rw [e] at hQ hM
                  have eb : b = 0 := Int32.toInt_inj.mp (by omega)
                  subst eb
                  refine V2.to (c_R_sheet_loop (F := xp (xp F 74 t 0) 75 t (nI 0)) ht (hQ (sheetG F t 0 (nI 0)) (rel_sheetG hR ht (by omega) (Or.inl rfl) hM)) 25 0 (by omega) (by omega)) rfl rfl rfl ?_
                  rw [show cutB (xp (xp F 74 t 0) 75 t (nI 0) 76) (24 * t) 0 = xp (xp F 74 t 0) 75 t (nI 0) 76 from by funext j; unfold cutB; rw [if_neg (by omega)], xrw_self]
                  rfl
              · refine V2_iload_n (i := 3) d_R_sheet_53 rfl rfl ?_
                refine V2_bipush (v := 24) d_R_sheet_54 rfl ?_
                refine V2_icmp_le (tgt := 65) d_R_sheet_56 rfl (fun c42 => ?_) (fun c42 => ?_)
                · refine V2_aload_n (i := 0) d_R_sheet_65 rfl rfl ?_
                  refine V2_getr (a := 74) d_R_sheet_66 fl_R_38 (by decide) rfl (by decide) rfl ?_
                  refine V2_iload_n (i := 1) d_R_sheet_69 rfl rfl ?_
                  refine V2_iload_n (i := 2) d_R_sheet_70 rfl rfl ?_
                  refine V2_iastore (j := (t)) d_R_sheet_71 (by decide) rfl (xixA (n := t) rfl (by omega) (by decide)) (xixB (n := t) rfl (by omega)) ?_
                  refine V2_aload_n (i := 0) d_R_sheet_72 rfl rfl ?_
                  refine V2_getr (a := 75) d_R_sheet_73 fl_R_41 (by decide) rfl (by decide) rfl ?_
                  refine V2_iload_n (i := 1) d_R_sheet_76 rfl rfl ?_
                  refine V2_iload_n (i := 2) d_R_sheet_77 rfl rfl ?_
                  refine V2_if_ne (tgt := 85) d_R_sheet_78 rfl (fun c43 => ?_) (fun c43 => ?_)
                  · obtain ⟨m, hm, epm⟩ := in_of (x := n) (P := 25) (by (try clear hQ); (try subst ev1); ((try simp only [xb_eq, xb_ne, Int32.lt_iff_toInt_lt, Int32.le_iff_toInt_le] at *) <;> (try simp only [← Int32.toInt_inj, true_and, false_and, or_false, false_or, or_true, true_or, and_true, and_false] at *) <;> omega)) (by (try clear hQ); (try subst ev1); ((try simp only [xb_eq, xb_ne, Int32.lt_iff_toInt_lt, Int32.le_iff_toInt_le] at *) <;> (try simp only [← Int32.toInt_inj, true_and, false_and, or_false, false_or, or_true, true_or, and_true, and_false] at *) <;> omega)) (by omega)
                    subst epm
                    have nm : (nI m).toInt = (m : Int) := nI_toInt (by omega)
                    have km : (nI m).toNatClampNeg = m := nI_clamp (by omega)
                    refine V2_iload_n (i := 3) d_R_sheet_85 rfl rfl ?_
                    refine V2_iastore (j := (t)) d_R_sheet_86 (by decide) rfl (xixA (n := t) rfl (by omega) (by decide)) (xixB (n := t) rfl (by omega)) ?_
                    refine V2_iconst (v := 0) d_R_sheet_87 rfl ?_
                    refine V2_istore (i := 4) (l' := [some (.ref 65), some (.int (nI t)), some (.int b), some (.int (nI m)), some (.int (0 : Int32))]) d_R_sheet_88 (xst_i (Nat.le_of_ble_eq_true rfl) rfl rfl) ?_
                    have hb0 : (0 ≤ (nI t).toInt ∧ (nI t).toInt < 4) ∧ (b.toInt = 0 ∨ b.toInt = 8 ∨ b.toInt = 16 ∨ b.toInt = 32) := (by (try clear hQ); (try subst ev1); ((try simp only [xb_eq, xb_ne, Int32.lt_iff_toInt_lt, Int32.le_iff_toInt_le] at *) <;> (try simp only [← Int32.toInt_inj, true_and, false_and, or_false, false_or, or_true, true_or, and_true, and_false] at *) <;> omega))
                    have hb1 : ¬ (b.toInt = 0) := (by (try clear hQ); (try subst ev1); ((try simp only [xb_eq, xb_ne, Int32.lt_iff_toInt_lt, Int32.le_iff_toInt_le] at *) <;> (try simp only [← Int32.toInt_inj, true_and, false_and, or_false, false_or, or_true, true_or, and_true, and_false] at *) <;> omega))
                    have hb2 : ¬ ((nI m).toInt < 0) := (by (try clear hQ); (try subst ev1); ((try simp only [xb_eq, xb_ne, Int32.lt_iff_toInt_lt, Int32.le_iff_toInt_le] at *) <;> (try simp only [← Int32.toInt_inj, true_and, false_and, or_false, false_or, or_true, true_or, and_true, and_false] at *) <;> omega))
                    have hb3 : ¬ (24 < (nI m).toInt) := (by (try clear hQ); (try subst ev1); ((try simp only [xb_eq, xb_ne, Int32.lt_iff_toInt_lt, Int32.le_iff_toInt_le] at *) <;> (try simp only [← Int32.toInt_inj, true_and, false_and, or_false, false_or, or_true, true_or, and_true, and_false] at *) <;> omega))
                    have e : k_sheet F0 (nI t) b (nI m) = (1, sheetG F0 t b (nI m)) := (if_pos hb0).trans ((if_neg hb1).trans ((if_neg hb2).trans ((if_neg hb3).trans (by rw [kt]))))
                    rw [e] at hQ hM
                    have hbb : b = 0 ∨ b = 8 ∨ b = 16 ∨ b = 32 := by
                      simp only [← Int32.toInt_inj]
                      omega
                    refine V2.to (c_R_sheet_loop (F := xp (xp F 74 t b) 75 t (nI m)) ht (hQ (sheetG F t b (nI m)) (rel_sheetG hR ht (by omega) hbb hM)) 25 0 (by omega) (by omega)) rfl rfl rfl ?_
                    rw [show cutB (xp (xp F 74 t b) 75 t (nI m) 76) (24 * t) 0 = xp (xp F 74 t b) 75 t (nI m) 76 from by funext j; unfold cutB; rw [if_neg (by omega)], xrw_self]
                  · refine V2_iconst (v := 0) d_R_sheet_81 rfl ?_
                    refine V2_goto (tgt := 86) d_R_sheet_82 rfl ?_
                    refine V2_iastore (j := (t)) d_R_sheet_86 (by decide) rfl (xixA (n := t) rfl (by omega) (by decide)) (xixB (n := t) rfl (by omega)) ?_
                    refine V2_iconst (v := 0) d_R_sheet_87 rfl ?_
                    refine V2_istore (i := 4) (l' := [some (.ref 65), some (.int (nI t)), some (.int b), some (.int n), some (.int (0 : Int32))]) d_R_sheet_88 (xst_i (Nat.le_of_ble_eq_true rfl) rfl rfl) ?_
                    have hb0 : (0 ≤ (nI t).toInt ∧ (nI t).toInt < 4) ∧ (b.toInt = 0 ∨ b.toInt = 8 ∨ b.toInt = 16 ∨ b.toInt = 32) := (by (try clear hQ); (try subst ev1); ((try simp only [xb_eq, xb_ne, Int32.lt_iff_toInt_lt, Int32.le_iff_toInt_le] at *) <;> (try simp only [← Int32.toInt_inj, true_and, false_and, or_false, false_or, or_true, true_or, and_true, and_false] at *) <;> omega))
                    have hb1 : b.toInt = 0 := (by (try clear hQ); (try subst ev1); ((try simp only [xb_eq, xb_ne, Int32.lt_iff_toInt_lt, Int32.le_iff_toInt_le] at *) <;> (try simp only [← Int32.toInt_inj, true_and, false_and, or_false, false_or, or_true, true_or, and_true, and_false] at *) <;> omega))
                    have e : k_sheet F0 (nI t) b n = (1, sheetG F0 t 0 (nI 0)) := (if_pos hb0).trans ((if_pos hb1).trans (by rw [kt]))
                    rw [e] at hQ hM
                    have eb : b = 0 := Int32.toInt_inj.mp (by omega)
                    subst eb
                    refine V2.to (c_R_sheet_loop (F := xp (xp F 74 t 0) 75 t (nI 0)) ht (hQ (sheetG F t 0 (nI 0)) (rel_sheetG hR ht (by omega) (Or.inl rfl) hM)) 25 0 (by omega) (by omega)) rfl rfl rfl ?_
                    rw [show cutB (xp (xp F 74 t 0) 75 t (nI 0) 76) (24 * t) 0 = xp (xp F 74 t 0) 75 t (nI 0) 76 from by funext j; unfold cutB; rw [if_neg (by omega)], xrw_self]
                    rfl
                · refine V2_aload_n (i := 0) d_R_sheet_59 rfl rfl ?_
                  refine V2_iconst (v := 1) d_R_sheet_60 rfl ?_
                  refine V2_callV [.int (1 : Int32)] d_R_sheet_61 rfl rfl lk_R_55 mo_R_error (by decide) rfl rfl rfl (Nat.le_of_ble_eq_true rfl) (Nat.le_of_ble_eq_true rfl) ?_
                  refine c_R_error1 ?_
                  refine V2_topi (fun v44 ev44 => ?_)
                  refine V2_ireturn d_R_sheet_64 rfl ?_
                  have hb0 : (0 ≤ (nI t).toInt ∧ (nI t).toInt < 4) ∧ (b.toInt = 0 ∨ b.toInt = 8 ∨ b.toInt = 16 ∨ b.toInt = 32) := (by (try clear hQ); (try subst ev44 ev1); ((try simp only [xb_eq, xb_ne, Int32.lt_iff_toInt_lt, Int32.le_iff_toInt_le] at *) <;> (try simp only [← Int32.toInt_inj, true_and, false_and, or_false, false_or, or_true, true_or, and_true, and_false] at *) <;> omega))
                  have hb1 : ¬ (b.toInt = 0) := (by (try clear hQ); (try subst ev44 ev1); ((try simp only [xb_eq, xb_ne, Int32.lt_iff_toInt_lt, Int32.le_iff_toInt_le] at *) <;> (try simp only [← Int32.toInt_inj, true_and, false_and, or_false, false_or, or_true, true_or, and_true, and_false] at *) <;> omega))
                  have hb2 : ¬ (n.toInt < 0) := (by (try clear hQ); (try subst ev44 ev1); ((try simp only [xb_eq, xb_ne, Int32.lt_iff_toInt_lt, Int32.le_iff_toInt_le] at *) <;> (try simp only [← Int32.toInt_inj, true_and, false_and, or_false, false_or, or_true, true_or, and_true, and_false] at *) <;> omega))
                  have hb3 : 24 < n.toInt := (by (try clear hQ); (try subst ev44 ev1); ((try simp only [xb_eq, xb_ne, Int32.lt_iff_toInt_lt, Int32.le_iff_toInt_le] at *) <;> (try simp only [← Int32.toInt_inj, true_and, false_and, or_false, false_or, or_true, true_or, and_true, and_false] at *) <;> omega))
                  have e : k_sheet F0 (nI t) b n = (-1000000000 - 1, errF F0 1) := (if_pos hb0).trans ((if_neg hb1).trans ((if_neg hb2).trans (if_pos hb3)))
                  rw [e] at hQ hM
                  subst ev44 ev1
                  exact xQi (hQ _ (rel_err hR hM)) rfl rfl
            · refine V2_aload_n (i := 0) d_R_sheet_43 rfl rfl ?_
              refine V2_iconst (v := 3) d_R_sheet_44 rfl ?_
              refine V2_callV [.int (3 : Int32)] d_R_sheet_45 rfl rfl lk_R_55 mo_R_error (by decide) rfl rfl rfl (Nat.le_of_ble_eq_true rfl) (Nat.le_of_ble_eq_true rfl) ?_
              refine c_R_error3 ?_
              refine V2_topi (fun v45 ev45 => ?_)
              refine V2_ireturn d_R_sheet_48 rfl ?_
              have hb0 : (0 ≤ (nI t).toInt ∧ (nI t).toInt < 4) ∧ (b.toInt = 0 ∨ b.toInt = 8 ∨ b.toInt = 16 ∨ b.toInt = 32) := (by (try clear hQ); (try subst ev45 ev1); ((try simp only [xb_eq, xb_ne, Int32.lt_iff_toInt_lt, Int32.le_iff_toInt_le] at *) <;> (try simp only [← Int32.toInt_inj, true_and, false_and, or_false, false_or, or_true, true_or, and_true, and_false] at *) <;> omega))
              have hb1 : ¬ (b.toInt = 0) := (by (try clear hQ); (try subst ev45 ev1); ((try simp only [xb_eq, xb_ne, Int32.lt_iff_toInt_lt, Int32.le_iff_toInt_le] at *) <;> (try simp only [← Int32.toInt_inj, true_and, false_and, or_false, false_or, or_true, true_or, and_true, and_false] at *) <;> omega))
              have hb2 : n.toInt < 0 := (by (try clear hQ); (try subst ev45 ev1); ((try simp only [xb_eq, xb_ne, Int32.lt_iff_toInt_lt, Int32.le_iff_toInt_le] at *) <;> (try simp only [← Int32.toInt_inj, true_and, false_and, or_false, false_or, or_true, true_or, and_true, and_false] at *) <;> omega))
              have e : k_sheet F0 (nI t) b n = (-1000000000 - 3, errF F0 3) := (if_pos hb0).trans ((if_neg hb1).trans (if_pos hb2))
              rw [e] at hQ hM
              subst ev45 ev1
              exact xQi (hQ _ (rel_err hR hM)) rfl rfl
        · refine V2_iload_n (i := 2) d_R_sheet_23 rfl rfl ?_
          refine V2_bipush (v := 32) d_R_sheet_24 rfl ?_
          refine V2_icmp_eq (tgt := 35) d_R_sheet_26 rfl (fun c46 => ?_) (fun c46 => ?_)
          · refine V2_iload_n (i := 2) d_R_sheet_35 rfl rfl ?_
            refine V2_if_eq (tgt := 49) d_R_sheet_36 rfl (fun c47 => ?_) (fun c47 => ?_)
            · refine V2_iload_n (i := 2) d_R_sheet_49 rfl rfl ?_
              refine V2_if_eq (tgt := 65) d_R_sheet_50 rfl (fun c48 => ?_) (fun c48 => ?_)
              · refine V2_aload_n (i := 0) d_R_sheet_65 rfl rfl ?_
                refine V2_getr (a := 74) d_R_sheet_66 fl_R_38 (by decide) rfl (by decide) rfl ?_
                refine V2_iload_n (i := 1) d_R_sheet_69 rfl rfl ?_
                refine V2_iload_n (i := 2) d_R_sheet_70 rfl rfl ?_
                refine V2_iastore (j := (t)) d_R_sheet_71 (by decide) rfl (xixA (n := t) rfl (by omega) (by decide)) (xixB (n := t) rfl (by omega)) ?_
                refine V2_aload_n (i := 0) d_R_sheet_72 rfl rfl ?_
                refine V2_getr (a := 75) d_R_sheet_73 fl_R_41 (by decide) rfl (by decide) rfl ?_
                refine V2_iload_n (i := 1) d_R_sheet_76 rfl rfl ?_
                refine V2_iload_n (i := 2) d_R_sheet_77 rfl rfl ?_
                refine V2_if_ne (tgt := 85) d_R_sheet_78 rfl (fun c49 => ?_) (fun c49 => ?_)
                · obtain ⟨m, hm, epm⟩ := in_of (x := n) (P := 25) (by (try clear hQ); (try subst ev1); ((try simp only [xb_eq, xb_ne, Int32.lt_iff_toInt_lt, Int32.le_iff_toInt_le] at *) <;> (try simp only [← Int32.toInt_inj, true_and, false_and, or_false, false_or, or_true, true_or, and_true, and_false] at *) <;> omega)) (by (try clear hQ); (try subst ev1); ((try simp only [xb_eq, xb_ne, Int32.lt_iff_toInt_lt, Int32.le_iff_toInt_le] at *) <;> (try simp only [← Int32.toInt_inj, true_and, false_and, or_false, false_or, or_true, true_or, and_true, and_false] at *) <;> omega)) (by omega)
                  subst epm
                  have nm : (nI m).toInt = (m : Int) := nI_toInt (by omega)
                  have km : (nI m).toNatClampNeg = m := nI_clamp (by omega)
                  refine V2_iload_n (i := 3) d_R_sheet_85 rfl rfl ?_
                  refine V2_iastore (j := (t)) d_R_sheet_86 (by decide) rfl (xixA (n := t) rfl (by omega) (by decide)) (xixB (n := t) rfl (by omega)) ?_
                  refine V2_iconst (v := 0) d_R_sheet_87 rfl ?_
                  refine V2_istore (i := 4) (l' := [some (.ref 65), some (.int (nI t)), some (.int b), some (.int (nI m)), some (.int (0 : Int32))]) d_R_sheet_88 (xst_i (Nat.le_of_ble_eq_true rfl) rfl rfl) ?_
                  have hb0 : (0 ≤ (nI t).toInt ∧ (nI t).toInt < 4) ∧ (b.toInt = 0 ∨ b.toInt = 8 ∨ b.toInt = 16 ∨ b.toInt = 32) := (by (try clear hQ); (try subst ev1); ((try simp only [xb_eq, xb_ne, Int32.lt_iff_toInt_lt, Int32.le_iff_toInt_le] at *) <;> (try simp only [← Int32.toInt_inj, true_and, false_and, or_false, false_or, or_true, true_or, and_true, and_false] at *) <;> omega))
                  have hb1 : ¬ (b.toInt = 0) := (by (try clear hQ); (try subst ev1); ((try simp only [xb_eq, xb_ne, Int32.lt_iff_toInt_lt, Int32.le_iff_toInt_le] at *) <;> (try simp only [← Int32.toInt_inj, true_and, false_and, or_false, false_or, or_true, true_or, and_true, and_false] at *) <;> omega))
                  have hb2 : ¬ ((nI m).toInt < 0) := (by (try clear hQ); (try subst ev1); ((try simp only [xb_eq, xb_ne, Int32.lt_iff_toInt_lt, Int32.le_iff_toInt_le] at *) <;> (try simp only [← Int32.toInt_inj, true_and, false_and, or_false, false_or, or_true, true_or, and_true, and_false] at *) <;> omega))
                  have hb3 : ¬ (24 < (nI m).toInt) := (by (try clear hQ); (try subst ev1); ((try simp only [xb_eq, xb_ne, Int32.lt_iff_toInt_lt, Int32.le_iff_toInt_le] at *) <;> (try simp only [← Int32.toInt_inj, true_and, false_and, or_false, false_or, or_true, true_or, and_true, and_false] at *) <;> omega))
                  have e : k_sheet F0 (nI t) b (nI m) = (1, sheetG F0 t b (nI m)) := (if_pos hb0).trans ((if_neg hb1).trans ((if_neg hb2).trans ((if_neg hb3).trans (by rw [kt]))))
                  rw [e] at hQ hM
                  have hbb : b = 0 ∨ b = 8 ∨ b = 16 ∨ b = 32 := by
                    simp only [← Int32.toInt_inj]
                    omega
                  refine V2.to (c_R_sheet_loop (F := xp (xp F 74 t b) 75 t (nI m)) ht (hQ (sheetG F t b (nI m)) (rel_sheetG hR ht (by omega) hbb hM)) 25 0 (by omega) (by omega)) rfl rfl rfl ?_
                  rw [show cutB (xp (xp F 74 t b) 75 t (nI m) 76) (24 * t) 0 = xp (xp F 74 t b) 75 t (nI m) 76 from by funext j; unfold cutB; rw [if_neg (by omega)], xrw_self]
                · refine V2_iconst (v := 0) d_R_sheet_81 rfl ?_
                  refine V2_goto (tgt := 86) d_R_sheet_82 rfl ?_
                  refine V2_iastore (j := (t)) d_R_sheet_86 (by decide) rfl (xixA (n := t) rfl (by omega) (by decide)) (xixB (n := t) rfl (by omega)) ?_
                  refine V2_iconst (v := 0) d_R_sheet_87 rfl ?_
                  refine V2_istore (i := 4) (l' := [some (.ref 65), some (.int (nI t)), some (.int b), some (.int n), some (.int (0 : Int32))]) d_R_sheet_88 (xst_i (Nat.le_of_ble_eq_true rfl) rfl rfl) ?_
                  have hb0 : (0 ≤ (nI t).toInt ∧ (nI t).toInt < 4) ∧ (b.toInt = 0 ∨ b.toInt = 8 ∨ b.toInt = 16 ∨ b.toInt = 32) := (by (try clear hQ); (try subst ev1); ((try simp only [xb_eq, xb_ne, Int32.lt_iff_toInt_lt, Int32.le_iff_toInt_le] at *) <;> (try simp only [← Int32.toInt_inj, true_and, false_and, or_false, false_or, or_true, true_or, and_true, and_false] at *) <;> omega))
                  have hb1 : b.toInt = 0 := (by (try clear hQ); (try subst ev1); ((try simp only [xb_eq, xb_ne, Int32.lt_iff_toInt_lt, Int32.le_iff_toInt_le] at *) <;> (try simp only [← Int32.toInt_inj, true_and, false_and, or_false, false_or, or_true, true_or, and_true, and_false] at *) <;> omega))
                  have e : k_sheet F0 (nI t) b n = (1, sheetG F0 t 0 (nI 0)) := (if_pos hb0).trans ((if_pos hb1).trans (by rw [kt]))
                  rw [e] at hQ hM
                  have eb : b = 0 := Int32.toInt_inj.mp (by omega)
                  subst eb
                  refine V2.to (c_R_sheet_loop (F := xp (xp F 74 t 0) 75 t (nI 0)) ht (hQ (sheetG F t 0 (nI 0)) (rel_sheetG hR ht (by omega) (Or.inl rfl) hM)) 25 0 (by omega) (by omega)) rfl rfl rfl ?_
                  rw [show cutB (xp (xp F 74 t 0) 75 t (nI 0) 76) (24 * t) 0 = xp (xp F 74 t 0) 75 t (nI 0) 76 from by funext j; unfold cutB; rw [if_neg (by omega)], xrw_self]
                  rfl
              · refine V2_iload_n (i := 3) d_R_sheet_53 rfl rfl ?_
                refine V2_bipush (v := 24) d_R_sheet_54 rfl ?_
                refine V2_icmp_le (tgt := 65) d_R_sheet_56 rfl (fun c50 => ?_) (fun c50 => ?_)
                · refine V2_aload_n (i := 0) d_R_sheet_65 rfl rfl ?_
                  refine V2_getr (a := 74) d_R_sheet_66 fl_R_38 (by decide) rfl (by decide) rfl ?_
                  refine V2_iload_n (i := 1) d_R_sheet_69 rfl rfl ?_
                  refine V2_iload_n (i := 2) d_R_sheet_70 rfl rfl ?_
                  refine V2_iastore (j := (t)) d_R_sheet_71 (by decide) rfl (xixA (n := t) rfl (by omega) (by decide)) (xixB (n := t) rfl (by omega)) ?_
                  refine V2_aload_n (i := 0) d_R_sheet_72 rfl rfl ?_
                  refine V2_getr (a := 75) d_R_sheet_73 fl_R_41 (by decide) rfl (by decide) rfl ?_
                  refine V2_iload_n (i := 1) d_R_sheet_76 rfl rfl ?_
                  refine V2_iload_n (i := 2) d_R_sheet_77 rfl rfl ?_
                  refine V2_if_ne (tgt := 85) d_R_sheet_78 rfl (fun c51 => ?_) (fun c51 => ?_)
                  · obtain ⟨m, hm, epm⟩ := in_of (x := n) (P := 25) (by (try clear hQ); (try subst ev1); ((try simp only [xb_eq, xb_ne, Int32.lt_iff_toInt_lt, Int32.le_iff_toInt_le] at *) <;> (try simp only [← Int32.toInt_inj, true_and, false_and, or_false, false_or, or_true, true_or, and_true, and_false] at *) <;> omega)) (by (try clear hQ); (try subst ev1); ((try simp only [xb_eq, xb_ne, Int32.lt_iff_toInt_lt, Int32.le_iff_toInt_le] at *) <;> (try simp only [← Int32.toInt_inj, true_and, false_and, or_false, false_or, or_true, true_or, and_true, and_false] at *) <;> omega)) (by omega)
                    subst epm
                    have nm : (nI m).toInt = (m : Int) := nI_toInt (by omega)
                    have km : (nI m).toNatClampNeg = m := nI_clamp (by omega)
                    refine V2_iload_n (i := 3) d_R_sheet_85 rfl rfl ?_
                    refine V2_iastore (j := (t)) d_R_sheet_86 (by decide) rfl (xixA (n := t) rfl (by omega) (by decide)) (xixB (n := t) rfl (by omega)) ?_
                    refine V2_iconst (v := 0) d_R_sheet_87 rfl ?_
                    refine V2_istore (i := 4) (l' := [some (.ref 65), some (.int (nI t)), some (.int b), some (.int (nI m)), some (.int (0 : Int32))]) d_R_sheet_88 (xst_i (Nat.le_of_ble_eq_true rfl) rfl rfl) ?_
                    have hb0 : (0 ≤ (nI t).toInt ∧ (nI t).toInt < 4) ∧ (b.toInt = 0 ∨ b.toInt = 8 ∨ b.toInt = 16 ∨ b.toInt = 32) := (by (try clear hQ); (try subst ev1); ((try simp only [xb_eq, xb_ne, Int32.lt_iff_toInt_lt, Int32.le_iff_toInt_le] at *) <;> (try simp only [← Int32.toInt_inj, true_and, false_and, or_false, false_or, or_true, true_or, and_true, and_false] at *) <;> omega))
                    have hb1 : ¬ (b.toInt = 0) := (by (try clear hQ); (try subst ev1); ((try simp only [xb_eq, xb_ne, Int32.lt_iff_toInt_lt, Int32.le_iff_toInt_le] at *) <;> (try simp only [← Int32.toInt_inj, true_and, false_and, or_false, false_or, or_true, true_or, and_true, and_false] at *) <;> omega))
                    have hb2 : ¬ ((nI m).toInt < 0) := (by (try clear hQ); (try subst ev1); ((try simp only [xb_eq, xb_ne, Int32.lt_iff_toInt_lt, Int32.le_iff_toInt_le] at *) <;> (try simp only [← Int32.toInt_inj, true_and, false_and, or_false, false_or, or_true, true_or, and_true, and_false] at *) <;> omega))
                    have hb3 : ¬ (24 < (nI m).toInt) := (by (try clear hQ); (try subst ev1); ((try simp only [xb_eq, xb_ne, Int32.lt_iff_toInt_lt, Int32.le_iff_toInt_le] at *) <;> (try simp only [← Int32.toInt_inj, true_and, false_and, or_false, false_or, or_true, true_or, and_true, and_false] at *) <;> omega))
                    have e : k_sheet F0 (nI t) b (nI m) = (1, sheetG F0 t b (nI m)) := (if_pos hb0).trans ((if_neg hb1).trans ((if_neg hb2).trans ((if_neg hb3).trans (by rw [kt]))))
                    rw [e] at hQ hM
                    have hbb : b = 0 ∨ b = 8 ∨ b = 16 ∨ b = 32 := by
                      simp only [← Int32.toInt_inj]
                      omega
                    refine V2.to (c_R_sheet_loop (F := xp (xp F 74 t b) 75 t (nI m)) ht (hQ (sheetG F t b (nI m)) (rel_sheetG hR ht (by omega) hbb hM)) 25 0 (by omega) (by omega)) rfl rfl rfl ?_
                    rw [show cutB (xp (xp F 74 t b) 75 t (nI m) 76) (24 * t) 0 = xp (xp F 74 t b) 75 t (nI m) 76 from by funext j; unfold cutB; rw [if_neg (by omega)], xrw_self]
                  · refine V2_iconst (v := 0) d_R_sheet_81 rfl ?_
                    refine V2_goto (tgt := 86) d_R_sheet_82 rfl ?_
                    refine V2_iastore (j := (t)) d_R_sheet_86 (by decide) rfl (xixA (n := t) rfl (by omega) (by decide)) (xixB (n := t) rfl (by omega)) ?_
                    refine V2_iconst (v := 0) d_R_sheet_87 rfl ?_
                    refine V2_istore (i := 4) (l' := [some (.ref 65), some (.int (nI t)), some (.int b), some (.int n), some (.int (0 : Int32))]) d_R_sheet_88 (xst_i (Nat.le_of_ble_eq_true rfl) rfl rfl) ?_
                    have hb0 : (0 ≤ (nI t).toInt ∧ (nI t).toInt < 4) ∧ (b.toInt = 0 ∨ b.toInt = 8 ∨ b.toInt = 16 ∨ b.toInt = 32) := (by (try clear hQ); (try subst ev1); ((try simp only [xb_eq, xb_ne, Int32.lt_iff_toInt_lt, Int32.le_iff_toInt_le] at *) <;> (try simp only [← Int32.toInt_inj, true_and, false_and, or_false, false_or, or_true, true_or, and_true, and_false] at *) <;> omega))
                    have hb1 : b.toInt = 0 := (by (try clear hQ); (try subst ev1); ((try simp only [xb_eq, xb_ne, Int32.lt_iff_toInt_lt, Int32.le_iff_toInt_le] at *) <;> (try simp only [← Int32.toInt_inj, true_and, false_and, or_false, false_or, or_true, true_or, and_true, and_false] at *) <;> omega))
                    have e : k_sheet F0 (nI t) b n = (1, sheetG F0 t 0 (nI 0)) := (if_pos hb0).trans ((if_pos hb1).trans (by rw [kt]))
                    rw [e] at hQ hM
                    have eb : b = 0 := Int32.toInt_inj.mp (by omega)
                    subst eb
                    refine V2.to (c_R_sheet_loop (F := xp (xp F 74 t 0) 75 t (nI 0)) ht (hQ (sheetG F t 0 (nI 0)) (rel_sheetG hR ht (by omega) (Or.inl rfl) hM)) 25 0 (by omega) (by omega)) rfl rfl rfl ?_
                    rw [show cutB (xp (xp F 74 t 0) 75 t (nI 0) 76) (24 * t) 0 = xp (xp F 74 t 0) 75 t (nI 0) 76 from by funext j; unfold cutB; rw [if_neg (by omega)], xrw_self]
                    rfl
                · refine V2_aload_n (i := 0) d_R_sheet_59 rfl rfl ?_
                  refine V2_iconst (v := 1) d_R_sheet_60 rfl ?_
                  refine V2_callV [.int (1 : Int32)] d_R_sheet_61 rfl rfl lk_R_55 mo_R_error (by decide) rfl rfl rfl (Nat.le_of_ble_eq_true rfl) (Nat.le_of_ble_eq_true rfl) ?_
                  refine c_R_error1 ?_
                  refine V2_topi (fun v52 ev52 => ?_)
                  refine V2_ireturn d_R_sheet_64 rfl ?_
                  have hb0 : (0 ≤ (nI t).toInt ∧ (nI t).toInt < 4) ∧ (b.toInt = 0 ∨ b.toInt = 8 ∨ b.toInt = 16 ∨ b.toInt = 32) := (by (try clear hQ); (try subst ev52 ev1); ((try simp only [xb_eq, xb_ne, Int32.lt_iff_toInt_lt, Int32.le_iff_toInt_le] at *) <;> (try simp only [← Int32.toInt_inj, true_and, false_and, or_false, false_or, or_true, true_or, and_true, and_false] at *) <;> omega))
                  have hb1 : ¬ (b.toInt = 0) := (by (try clear hQ); (try subst ev52 ev1); ((try simp only [xb_eq, xb_ne, Int32.lt_iff_toInt_lt, Int32.le_iff_toInt_le] at *) <;> (try simp only [← Int32.toInt_inj, true_and, false_and, or_false, false_or, or_true, true_or, and_true, and_false] at *) <;> omega))
                  have hb2 : ¬ (n.toInt < 0) := (by (try clear hQ); (try subst ev52 ev1); ((try simp only [xb_eq, xb_ne, Int32.lt_iff_toInt_lt, Int32.le_iff_toInt_le] at *) <;> (try simp only [← Int32.toInt_inj, true_and, false_and, or_false, false_or, or_true, true_or, and_true, and_false] at *) <;> omega))
                  have hb3 : 24 < n.toInt := (by (try clear hQ); (try subst ev52 ev1); ((try simp only [xb_eq, xb_ne, Int32.lt_iff_toInt_lt, Int32.le_iff_toInt_le] at *) <;> (try simp only [← Int32.toInt_inj, true_and, false_and, or_false, false_or, or_true, true_or, and_true, and_false] at *) <;> omega))
                  have e : k_sheet F0 (nI t) b n = (-1000000000 - 1, errF F0 1) := (if_pos hb0).trans ((if_neg hb1).trans ((if_neg hb2).trans (if_pos hb3)))
                  rw [e] at hQ hM
                  subst ev52 ev1
                  exact xQi (hQ _ (rel_err hR hM)) rfl rfl
            · refine V2_iload_n (i := 3) d_R_sheet_39 rfl rfl ?_
              refine V2_if_ge (tgt := 49) d_R_sheet_40 rfl (fun c53 => ?_) (fun c53 => ?_)
              · refine V2_iload_n (i := 2) d_R_sheet_49 rfl rfl ?_
                refine V2_if_eq (tgt := 65) d_R_sheet_50 rfl (fun c54 => ?_) (fun c54 => ?_)
                · refine V2_aload_n (i := 0) d_R_sheet_65 rfl rfl ?_
                  refine V2_getr (a := 74) d_R_sheet_66 fl_R_38 (by decide) rfl (by decide) rfl ?_
                  refine V2_iload_n (i := 1) d_R_sheet_69 rfl rfl ?_
                  refine V2_iload_n (i := 2) d_R_sheet_70 rfl rfl ?_
                  refine V2_iastore (j := (t)) d_R_sheet_71 (by decide) rfl (xixA (n := t) rfl (by omega) (by decide)) (xixB (n := t) rfl (by omega)) ?_
                  refine V2_aload_n (i := 0) d_R_sheet_72 rfl rfl ?_
                  refine V2_getr (a := 75) d_R_sheet_73 fl_R_41 (by decide) rfl (by decide) rfl ?_
                  refine V2_iload_n (i := 1) d_R_sheet_76 rfl rfl ?_
                  refine V2_iload_n (i := 2) d_R_sheet_77 rfl rfl ?_
                  refine V2_if_ne (tgt := 85) d_R_sheet_78 rfl (fun c55 => ?_) (fun c55 => ?_)
                  · obtain ⟨m, hm, epm⟩ := in_of (x := n) (P := 25) (by (try clear hQ); (try subst ev1); ((try simp only [xb_eq, xb_ne, Int32.lt_iff_toInt_lt, Int32.le_iff_toInt_le] at *) <;> (try simp only [← Int32.toInt_inj, true_and, false_and, or_false, false_or, or_true, true_or, and_true, and_false] at *) <;> omega)) (by (try clear hQ); (try subst ev1); ((try simp only [xb_eq, xb_ne, Int32.lt_iff_toInt_lt, Int32.le_iff_toInt_le] at *) <;> (try simp only [← Int32.toInt_inj, true_and, false_and, or_false, false_or, or_true, true_or, and_true, and_false] at *) <;> omega)) (by omega)
                    subst epm
                    have nm : (nI m).toInt = (m : Int) := nI_toInt (by omega)
                    have km : (nI m).toNatClampNeg = m := nI_clamp (by omega)
                    refine V2_iload_n (i := 3) d_R_sheet_85 rfl rfl ?_
                    refine V2_iastore (j := (t)) d_R_sheet_86 (by decide) rfl (xixA (n := t) rfl (by omega) (by decide)) (xixB (n := t) rfl (by omega)) ?_
                    refine V2_iconst (v := 0) d_R_sheet_87 rfl ?_
                    refine V2_istore (i := 4) (l' := [some (.ref 65), some (.int (nI t)), some (.int b), some (.int (nI m)), some (.int (0 : Int32))]) d_R_sheet_88 (xst_i (Nat.le_of_ble_eq_true rfl) rfl rfl) ?_
                    have hb0 : (0 ≤ (nI t).toInt ∧ (nI t).toInt < 4) ∧ (b.toInt = 0 ∨ b.toInt = 8 ∨ b.toInt = 16 ∨ b.toInt = 32) := (by (try clear hQ); (try subst ev1); ((try simp only [xb_eq, xb_ne, Int32.lt_iff_toInt_lt, Int32.le_iff_toInt_le] at *) <;> (try simp only [← Int32.toInt_inj, true_and, false_and, or_false, false_or, or_true, true_or, and_true, and_false] at *) <;> omega))
                    have hb1 : ¬ (b.toInt = 0) := (by (try clear hQ); (try subst ev1); ((try simp only [xb_eq, xb_ne, Int32.lt_iff_toInt_lt, Int32.le_iff_toInt_le] at *) <;> (try simp only [← Int32.toInt_inj, true_and, false_and, or_false, false_or, or_true, true_or, and_true, and_false] at *) <;> omega))
                    have hb2 : ¬ ((nI m).toInt < 0) := (by (try clear hQ); (try subst ev1); ((try simp only [xb_eq, xb_ne, Int32.lt_iff_toInt_lt, Int32.le_iff_toInt_le] at *) <;> (try simp only [← Int32.toInt_inj, true_and, false_and, or_false, false_or, or_true, true_or, and_true, and_false] at *) <;> omega))
                    have hb3 : ¬ (24 < (nI m).toInt) := (by (try clear hQ); (try subst ev1); ((try simp only [xb_eq, xb_ne, Int32.lt_iff_toInt_lt, Int32.le_iff_toInt_le] at *) <;> (try simp only [← Int32.toInt_inj, true_and, false_and, or_false, false_or, or_true, true_or, and_true, and_false] at *) <;> omega))
                    have e : k_sheet F0 (nI t) b (nI m) = (1, sheetG F0 t b (nI m)) := (if_pos hb0).trans ((if_neg hb1).trans ((if_neg hb2).trans ((if_neg hb3).trans (by rw [kt]))))
                    rw [e] at hQ hM
                    have hbb : b = 0 ∨ b = 8 ∨ b = 16 ∨ b = 32 := by
                      simp only [← Int32.toInt_inj]
                      omega
                    refine V2.to (c_R_sheet_loop (F := xp (xp F 74 t b) 75 t (nI m)) ht (hQ (sheetG F t b (nI m)) (rel_sheetG hR ht (by omega) hbb hM)) 25 0 (by omega) (by omega)) rfl rfl rfl ?_
                    rw [show cutB (xp (xp F 74 t b) 75 t (nI m) 76) (24 * t) 0 = xp (xp F 74 t b) 75 t (nI m) 76 from by funext j; unfold cutB; rw [if_neg (by omega)], xrw_self]
                  · refine V2_iconst (v := 0) d_R_sheet_81 rfl ?_
                    refine V2_goto (tgt := 86) d_R_sheet_82 rfl ?_
                    refine V2_iastore (j := (t)) d_R_sheet_86 (by decide) rfl (xixA (n := t) rfl (by omega) (by decide)) (xixB (n := t) rfl (by omega)) ?_
                    refine V2_iconst (v := 0) d_R_sheet_87 rfl ?_
                    refine V2_istore (i := 4) (l' := [some (.ref 65), some (.int (nI t)), some (.int b), some (.int n), some (.int (0 : Int32))]) d_R_sheet_88 (xst_i (Nat.le_of_ble_eq_true rfl) rfl rfl) ?_
                    have hb0 : (0 ≤ (nI t).toInt ∧ (nI t).toInt < 4) ∧ (b.toInt = 0 ∨ b.toInt = 8 ∨ b.toInt = 16 ∨ b.toInt = 32) := (by (try clear hQ); (try subst ev1); ((try simp only [xb_eq, xb_ne, Int32.lt_iff_toInt_lt, Int32.le_iff_toInt_le] at *) <;> (try simp only [← Int32.toInt_inj, true_and, false_and, or_false, false_or, or_true, true_or, and_true, and_false] at *) <;> omega))
                    have hb1 : b.toInt = 0 := (by (try clear hQ); (try subst ev1); ((try simp only [xb_eq, xb_ne, Int32.lt_iff_toInt_lt, Int32.le_iff_toInt_le] at *) <;> (try simp only [← Int32.toInt_inj, true_and, false_and, or_false, false_or, or_true, true_or, and_true, and_false] at *) <;> omega))
                    have e : k_sheet F0 (nI t) b n = (1, sheetG F0 t 0 (nI 0)) := (if_pos hb0).trans ((if_pos hb1).trans (by rw [kt]))
                    rw [e] at hQ hM
                    have eb : b = 0 := Int32.toInt_inj.mp (by omega)
                    subst eb
                    refine V2.to (c_R_sheet_loop (F := xp (xp F 74 t 0) 75 t (nI 0)) ht (hQ (sheetG F t 0 (nI 0)) (rel_sheetG hR ht (by omega) (Or.inl rfl) hM)) 25 0 (by omega) (by omega)) rfl rfl rfl ?_
                    rw [show cutB (xp (xp F 74 t 0) 75 t (nI 0) 76) (24 * t) 0 = xp (xp F 74 t 0) 75 t (nI 0) 76 from by funext j; unfold cutB; rw [if_neg (by omega)], xrw_self]
                    rfl
                · refine V2_iload_n (i := 3) d_R_sheet_53 rfl rfl ?_
                  refine V2_bipush (v := 24) d_R_sheet_54 rfl ?_
                  refine V2_icmp_le (tgt := 65) d_R_sheet_56 rfl (fun c56 => ?_) (fun c56 => ?_)
                  · refine V2_aload_n (i := 0) d_R_sheet_65 rfl rfl ?_
                    refine V2_getr (a := 74) d_R_sheet_66 fl_R_38 (by decide) rfl (by decide) rfl ?_
                    refine V2_iload_n (i := 1) d_R_sheet_69 rfl rfl ?_
                    refine V2_iload_n (i := 2) d_R_sheet_70 rfl rfl ?_
                    refine V2_iastore (j := (t)) d_R_sheet_71 (by decide) rfl (xixA (n := t) rfl (by omega) (by decide)) (xixB (n := t) rfl (by omega)) ?_
                    refine V2_aload_n (i := 0) d_R_sheet_72 rfl rfl ?_
                    refine V2_getr (a := 75) d_R_sheet_73 fl_R_41 (by decide) rfl (by decide) rfl ?_
                    refine V2_iload_n (i := 1) d_R_sheet_76 rfl rfl ?_
                    refine V2_iload_n (i := 2) d_R_sheet_77 rfl rfl ?_
                    refine V2_if_ne (tgt := 85) d_R_sheet_78 rfl (fun c57 => ?_) (fun c57 => ?_)
                    · obtain ⟨m, hm, epm⟩ := in_of (x := n) (P := 25) (by (try clear hQ); (try subst ev1); ((try simp only [xb_eq, xb_ne, Int32.lt_iff_toInt_lt, Int32.le_iff_toInt_le] at *) <;> (try simp only [← Int32.toInt_inj, true_and, false_and, or_false, false_or, or_true, true_or, and_true, and_false] at *) <;> omega)) (by (try clear hQ); (try subst ev1); ((try simp only [xb_eq, xb_ne, Int32.lt_iff_toInt_lt, Int32.le_iff_toInt_le] at *) <;> (try simp only [← Int32.toInt_inj, true_and, false_and, or_false, false_or, or_true, true_or, and_true, and_false] at *) <;> omega)) (by omega)
                      subst epm
                      have nm : (nI m).toInt = (m : Int) := nI_toInt (by omega)
                      have km : (nI m).toNatClampNeg = m := nI_clamp (by omega)
                      refine V2_iload_n (i := 3) d_R_sheet_85 rfl rfl ?_
                      refine V2_iastore (j := (t)) d_R_sheet_86 (by decide) rfl (xixA (n := t) rfl (by omega) (by decide)) (xixB (n := t) rfl (by omega)) ?_
                      refine V2_iconst (v := 0) d_R_sheet_87 rfl ?_
                      refine V2_istore (i := 4) (l' := [some (.ref 65), some (.int (nI t)), some (.int b), some (.int (nI m)), some (.int (0 : Int32))]) d_R_sheet_88 (xst_i (Nat.le_of_ble_eq_true rfl) rfl rfl) ?_
                      have hb0 : (0 ≤ (nI t).toInt ∧ (nI t).toInt < 4) ∧ (b.toInt = 0 ∨ b.toInt = 8 ∨ b.toInt = 16 ∨ b.toInt = 32) := (by (try clear hQ); (try subst ev1); ((try simp only [xb_eq, xb_ne, Int32.lt_iff_toInt_lt, Int32.le_iff_toInt_le] at *) <;> (try simp only [← Int32.toInt_inj, true_and, false_and, or_false, false_or, or_true, true_or, and_true, and_false] at *) <;> omega))
                      have hb1 : ¬ (b.toInt = 0) := (by (try clear hQ); (try subst ev1); ((try simp only [xb_eq, xb_ne, Int32.lt_iff_toInt_lt, Int32.le_iff_toInt_le] at *) <;> (try simp only [← Int32.toInt_inj, true_and, false_and, or_false, false_or, or_true, true_or, and_true, and_false] at *) <;> omega))
                      have hb2 : ¬ ((nI m).toInt < 0) := (by (try clear hQ); (try subst ev1); ((try simp only [xb_eq, xb_ne, Int32.lt_iff_toInt_lt, Int32.le_iff_toInt_le] at *) <;> (try simp only [← Int32.toInt_inj, true_and, false_and, or_false, false_or, or_true, true_or, and_true, and_false] at *) <;> omega))
                      have hb3 : ¬ (24 < (nI m).toInt) := (by (try clear hQ); (try subst ev1); ((try simp only [xb_eq, xb_ne, Int32.lt_iff_toInt_lt, Int32.le_iff_toInt_le] at *) <;> (try simp only [← Int32.toInt_inj, true_and, false_and, or_false, false_or, or_true, true_or, and_true, and_false] at *) <;> omega))
                      have e : k_sheet F0 (nI t) b (nI m) = (1, sheetG F0 t b (nI m)) := (if_pos hb0).trans ((if_neg hb1).trans ((if_neg hb2).trans ((if_neg hb3).trans (by rw [kt]))))
                      rw [e] at hQ hM
                      have hbb : b = 0 ∨ b = 8 ∨ b = 16 ∨ b = 32 := by
                        simp only [← Int32.toInt_inj]
                        omega
                      refine V2.to (c_R_sheet_loop (F := xp (xp F 74 t b) 75 t (nI m)) ht (hQ (sheetG F t b (nI m)) (rel_sheetG hR ht (by omega) hbb hM)) 25 0 (by omega) (by omega)) rfl rfl rfl ?_
                      rw [show cutB (xp (xp F 74 t b) 75 t (nI m) 76) (24 * t) 0 = xp (xp F 74 t b) 75 t (nI m) 76 from by funext j; unfold cutB; rw [if_neg (by omega)], xrw_self]
                    · refine V2_iconst (v := 0) d_R_sheet_81 rfl ?_
                      refine V2_goto (tgt := 86) d_R_sheet_82 rfl ?_
                      refine V2_iastore (j := (t)) d_R_sheet_86 (by decide) rfl (xixA (n := t) rfl (by omega) (by decide)) (xixB (n := t) rfl (by omega)) ?_
                      refine V2_iconst (v := 0) d_R_sheet_87 rfl ?_
                      refine V2_istore (i := 4) (l' := [some (.ref 65), some (.int (nI t)), some (.int b), some (.int n), some (.int (0 : Int32))]) d_R_sheet_88 (xst_i (Nat.le_of_ble_eq_true rfl) rfl rfl) ?_
                      have hb0 : (0 ≤ (nI t).toInt ∧ (nI t).toInt < 4) ∧ (b.toInt = 0 ∨ b.toInt = 8 ∨ b.toInt = 16 ∨ b.toInt = 32) := (by (try clear hQ); (try subst ev1); ((try simp only [xb_eq, xb_ne, Int32.lt_iff_toInt_lt, Int32.le_iff_toInt_le] at *) <;> (try simp only [← Int32.toInt_inj, true_and, false_and, or_false, false_or, or_true, true_or, and_true, and_false] at *) <;> omega))
                      have hb1 : b.toInt = 0 := (by (try clear hQ); (try subst ev1); ((try simp only [xb_eq, xb_ne, Int32.lt_iff_toInt_lt, Int32.le_iff_toInt_le] at *) <;> (try simp only [← Int32.toInt_inj, true_and, false_and, or_false, false_or, or_true, true_or, and_true, and_false] at *) <;> omega))
                      have e : k_sheet F0 (nI t) b n = (1, sheetG F0 t 0 (nI 0)) := (if_pos hb0).trans ((if_pos hb1).trans (by rw [kt]))
                      rw [e] at hQ hM
                      have eb : b = 0 := Int32.toInt_inj.mp (by omega)
                      subst eb
                      refine V2.to (c_R_sheet_loop (F := xp (xp F 74 t 0) 75 t (nI 0)) ht (hQ (sheetG F t 0 (nI 0)) (rel_sheetG hR ht (by omega) (Or.inl rfl) hM)) 25 0 (by omega) (by omega)) rfl rfl rfl ?_
                      rw [show cutB (xp (xp F 74 t 0) 75 t (nI 0) 76) (24 * t) 0 = xp (xp F 74 t 0) 75 t (nI 0) 76 from by funext j; unfold cutB; rw [if_neg (by omega)], xrw_self]
                      rfl
                  · refine V2_aload_n (i := 0) d_R_sheet_59 rfl rfl ?_
                    refine V2_iconst (v := 1) d_R_sheet_60 rfl ?_
                    refine V2_callV [.int (1 : Int32)] d_R_sheet_61 rfl rfl lk_R_55 mo_R_error (by decide) rfl rfl rfl (Nat.le_of_ble_eq_true rfl) (Nat.le_of_ble_eq_true rfl) ?_
                    refine c_R_error1 ?_
                    refine V2_topi (fun v58 ev58 => ?_)
                    refine V2_ireturn d_R_sheet_64 rfl ?_
                    have hb0 : (0 ≤ (nI t).toInt ∧ (nI t).toInt < 4) ∧ (b.toInt = 0 ∨ b.toInt = 8 ∨ b.toInt = 16 ∨ b.toInt = 32) := (by (try clear hQ); (try subst ev58 ev1); ((try simp only [xb_eq, xb_ne, Int32.lt_iff_toInt_lt, Int32.le_iff_toInt_le] at *) <;> (try simp only [← Int32.toInt_inj, true_and, false_and, or_false, false_or, or_true, true_or, and_true, and_false] at *) <;> omega))
                    have hb1 : ¬ (b.toInt = 0) := (by (try clear hQ); (try subst ev58 ev1); ((try simp only [xb_eq, xb_ne, Int32.lt_iff_toInt_lt, Int32.le_iff_toInt_le] at *) <;> (try simp only [← Int32.toInt_inj, true_and, false_and, or_false, false_or, or_true, true_or, and_true, and_false] at *) <;> omega))
                    have hb2 : ¬ (n.toInt < 0) := (by (try clear hQ); (try subst ev58 ev1); ((try simp only [xb_eq, xb_ne, Int32.lt_iff_toInt_lt, Int32.le_iff_toInt_le] at *) <;> (try simp only [← Int32.toInt_inj, true_and, false_and, or_false, false_or, or_true, true_or, and_true, and_false] at *) <;> omega))
                    have hb3 : 24 < n.toInt := (by (try clear hQ); (try subst ev58 ev1); ((try simp only [xb_eq, xb_ne, Int32.lt_iff_toInt_lt, Int32.le_iff_toInt_le] at *) <;> (try simp only [← Int32.toInt_inj, true_and, false_and, or_false, false_or, or_true, true_or, and_true, and_false] at *) <;> omega))
                    have e : k_sheet F0 (nI t) b n = (-1000000000 - 1, errF F0 1) := (if_pos hb0).trans ((if_neg hb1).trans ((if_neg hb2).trans (if_pos hb3)))
                    rw [e] at hQ hM
                    subst ev58 ev1
                    exact xQi (hQ _ (rel_err hR hM)) rfl rfl
              · refine V2_aload_n (i := 0) d_R_sheet_43 rfl rfl ?_
                refine V2_iconst (v := 3) d_R_sheet_44 rfl ?_
                refine V2_callV [.int (3 : Int32)] d_R_sheet_45 rfl rfl lk_R_55 mo_R_error (by decide) rfl rfl rfl (Nat.le_of_ble_eq_true rfl) (Nat.le_of_ble_eq_true rfl) ?_
                refine c_R_error3 ?_
                refine V2_topi (fun v59 ev59 => ?_)
                refine V2_ireturn d_R_sheet_48 rfl ?_
                have hb0 : (0 ≤ (nI t).toInt ∧ (nI t).toInt < 4) ∧ (b.toInt = 0 ∨ b.toInt = 8 ∨ b.toInt = 16 ∨ b.toInt = 32) := (by (try clear hQ); (try subst ev59 ev1); ((try simp only [xb_eq, xb_ne, Int32.lt_iff_toInt_lt, Int32.le_iff_toInt_le] at *) <;> (try simp only [← Int32.toInt_inj, true_and, false_and, or_false, false_or, or_true, true_or, and_true, and_false] at *) <;> omega))
                have hb1 : ¬ (b.toInt = 0) := (by (try clear hQ); (try subst ev59 ev1); ((try simp only [xb_eq, xb_ne, Int32.lt_iff_toInt_lt, Int32.le_iff_toInt_le] at *) <;> (try simp only [← Int32.toInt_inj, true_and, false_and, or_false, false_or, or_true, true_or, and_true, and_false] at *) <;> omega))
                have hb2 : n.toInt < 0 := (by (try clear hQ); (try subst ev59 ev1); ((try simp only [xb_eq, xb_ne, Int32.lt_iff_toInt_lt, Int32.le_iff_toInt_le] at *) <;> (try simp only [← Int32.toInt_inj, true_and, false_and, or_false, false_or, or_true, true_or, and_true, and_false] at *) <;> omega))
                have e : k_sheet F0 (nI t) b n = (-1000000000 - 3, errF F0 3) := (if_pos hb0).trans ((if_neg hb1).trans (if_pos hb2))
                rw [e] at hQ hM
                subst ev59 ev1
                exact xQi (hQ _ (rel_err hR hM)) rfl rfl
          · refine V2_aload_n (i := 0) d_R_sheet_29 rfl rfl ?_
            refine V2_iconst (v := 1) d_R_sheet_30 rfl ?_
            refine V2_callV [.int (1 : Int32)] d_R_sheet_31 rfl rfl lk_R_55 mo_R_error (by decide) rfl rfl rfl (Nat.le_of_ble_eq_true rfl) (Nat.le_of_ble_eq_true rfl) ?_
            refine c_R_error1 ?_
            refine V2_topi (fun v60 ev60 => ?_)
            refine V2_ireturn d_R_sheet_34 rfl ?_
            have hb0 : ¬ ((0 ≤ (nI t).toInt ∧ (nI t).toInt < 4) ∧ (b.toInt = 0 ∨ b.toInt = 8 ∨ b.toInt = 16 ∨ b.toInt = 32)) := (by (try clear hQ); (try subst ev60 ev1); ((try simp only [xb_eq, xb_ne, Int32.lt_iff_toInt_lt, Int32.le_iff_toInt_le] at *) <;> (try simp only [← Int32.toInt_inj, true_and, false_and, or_false, false_or, or_true, true_or, and_true, and_false] at *) <;> omega))
            have e : k_sheet F0 (nI t) b n = (-1000000000 - 1, errF F0 1) := if_neg hb0
            rw [e] at hQ hM
            subst ev60 ev1
            exact xQi (hQ _ (rel_err hR hM)) rfl rfl
