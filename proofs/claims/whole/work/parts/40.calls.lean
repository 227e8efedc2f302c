/-! THE CALLS, in pairs: cls_x from Rel to Mid, mod_x from Mid to Rel. First what they share (written by wip/whole/c40.py) -/
/-- behind both calls -/
theorem rel_end {F0 F1 F2 G : xF} (h : Mid F0 F1 G) (hc : ∀ k, k < 65 → F2 k = F1 k) (hm : ∀ k, k = 65 ∨ k = 66 ∨ k = 67 ∨ k = 69 ∨ k = 73 ∨ k = 74 ∨ k = 75 ∨ k = 76 → F2 k = G k) (hi : invM G) : Rel F2 :=
  ⟨relC_mo (relC_cl h.2 hc) hm, invM_mo hi (fun k hk => hm k (by omega))⟩
/-- a write to the world's car or z, and to the first nine of a row -/
theorem relW_low {F F' : xF} {w : Nat} {S S' : Nat → Int32} (h : relW F w S) (hS : ∀ j, 9 ≤ j → S' j = S j) (hF : ∀ k, w + 2 ≤ k → k ≤ w + 16 → F' k = F k) (hc : relCr (F' (w + 1)) S') (hz : F' w 6 = S' 8) : relW F' w S' := by
  obtain ⟨_, h2, h3, h4, h5, h6, _⟩ := h
  refine ⟨hc, ?_, ?_, ?_, ?_, ?_, hz⟩
  · unfold relPw at *
    rw [hF (w + 2) (by omega) (by omega), hF (w + 4) (by omega) (by omega), hF (w + 6) (by omega) (by omega), hS 11 (by omega)]
    refine ⟨h2.1, h2.2.1, fun p hp => ?_⟩
    rw [hS _ (by omega), hS _ (by omega)]
    exact h2.2.2 p hp
  · unfold relL whS vlS at *
    rw [hF (w + 7) (by omega) (by omega), hF (w + 7 + 1) (by omega) (by omega), hS _ (by omega)]
    refine ⟨h3.1, h3.2.1, fun hp => ⟨(h3.2.2 hp).1, fun k hk => ?_⟩⟩
    rw [hS _ (by omega), hS _ (by omega)]
    exact (h3.2.2 hp).2 k hk
  · unfold relL whS vlS at *
    rw [hF (w + 10) (by omega) (by omega), hF (w + 10 + 1) (by omega) (by omega), hS _ (by omega)]
    refine ⟨h4.1, h4.2.1, fun hp => ⟨(h4.2.2 hp).1, fun k hk => ?_⟩⟩
    rw [hS _ (by omega), hS _ (by omega)]
    exact (h4.2.2 hp).2 k hk
  · unfold relTape at *
    rw [hF (w + 13) (by omega) (by omega), hF (w + 14) (by omega) (by omega), hS 9 (by omega)]
    refine ⟨h5.1, fun i hi => ?_⟩
    rw [hS _ (by omega)]
    exact h5.2 i hi
  · unfold relWait at *
    rw [hF (w + 15) (by omega) (by omega), hF (w + 16) (by omega) (by omega), hS 10 (by omega)]
    refine ⟨h6.1, fun i hi => ?_⟩
    rw [hS _ (by omega)]
    exact h6.2 i hi
theorem invS_low {S S' : Nat → Int32} (h : invS S) (hS : ∀ j, 9 ≤ j → S' j = S j) (hc : invC S') (h7 : 0 ≤ (S' 7).toInt ∧ (S' 7).toInt ≤ 9999) : invS S' := by
  obtain ⟨_, _, ⟨P, hP, e, hp⟩, t0, t1, ⟨T, hT, eT, hv⟩, ⟨W, hW, eW⟩⟩ := h
  have ok : ∀ u, okT u S → okT u S' := by
    intro u hu
    have e1 : whS u S' = whS u S := by unfold whS; funext k; exact hS _ (by omega)
    have e2 : vlS u S' = vlS u S := by unfold vlS; funext k; exact hS _ (by omega)
    unfold okT at *
    rw [e1, e2, hS _ (by omega)]
    exact hu
  refine ⟨hc, h7, ⟨P, hP, ?_, fun p hh => ?_⟩, ok 0 t0, ok 1 t1, ⟨T, hT, ?_, fun i hh => ?_⟩, ⟨W, hW, ?_⟩⟩
  · rw [hS 11 (by omega)]; exact e
  · rw [hS _ (by omega), hS _ (by omega)]; exact hp p hh
  · rw [hS 9 (by omega)]; exact eT
  · rw [hS _ (by omega)]; exact hv i hh
  · rw [hS 10 (by omega)]; exact eW
/-- a change of the world and of its row alone -/
theorem relC_W {F F' G G' : xF} (h : relC F G) (hw : relW F' 1 (G' 66)) (hF : ∀ k, k = 0 ∨ 18 ≤ k → k < 65 → F' k = F k) (hG : ∀ k, ¬ k = 66 → G' k = G k) : relC F' G' := by
  have e : ∀ {a : Nat}, a = 0 ∨ 18 ≤ a → a < 65 → F' a = F a := fun h1 h2 => hF _ h1 h2
  unfold relC at *
  obtain ⟨_, h2, h3, h4, h5, h6, h7⟩ := h
  rw [hG 65 (by decide), hG 67 (by decide), hG 69 (by decide), hG 73 (by decide)]
  refine ⟨hw, ?_, ?_, ?_, ?_, ?_, ?_⟩
  · unfold relW relPw relTape relWait relL at *
    rw [e (a := 18 + 1) (by decide) (by decide), e (a := 18 + 2) (by decide) (by decide), e (a := 18 + 4) (by decide) (by decide), e (a := 18 + 6) (by decide) (by decide), e (a := 18 + 7) (by decide) (by decide), e (a := 18 + 7 + 1) (by decide) (by decide), e (a := 18 + 10) (by decide) (by decide), e (a := 18 + 10 + 1) (by decide) (by decide), e (a := 18 + 13) (by decide) (by decide), e (a := 18 + 14) (by decide) (by decide), e (a := 18 + 15) (by decide) (by decide), e (a := 18 + 16) (by decide) (by decide), e (a := 18) (by decide) (by decide)]
    exact h2
  · intro k hk
    rw [e (by decide) (by decide)]
    exact h3 k hk
  · rw [e (by decide) (by decide)]
    exact h4
  · rw [e (by decide) (by decide)]
    exact h5
  · intro i hi
    rw [e (by decide) (by decide)]
    exact h6 i hi
  · intro t ht
    unfold relSheet at *
    rw [hG 74 (by decide), hG 75 (by decide), hG 76 (by decide), e (a := 57 + 2 * t) (by omega) (by omega), e (a := 58 + 2 * t) (by omega) (by omega)]
    exact h7 t ht
theorem invM_S {G G' : xF} (h : invM G) (hs : invS (G' 66)) (hG : ∀ k, ¬ k = 66 → G' k = G k) : invM G' := by
  unfold invM invSheet at *
  rw [hG 65 (by decide), hG 67 (by decide), hG 74 (by decide), hG 75 (by decide)]
  exact ⟨hs, h.2⟩
/-- an error told -/
def errF (F : xF) (k : Nat) : xF := xp F 69 k (F 69 k + 1)
theorem mid_err {F : xF} {k : Nat} (h : Rel F) (hk : k < 7) : Mid F (xp F 56 k (F 56 k + 1)) (errF F k) := by
  refine ⟨fun a ha => ?_, ?_⟩
  · funext b
    exact xp_ne (Or.inl (by omega))
  · have hc : ∀ a, ¬ a = 56 → xp F 56 k (F 56 k + 1) a = F a := fun a ha => by funext b; exact xp_ne (Or.inl ha)
    have hm : ∀ a, ¬ a = 69 → errF F k a = F a := fun a ha => by funext b; exact xp_ne (Or.inl ha)
    have h1 := h.1
    unfold relC relW relPw relTape relWait relL relSheet at *
    obtain ⟨g1, g2, g3, g4, g5, g6, g7⟩ := h1
    rw [hm 65 (by decide), hm 66 (by decide), hm 67 (by decide), hm 73 (by decide), hm 74 (by decide), hm 75 (by decide), hm 76 (by decide)]
    refine ⟨?_, ?_, ?_, ?_, ?_, ?_, ?_⟩
    · rw [hc (1 + 1) (by decide), hc (1 + 2) (by decide), hc (1 + 4) (by decide), hc (1 + 6) (by decide), hc (1 + 7) (by decide), hc (1 + 7 + 1) (by decide), hc (1 + 10) (by decide), hc (1 + 10 + 1) (by decide), hc (1 + 13) (by decide), hc (1 + 14) (by decide), hc (1 + 15) (by decide), hc (1 + 16) (by decide), hc 1 (by decide)]
      exact g1
    · rw [hc (18 + 1) (by decide), hc (18 + 2) (by decide), hc (18 + 4) (by decide), hc (18 + 6) (by decide), hc (18 + 7) (by decide), hc (18 + 7 + 1) (by decide), hc (18 + 10) (by decide), hc (18 + 10 + 1) (by decide), hc (18 + 13) (by decide), hc (18 + 14) (by decide), hc (18 + 15) (by decide), hc (18 + 16) (by decide), hc 18 (by decide)]
      exact g2
    · intro j hj
      by_cases e : j = k
      · subst e
        unfold errF
        rw [xp_same, xp_same, g3 j hj]
      · unfold errF
        rw [xp_ne (Or.inr e), xp_ne (Or.inr e)]
        exact g3 j hj
    · rw [hc 0 (by decide)]
      exact g4
    · rw [hc 53 (by decide)]
      exact g5
    · rw [hc 54 (by decide)]
      exact g6
    · intro t ht
      rw [hc (57 + 2 * t) (by omega), hc (58 + 2 * t) (by omega)]
      exact g7 t ht
theorem rel_err {F0 F1 : xF} {k : Nat} (h : Rel F0) (hm : Mid F0 F1 (errF F0 k)) : Rel (xp F1 69 k (F1 69 k + 1)) := by
  refine rel_end hm (fun a ha => ?_) (fun a ha => ?_) ?_
  · funext b
    exact xp_ne (Or.inl (by omega))
  · rw [hm.1 69 (by decide)]
    by_cases e : a = 69
    · subst e
      funext b
      unfold errF
      by_cases eb : b = k
      · subst eb
        rw [xp_same, xp_same]
      · rw [xp_ne (Or.inr eb), xp_ne (Or.inr eb), hm.1 69 (by decide)]
    · funext b
      unfold errF
      rw [xp_ne (Or.inl e), xp_ne (Or.inl e), hm.1 a (by omega)]
  · exact invM_mo h.2 (fun a ha => by funext b; exact xp_ne (Or.inl (by omega)))
theorem c_P_fails1 {L : Nat} {xs : Nat → Int32} {d : Nat} {Q : Option Value → xF → Prop} {F : xF}   (hQ : Q (some (.int (-1000000000 - 1))) (xp F 56 1 (F 56 1 + 1))) : V2 L xs d m_P_fails 0 (xEntry [.ref 0, .int (1 : Int32)] 2) [] F Q := by
  refine V2.to (l' := [some (.ref 0), some (.int (1 : Int32))]) ?_ rfl rfl rfl rfl
  refine V2_iload_n (i := 1) d_P_fails_0 rfl rfl ?_
  refine V2_if_lt (tgt := 23) d_P_fails_1 rfl (fun c => (by first | exact absurd c (by decide) | exact absurd (by decide) c)) (fun _ => ?_)
  refine V2_iload_n (i := 1) d_P_fails_4 rfl rfl ?_
  refine V2_aload_n (i := 0) d_P_fails_5 rfl rfl ?_
  refine V2_getr (a := 56) d_P_fails_6 fl_P_53 (by decide) rfl (by decide) rfl ?_
  refine V2_alen (t := 0) (v := 7) d_P_fails_9 (by decide) rfl (by decide) rfl ?_
  refine V2_icmp_ge (tgt := 23) d_P_fails_10 rfl (fun c => (by first | exact absurd c (by decide) | exact absurd (by decide) c)) (fun _ => ?_)
  refine V2_aload_n (i := 0) d_P_fails_13 rfl rfl ?_
  refine V2_getr (a := 56) d_P_fails_14 fl_P_53 (by decide) rfl (by decide) rfl ?_
  refine V2_iload_n (i := 1) d_P_fails_17 rfl rfl ?_
  refine V2_dup2 d_P_fails_18 rfl rfl ?_
  refine V2_iaload (v := F 56 1) d_P_fails_19 (by decide) rfl (xixA (n := 1) rfl (by decide) (by decide)) rfl ?_
  refine V2_topi (fun v1 ev1 => ?_)
  refine V2_iconst (v := 1) d_P_fails_20 rfl ?_
  refine V2_iadd d_P_fails_21 ?_
  refine V2_topi (fun v2 ev2 => ?_)
  refine V2_iastore (j := 1) d_P_fails_22 (by decide) rfl (xixA (n := 1) rfl (by decide) (by decide)) rfl ?_
  refine V2_ldcw (v := -1000000000) d_P_fails_23 kc_P_346 ?_
  refine V2_iload_n (i := 1) d_P_fails_26 rfl rfl ?_
  refine V2_isub d_P_fails_27 ?_
  refine V2_topi (fun v3 ev3 => ?_)
  refine V2_ireturn d_P_fails_28 rfl ?_
  subst ev3 ev2 ev1
  exact xQi hQ rfl rfl
theorem c_R_error1 {L : Nat} {xs : Nat → Int32} {d : Nat} {Q : Option Value → xF → Prop} {F : xF}   (hQ : Q (some (.int (-1000000000 - 1))) (xp F 69 1 (F 69 1 + 1))) : V2 L xs d m_R_error 0 (xEntry [.ref 65, .int (1 : Int32)] 2) [] F Q := by
  refine V2.to (l' := [some (.ref 65), some (.int (1 : Int32))]) ?_ rfl rfl rfl rfl
  refine V2_aload_n (i := 0) d_R_error_0 rfl rfl ?_
  refine V2_getr (a := 69) d_R_error_1 fl_R_19 (by decide) rfl (by decide) rfl ?_
  refine V2_iload_n (i := 1) d_R_error_4 rfl rfl ?_
  refine V2_dup2 d_R_error_5 rfl rfl ?_
  refine V2_iaload (v := F 69 1) d_R_error_6 (by decide) rfl (xixA (n := 1) rfl (by decide) (by decide)) rfl ?_
  refine V2_topi (fun v1 ev1 => ?_)
  refine V2_iconst (v := 1) d_R_error_7 rfl ?_
  refine V2_iadd d_R_error_8 ?_
  refine V2_topi (fun v2 ev2 => ?_)
  refine V2_iastore (j := 1) d_R_error_9 (by decide) rfl (xixA (n := 1) rfl (by decide) (by decide)) rfl ?_
  refine V2_ldc (v := -1000000000) d_R_error_10 kc_R_50 ?_
  refine V2_iload_n (i := 1) d_R_error_12 rfl rfl ?_
  refine V2_isub d_R_error_13 ?_
  refine V2_topi (fun v3 ev3 => ?_)
  refine V2_ireturn d_R_error_14 rfl ?_
  subst ev3 ev2 ev1
  exact xQi hQ rfl rfl
theorem c_P_fails2 {L : Nat} {xs : Nat → Int32} {d : Nat} {Q : Option Value → xF → Prop} {F : xF}   (hQ : Q (some (.int (-1000000000 - 2))) (xp F 56 2 (F 56 2 + 1))) : V2 L xs d m_P_fails 0 (xEntry [.ref 0, .int (2 : Int32)] 2) [] F Q := by
  refine V2.to (l' := [some (.ref 0), some (.int (2 : Int32))]) ?_ rfl rfl rfl rfl
  refine V2_iload_n (i := 1) d_P_fails_0 rfl rfl ?_
  refine V2_if_lt (tgt := 23) d_P_fails_1 rfl (fun c => (by first | exact absurd c (by decide) | exact absurd (by decide) c)) (fun _ => ?_)
  refine V2_iload_n (i := 1) d_P_fails_4 rfl rfl ?_
  refine V2_aload_n (i := 0) d_P_fails_5 rfl rfl ?_
  refine V2_getr (a := 56) d_P_fails_6 fl_P_53 (by decide) rfl (by decide) rfl ?_
  refine V2_alen (t := 0) (v := 7) d_P_fails_9 (by decide) rfl (by decide) rfl ?_
  refine V2_icmp_ge (tgt := 23) d_P_fails_10 rfl (fun c => (by first | exact absurd c (by decide) | exact absurd (by decide) c)) (fun _ => ?_)
  refine V2_aload_n (i := 0) d_P_fails_13 rfl rfl ?_
  refine V2_getr (a := 56) d_P_fails_14 fl_P_53 (by decide) rfl (by decide) rfl ?_
  refine V2_iload_n (i := 1) d_P_fails_17 rfl rfl ?_
  refine V2_dup2 d_P_fails_18 rfl rfl ?_
  refine V2_iaload (v := F 56 2) d_P_fails_19 (by decide) rfl (xixA (n := 2) rfl (by decide) (by decide)) rfl ?_
  refine V2_topi (fun v1 ev1 => ?_)
  refine V2_iconst (v := 1) d_P_fails_20 rfl ?_
  refine V2_iadd d_P_fails_21 ?_
  refine V2_topi (fun v2 ev2 => ?_)
  refine V2_iastore (j := 2) d_P_fails_22 (by decide) rfl (xixA (n := 2) rfl (by decide) (by decide)) rfl ?_
  refine V2_ldcw (v := -1000000000) d_P_fails_23 kc_P_346 ?_
  refine V2_iload_n (i := 1) d_P_fails_26 rfl rfl ?_
  refine V2_isub d_P_fails_27 ?_
  refine V2_topi (fun v3 ev3 => ?_)
  refine V2_ireturn d_P_fails_28 rfl ?_
  subst ev3 ev2 ev1
  exact xQi hQ rfl rfl
theorem c_R_error2 {L : Nat} {xs : Nat → Int32} {d : Nat} {Q : Option Value → xF → Prop} {F : xF}   (hQ : Q (some (.int (-1000000000 - 2))) (xp F 69 2 (F 69 2 + 1))) : V2 L xs d m_R_error 0 (xEntry [.ref 65, .int (2 : Int32)] 2) [] F Q := by
  refine V2.to (l' := [some (.ref 65), some (.int (2 : Int32))]) ?_ rfl rfl rfl rfl
  refine V2_aload_n (i := 0) d_R_error_0 rfl rfl ?_
  refine V2_getr (a := 69) d_R_error_1 fl_R_19 (by decide) rfl (by decide) rfl ?_
  refine V2_iload_n (i := 1) d_R_error_4 rfl rfl ?_
  refine V2_dup2 d_R_error_5 rfl rfl ?_
  refine V2_iaload (v := F 69 2) d_R_error_6 (by decide) rfl (xixA (n := 2) rfl (by decide) (by decide)) rfl ?_
  refine V2_topi (fun v1 ev1 => ?_)
  refine V2_iconst (v := 1) d_R_error_7 rfl ?_
  refine V2_iadd d_R_error_8 ?_
  refine V2_topi (fun v2 ev2 => ?_)
  refine V2_iastore (j := 2) d_R_error_9 (by decide) rfl (xixA (n := 2) rfl (by decide) (by decide)) rfl ?_
  refine V2_ldc (v := -1000000000) d_R_error_10 kc_R_50 ?_
  refine V2_iload_n (i := 1) d_R_error_12 rfl rfl ?_
  refine V2_isub d_R_error_13 ?_
  refine V2_topi (fun v3 ev3 => ?_)
  refine V2_ireturn d_R_error_14 rfl ?_
  subst ev3 ev2 ev1
  exact xQi hQ rfl rfl
theorem c_P_fails3 {L : Nat} {xs : Nat → Int32} {d : Nat} {Q : Option Value → xF → Prop} {F : xF}   (hQ : Q (some (.int (-1000000000 - 3))) (xp F 56 3 (F 56 3 + 1))) : V2 L xs d m_P_fails 0 (xEntry [.ref 0, .int (3 : Int32)] 2) [] F Q := by
  refine V2.to (l' := [some (.ref 0), some (.int (3 : Int32))]) ?_ rfl rfl rfl rfl
  refine V2_iload_n (i := 1) d_P_fails_0 rfl rfl ?_
  refine V2_if_lt (tgt := 23) d_P_fails_1 rfl (fun c => (by first | exact absurd c (by decide) | exact absurd (by decide) c)) (fun _ => ?_)
  refine V2_iload_n (i := 1) d_P_fails_4 rfl rfl ?_
  refine V2_aload_n (i := 0) d_P_fails_5 rfl rfl ?_
  refine V2_getr (a := 56) d_P_fails_6 fl_P_53 (by decide) rfl (by decide) rfl ?_
  refine V2_alen (t := 0) (v := 7) d_P_fails_9 (by decide) rfl (by decide) rfl ?_
  refine V2_icmp_ge (tgt := 23) d_P_fails_10 rfl (fun c => (by first | exact absurd c (by decide) | exact absurd (by decide) c)) (fun _ => ?_)
  refine V2_aload_n (i := 0) d_P_fails_13 rfl rfl ?_
  refine V2_getr (a := 56) d_P_fails_14 fl_P_53 (by decide) rfl (by decide) rfl ?_
  refine V2_iload_n (i := 1) d_P_fails_17 rfl rfl ?_
  refine V2_dup2 d_P_fails_18 rfl rfl ?_
  refine V2_iaload (v := F 56 3) d_P_fails_19 (by decide) rfl (xixA (n := 3) rfl (by decide) (by decide)) rfl ?_
  refine V2_topi (fun v1 ev1 => ?_)
  refine V2_iconst (v := 1) d_P_fails_20 rfl ?_
  refine V2_iadd d_P_fails_21 ?_
  refine V2_topi (fun v2 ev2 => ?_)
  refine V2_iastore (j := 3) d_P_fails_22 (by decide) rfl (xixA (n := 3) rfl (by decide) (by decide)) rfl ?_
  refine V2_ldcw (v := -1000000000) d_P_fails_23 kc_P_346 ?_
  refine V2_iload_n (i := 1) d_P_fails_26 rfl rfl ?_
  refine V2_isub d_P_fails_27 ?_
  refine V2_topi (fun v3 ev3 => ?_)
  refine V2_ireturn d_P_fails_28 rfl ?_
  subst ev3 ev2 ev1
  exact xQi hQ rfl rfl
theorem c_R_error3 {L : Nat} {xs : Nat → Int32} {d : Nat} {Q : Option Value → xF → Prop} {F : xF}   (hQ : Q (some (.int (-1000000000 - 3))) (xp F 69 3 (F 69 3 + 1))) : V2 L xs d m_R_error 0 (xEntry [.ref 65, .int (3 : Int32)] 2) [] F Q := by
  refine V2.to (l' := [some (.ref 65), some (.int (3 : Int32))]) ?_ rfl rfl rfl rfl
  refine V2_aload_n (i := 0) d_R_error_0 rfl rfl ?_
  refine V2_getr (a := 69) d_R_error_1 fl_R_19 (by decide) rfl (by decide) rfl ?_
  refine V2_iload_n (i := 1) d_R_error_4 rfl rfl ?_
  refine V2_dup2 d_R_error_5 rfl rfl ?_
  refine V2_iaload (v := F 69 3) d_R_error_6 (by decide) rfl (xixA (n := 3) rfl (by decide) (by decide)) rfl ?_
  refine V2_topi (fun v1 ev1 => ?_)
  refine V2_iconst (v := 1) d_R_error_7 rfl ?_
  refine V2_iadd d_R_error_8 ?_
  refine V2_topi (fun v2 ev2 => ?_)
  refine V2_iastore (j := 3) d_R_error_9 (by decide) rfl (xixA (n := 3) rfl (by decide) (by decide)) rfl ?_
  refine V2_ldc (v := -1000000000) d_R_error_10 kc_R_50 ?_
  refine V2_iload_n (i := 1) d_R_error_12 rfl rfl ?_
  refine V2_isub d_R_error_13 ?_
  refine V2_topi (fun v3 ev3 => ?_)
  refine V2_ireturn d_R_error_14 rfl ?_
  subst ev3 ev2 ev1
  exact xQi hQ rfl rfl
theorem c_P_fails4 {L : Nat} {xs : Nat → Int32} {d : Nat} {Q : Option Value → xF → Prop} {F : xF}   (hQ : Q (some (.int (-1000000000 - 4))) (xp F 56 4 (F 56 4 + 1))) : V2 L xs d m_P_fails 0 (xEntry [.ref 0, .int (4 : Int32)] 2) [] F Q := by
  refine V2.to (l' := [some (.ref 0), some (.int (4 : Int32))]) ?_ rfl rfl rfl rfl
  refine V2_iload_n (i := 1) d_P_fails_0 rfl rfl ?_
  refine V2_if_lt (tgt := 23) d_P_fails_1 rfl (fun c => (by first | exact absurd c (by decide) | exact absurd (by decide) c)) (fun _ => ?_)
  refine V2_iload_n (i := 1) d_P_fails_4 rfl rfl ?_
  refine V2_aload_n (i := 0) d_P_fails_5 rfl rfl ?_
  refine V2_getr (a := 56) d_P_fails_6 fl_P_53 (by decide) rfl (by decide) rfl ?_
  refine V2_alen (t := 0) (v := 7) d_P_fails_9 (by decide) rfl (by decide) rfl ?_
  refine V2_icmp_ge (tgt := 23) d_P_fails_10 rfl (fun c => (by first | exact absurd c (by decide) | exact absurd (by decide) c)) (fun _ => ?_)
  refine V2_aload_n (i := 0) d_P_fails_13 rfl rfl ?_
  refine V2_getr (a := 56) d_P_fails_14 fl_P_53 (by decide) rfl (by decide) rfl ?_
  refine V2_iload_n (i := 1) d_P_fails_17 rfl rfl ?_
  refine V2_dup2 d_P_fails_18 rfl rfl ?_
  refine V2_iaload (v := F 56 4) d_P_fails_19 (by decide) rfl (xixA (n := 4) rfl (by decide) (by decide)) rfl ?_
  refine V2_topi (fun v1 ev1 => ?_)
  refine V2_iconst (v := 1) d_P_fails_20 rfl ?_
  refine V2_iadd d_P_fails_21 ?_
  refine V2_topi (fun v2 ev2 => ?_)
  refine V2_iastore (j := 4) d_P_fails_22 (by decide) rfl (xixA (n := 4) rfl (by decide) (by decide)) rfl ?_
  refine V2_ldcw (v := -1000000000) d_P_fails_23 kc_P_346 ?_
  refine V2_iload_n (i := 1) d_P_fails_26 rfl rfl ?_
  refine V2_isub d_P_fails_27 ?_
  refine V2_topi (fun v3 ev3 => ?_)
  refine V2_ireturn d_P_fails_28 rfl ?_
  subst ev3 ev2 ev1
  exact xQi hQ rfl rfl
theorem c_R_error4 {L : Nat} {xs : Nat → Int32} {d : Nat} {Q : Option Value → xF → Prop} {F : xF}   (hQ : Q (some (.int (-1000000000 - 4))) (xp F 69 4 (F 69 4 + 1))) : V2 L xs d m_R_error 0 (xEntry [.ref 65, .int (4 : Int32)] 2) [] F Q := by
  refine V2.to (l' := [some (.ref 65), some (.int (4 : Int32))]) ?_ rfl rfl rfl rfl
  refine V2_aload_n (i := 0) d_R_error_0 rfl rfl ?_
  refine V2_getr (a := 69) d_R_error_1 fl_R_19 (by decide) rfl (by decide) rfl ?_
  refine V2_iload_n (i := 1) d_R_error_4 rfl rfl ?_
  refine V2_dup2 d_R_error_5 rfl rfl ?_
  refine V2_iaload (v := F 69 4) d_R_error_6 (by decide) rfl (xixA (n := 4) rfl (by decide) (by decide)) rfl ?_
  refine V2_topi (fun v1 ev1 => ?_)
  refine V2_iconst (v := 1) d_R_error_7 rfl ?_
  refine V2_iadd d_R_error_8 ?_
  refine V2_topi (fun v2 ev2 => ?_)
  refine V2_iastore (j := 4) d_R_error_9 (by decide) rfl (xixA (n := 4) rfl (by decide) (by decide)) rfl ?_
  refine V2_ldc (v := -1000000000) d_R_error_10 kc_R_50 ?_
  refine V2_iload_n (i := 1) d_R_error_12 rfl rfl ?_
  refine V2_isub d_R_error_13 ?_
  refine V2_topi (fun v3 ev3 => ?_)
  refine V2_ireturn d_R_error_14 rfl ?_
  subst ev3 ev2 ev1
  exact xQi hQ rfl rfl
theorem c_P_fails5 {L : Nat} {xs : Nat → Int32} {d : Nat} {Q : Option Value → xF → Prop} {F : xF}   (hQ : Q (some (.int (-1000000000 - 5))) (xp F 56 5 (F 56 5 + 1))) : V2 L xs d m_P_fails 0 (xEntry [.ref 0, .int (5 : Int32)] 2) [] F Q := by
  refine V2.to (l' := [some (.ref 0), some (.int (5 : Int32))]) ?_ rfl rfl rfl rfl
  refine V2_iload_n (i := 1) d_P_fails_0 rfl rfl ?_
  refine V2_if_lt (tgt := 23) d_P_fails_1 rfl (fun c => (by first | exact absurd c (by decide) | exact absurd (by decide) c)) (fun _ => ?_)
  refine V2_iload_n (i := 1) d_P_fails_4 rfl rfl ?_
  refine V2_aload_n (i := 0) d_P_fails_5 rfl rfl ?_
  refine V2_getr (a := 56) d_P_fails_6 fl_P_53 (by decide) rfl (by decide) rfl ?_
  refine V2_alen (t := 0) (v := 7) d_P_fails_9 (by decide) rfl (by decide) rfl ?_
  refine V2_icmp_ge (tgt := 23) d_P_fails_10 rfl (fun c => (by first | exact absurd c (by decide) | exact absurd (by decide) c)) (fun _ => ?_)
  refine V2_aload_n (i := 0) d_P_fails_13 rfl rfl ?_
  refine V2_getr (a := 56) d_P_fails_14 fl_P_53 (by decide) rfl (by decide) rfl ?_
  refine V2_iload_n (i := 1) d_P_fails_17 rfl rfl ?_
  refine V2_dup2 d_P_fails_18 rfl rfl ?_
  refine V2_iaload (v := F 56 5) d_P_fails_19 (by decide) rfl (xixA (n := 5) rfl (by decide) (by decide)) rfl ?_
  refine V2_topi (fun v1 ev1 => ?_)
  refine V2_iconst (v := 1) d_P_fails_20 rfl ?_
  refine V2_iadd d_P_fails_21 ?_
  refine V2_topi (fun v2 ev2 => ?_)
  refine V2_iastore (j := 5) d_P_fails_22 (by decide) rfl (xixA (n := 5) rfl (by decide) (by decide)) rfl ?_
  refine V2_ldcw (v := -1000000000) d_P_fails_23 kc_P_346 ?_
  refine V2_iload_n (i := 1) d_P_fails_26 rfl rfl ?_
  refine V2_isub d_P_fails_27 ?_
  refine V2_topi (fun v3 ev3 => ?_)
  refine V2_ireturn d_P_fails_28 rfl ?_
  subst ev3 ev2 ev1
  exact xQi hQ rfl rfl
theorem c_R_error5 {L : Nat} {xs : Nat → Int32} {d : Nat} {Q : Option Value → xF → Prop} {F : xF}   (hQ : Q (some (.int (-1000000000 - 5))) (xp F 69 5 (F 69 5 + 1))) : V2 L xs d m_R_error 0 (xEntry [.ref 65, .int (5 : Int32)] 2) [] F Q := by
  refine V2.to (l' := [some (.ref 65), some (.int (5 : Int32))]) ?_ rfl rfl rfl rfl
  refine V2_aload_n (i := 0) d_R_error_0 rfl rfl ?_
  refine V2_getr (a := 69) d_R_error_1 fl_R_19 (by decide) rfl (by decide) rfl ?_
  refine V2_iload_n (i := 1) d_R_error_4 rfl rfl ?_
  refine V2_dup2 d_R_error_5 rfl rfl ?_
  refine V2_iaload (v := F 69 5) d_R_error_6 (by decide) rfl (xixA (n := 5) rfl (by decide) (by decide)) rfl ?_
  refine V2_topi (fun v1 ev1 => ?_)
  refine V2_iconst (v := 1) d_R_error_7 rfl ?_
  refine V2_iadd d_R_error_8 ?_
  refine V2_topi (fun v2 ev2 => ?_)
  refine V2_iastore (j := 5) d_R_error_9 (by decide) rfl (xixA (n := 5) rfl (by decide) (by decide)) rfl ?_
  refine V2_ldc (v := -1000000000) d_R_error_10 kc_R_50 ?_
  refine V2_iload_n (i := 1) d_R_error_12 rfl rfl ?_
  refine V2_isub d_R_error_13 ?_
  refine V2_topi (fun v3 ev3 => ?_)
  refine V2_ireturn d_R_error_14 rfl ?_
  subst ev3 ev2 ev1
  exact xQi hQ rfl rfl
theorem c_P_fails6 {L : Nat} {xs : Nat → Int32} {d : Nat} {Q : Option Value → xF → Prop} {F : xF}   (hQ : Q (some (.int (-1000000000 - 6))) (xp F 56 6 (F 56 6 + 1))) : V2 L xs d m_P_fails 0 (xEntry [.ref 0, .int (6 : Int32)] 2) [] F Q := by
  refine V2.to (l' := [some (.ref 0), some (.int (6 : Int32))]) ?_ rfl rfl rfl rfl
  refine V2_iload_n (i := 1) d_P_fails_0 rfl rfl ?_
  refine V2_if_lt (tgt := 23) d_P_fails_1 rfl (fun c => (by first | exact absurd c (by decide) | exact absurd (by decide) c)) (fun _ => ?_)
  refine V2_iload_n (i := 1) d_P_fails_4 rfl rfl ?_
  refine V2_aload_n (i := 0) d_P_fails_5 rfl rfl ?_
  refine V2_getr (a := 56) d_P_fails_6 fl_P_53 (by decide) rfl (by decide) rfl ?_
  refine V2_alen (t := 0) (v := 7) d_P_fails_9 (by decide) rfl (by decide) rfl ?_
  refine V2_icmp_ge (tgt := 23) d_P_fails_10 rfl (fun c => (by first | exact absurd c (by decide) | exact absurd (by decide) c)) (fun _ => ?_)
  refine V2_aload_n (i := 0) d_P_fails_13 rfl rfl ?_
  refine V2_getr (a := 56) d_P_fails_14 fl_P_53 (by decide) rfl (by decide) rfl ?_
  refine V2_iload_n (i := 1) d_P_fails_17 rfl rfl ?_
  refine V2_dup2 d_P_fails_18 rfl rfl ?_
  refine V2_iaload (v := F 56 6) d_P_fails_19 (by decide) rfl (xixA (n := 6) rfl (by decide) (by decide)) rfl ?_
  refine V2_topi (fun v1 ev1 => ?_)
  refine V2_iconst (v := 1) d_P_fails_20 rfl ?_
  refine V2_iadd d_P_fails_21 ?_
  refine V2_topi (fun v2 ev2 => ?_)
  refine V2_iastore (j := 6) d_P_fails_22 (by decide) rfl (xixA (n := 6) rfl (by decide) (by decide)) rfl ?_
  refine V2_ldcw (v := -1000000000) d_P_fails_23 kc_P_346 ?_
  refine V2_iload_n (i := 1) d_P_fails_26 rfl rfl ?_
  refine V2_isub d_P_fails_27 ?_
  refine V2_topi (fun v3 ev3 => ?_)
  refine V2_ireturn d_P_fails_28 rfl ?_
  subst ev3 ev2 ev1
  exact xQi hQ rfl rfl
theorem c_R_error6 {L : Nat} {xs : Nat → Int32} {d : Nat} {Q : Option Value → xF → Prop} {F : xF}   (hQ : Q (some (.int (-1000000000 - 6))) (xp F 69 6 (F 69 6 + 1))) : V2 L xs d m_R_error 0 (xEntry [.ref 65, .int (6 : Int32)] 2) [] F Q := by
  refine V2.to (l' := [some (.ref 65), some (.int (6 : Int32))]) ?_ rfl rfl rfl rfl
  refine V2_aload_n (i := 0) d_R_error_0 rfl rfl ?_
  refine V2_getr (a := 69) d_R_error_1 fl_R_19 (by decide) rfl (by decide) rfl ?_
  refine V2_iload_n (i := 1) d_R_error_4 rfl rfl ?_
  refine V2_dup2 d_R_error_5 rfl rfl ?_
  refine V2_iaload (v := F 69 6) d_R_error_6 (by decide) rfl (xixA (n := 6) rfl (by decide) (by decide)) rfl ?_
  refine V2_topi (fun v1 ev1 => ?_)
  refine V2_iconst (v := 1) d_R_error_7 rfl ?_
  refine V2_iadd d_R_error_8 ?_
  refine V2_topi (fun v2 ev2 => ?_)
  refine V2_iastore (j := 6) d_R_error_9 (by decide) rfl (xixA (n := 6) rfl (by decide) (by decide)) rfl ?_
  refine V2_ldc (v := -1000000000) d_R_error_10 kc_R_50 ?_
  refine V2_iload_n (i := 1) d_R_error_12 rfl rfl ?_
  refine V2_isub d_R_error_13 ?_
  refine V2_topi (fun v3 ev3 => ?_)
  refine V2_ireturn d_R_error_14 rfl ?_
  subst ev3 ev2 ev1
  exact xQi hQ rfl rfl
theorem c_cls_seed {L : Nat} {xs : Nat → Int32} {d : Nat} {Q : Option Value → xF → Prop} {F : xF} {v : Int32} (hR : Rel F) (hQ : ∀ F1, Mid F F1 (xp F 66 8 v) → Q (some (.int (F 66 8))) F1) : V2 L xs d m_P_seed 0 (xEntry [.ref 0, .int v] 3) [] F Q := by
  refine V2.to (l' := [some (.ref 0), some (.int v), none]) ?_ rfl rfl rfl rfl
  refine V2_aload_n (i := 0) d_P_seed_0 rfl rfl ?_
  refine V2_getr (a := 1) d_P_seed_1 fl_P_10 (by decide) rfl (by decide) rfl ?_
  refine V2_get (v := F 1 6) d_P_seed_4 fl_P_202 (by decide) rfl (by decide) rfl rfl ?_
  refine V2_topi (fun v1 ev1 => ?_)
  refine V2_istore_n (i := 2) (l' := [some (.ref 0), some (.int v), some (.int v1)]) d_P_seed_7 rfl (xst_i (Nat.le_of_ble_eq_true rfl) rfl rfl) ?_
  refine V2_aload_n (i := 0) d_P_seed_8 rfl rfl ?_
  refine V2_getr (a := 1) d_P_seed_9 fl_P_10 (by decide) rfl (by decide) rfl ?_
  refine V2_iload_n (i := 1) d_P_seed_12 rfl rfl ?_
  refine V2_put d_P_seed_13 fl_P_202 (by decide) rfl (by decide) rfl ?_
  refine V2_iload_n (i := 2) d_P_seed_16 rfl rfl ?_
  refine V2_ireturn d_P_seed_17 rfl ?_
  subst ev1
  refine xQi (hQ (xp F 1 6 v) ⟨fun a ha => ?_, ?_⟩) ?_ rfl
  · funext b; exact xp_ne (Or.inl (by omega))
  · refine relC_W hR.1 (relW_low hR.1.1 (fun j hj => ?_) (fun a h1 h2 => ?_) hR.1.1.1 rfl) (fun a h1 h2 => ?_) (fun a ha => ?_)
    · exact xp_ne (Or.inr (by omega))
    · funext b; exact xp_ne (Or.inl (by omega))
    · funext b; exact xp_ne (Or.inl (by omega))
    · funext b; exact xp_ne (Or.inl ha)
  · exact hR.1.1.2.2.2.2.2.2
theorem c_mod_seed {L : Nat} {xs : Nat → Int32} {d : Nat} {Q : Option Value → xF → Prop} {F : xF} {v : Int32} {F0 : xF} (hR : Rel F0) (hM : Mid F0 F (xp F0 66 8 v)) (hQ : ∀ F2, Rel F2 → Q (some (.int (F0 66 8))) F2) : V2 L xs (d + 1) m_R_seed 0 (xEntry [.ref 65, .int v] 2) [] F Q := by
  refine V2.to (l' := [some (.ref 65), some (.int v)]) ?_ rfl rfl rfl rfl
  refine V2_aload_n (i := 0) d_R_seed_0 rfl rfl ?_
  refine V2_bipush (v := 8) d_R_seed_1 rfl ?_
  refine V2_iload_n (i := 1) d_R_seed_3 rfl rfl ?_
  refine V2_callV [.int (8 : Int32), .int v] d_R_seed_4 rfl rfl lk_R_171 mo_R_change1 (by decide) rfl rfl rfl (Nat.le_of_ble_eq_true rfl) (Nat.le_of_ble_eq_true rfl) ?_
  refine V2.to (l' := [some (.ref 65), some (.int (8 : Int32)), some (.int v), none]) ?_ rfl rfl rfl rfl
  refine V2_aload_n (i := 0) d_R_change1_0 rfl rfl ?_
  refine V2_getr (a := 66) d_R_change1_1 fl_R_7 (by decide) rfl (by decide) rfl ?_
  refine V2_iload_n (i := 1) d_R_change1_4 rfl rfl ?_
  refine V2_iaload (v := F 66 8) d_R_change1_5 (by decide) rfl (xixA (n := 8) rfl (by decide) (by decide)) rfl ?_
  refine V2_topi (fun v1 ev1 => ?_)
  refine V2_istore_n (i := 3) (l' := [some (.ref 65), some (.int (8 : Int32)), some (.int v), some (.int v1)]) d_R_change1_6 rfl (xst_i (Nat.le_of_ble_eq_true rfl) rfl rfl) ?_
  refine V2_aload_n (i := 0) d_R_change1_7 rfl rfl ?_
  refine V2_getr (a := 66) d_R_change1_8 fl_R_7 (by decide) rfl (by decide) rfl ?_
  refine V2_iload_n (i := 1) d_R_change1_11 rfl rfl ?_
  refine V2_iload_n (i := 2) d_R_change1_12 rfl rfl ?_
  refine V2_iastore (j := 8) d_R_change1_13 (by decide) rfl (xixA (n := 8) rfl (by decide) (by decide)) rfl ?_
  refine V2_iload_n (i := 3) d_R_change1_14 rfl rfl ?_
  refine V2_ireturn d_R_change1_15 rfl ?_
  refine V2.to (st' := [.int v1]) ?_ rfl rfl rfl rfl
  refine V2_ireturn d_R_seed_7 rfl ?_
  subst ev1
  refine xQi (hQ (xp F 66 8 v) (rel_end hM (fun a ha => ?_) (fun a ha => ?_) (invM_S hR.2 (invS_low hR.2.1 (fun j hj => xp_ne (Or.inr (by omega))) hR.2.1.1 hR.2.1.2.1) (fun a ha => ?_)))) ?_ rfl
  · funext b; exact xp_ne (Or.inl (by omega))
  · funext b; unfold xp; rw [hM.1 a (by omega)]
  · funext b; exact xp_ne (Or.inl ha)
  · rw [hM.1 66 (by decide)]
