/-! the model's small methods (walked by wip/whole/c12.py) -/
theorem c_R_in {L : Nat} {xs : Nat → Int32} {d : Nat} {Q : Option Value → xF → Prop} {F : xF} {v lo hi : Int32}  (hQ : Q (some (.int (xb (lo ≤ v ∧ v ≤ hi)))) F) : V2 L xs d m_R_in 0 (xEntry [.int v, .int lo, .int hi] 3) [] F Q := by
  refine V2.to (l' := [some (.int v), some (.int lo), some (.int hi)]) ?_ rfl rfl rfl rfl
  refine V2_iload_n (i := 0) d_R_in_0 rfl rfl ?_
  refine V2_iload_n (i := 1) d_R_in_1 rfl rfl ?_
  refine V2_icmp_lt (tgt := 14) d_R_in_2 rfl (fun c1 => ?_) (fun c1 => ?_)
  · refine V2_iconst (v := 0) d_R_in_14 rfl ?_
    refine V2_zreturn d_R_in_15 rfl (by decide) ?_
    exact xQi hQ (by clear hQ; (try skip); (try simp only [xb_eq, xb_ne, Int32.lt_iff_toInt_lt, Int32.le_iff_toInt_le] at *); (try simp only [xb]); (repeat' split); all_goals first | rfl | omega | (exfalso; simp only [← Int32.toInt_inj] at *; omega)) rfl
  · refine V2_iload_n (i := 0) d_R_in_5 rfl rfl ?_
    refine V2_iload_n (i := 2) d_R_in_6 rfl rfl ?_
    refine V2_icmp_gt (tgt := 14) d_R_in_7 rfl (fun c2 => ?_) (fun c2 => ?_)
    · refine V2_iconst (v := 0) d_R_in_14 rfl ?_
      refine V2_zreturn d_R_in_15 rfl (by decide) ?_
      exact xQi hQ (by clear hQ; (try skip); (try simp only [xb_eq, xb_ne, Int32.lt_iff_toInt_lt, Int32.le_iff_toInt_le] at *); (try simp only [xb]); (repeat' split); all_goals first | rfl | omega | (exfalso; simp only [← Int32.toInt_inj] at *; omega)) rfl
    · refine V2_iconst (v := 1) d_R_in_10 rfl ?_
      refine V2_goto (tgt := 15) d_R_in_11 rfl ?_
      refine V2_zreturn d_R_in_15 rfl (by decide) ?_
      exact xQi hQ (by clear hQ; (try skip); (try simp only [xb_eq, xb_ne, Int32.lt_iff_toInt_lt, Int32.le_iff_toInt_le] at *); (try simp only [xb]); (repeat' split); all_goals first | rfl | omega | (exfalso; simp only [← Int32.toInt_inj] at *; omega)) rfl
def heldS (v lo hi : Int32) : Int32 := if v < lo then lo else if hi < v then hi else v
theorem c_R_held {L : Nat} {xs : Nat → Int32} {d : Nat} {Q : Option Value → xF → Prop} {F : xF} {v lo hi : Int32}  (hQ : Q (some (.int (heldS v lo hi))) F) : V2 L xs d m_R_held 0 (xEntry [.int v, .int lo, .int hi] 3) [] F Q := by
  refine V2.to (l' := [some (.int v), some (.int lo), some (.int hi)]) ?_ rfl rfl rfl rfl
  refine V2_iload_n (i := 0) d_R_held_0 rfl rfl ?_
  refine V2_iload_n (i := 1) d_R_held_1 rfl rfl ?_
  refine V2_icmp_ge (tgt := 9) d_R_held_2 rfl (fun c1 => ?_) (fun c1 => ?_)
  · refine V2_iload_n (i := 0) d_R_held_9 rfl rfl ?_
    refine V2_iload_n (i := 2) d_R_held_10 rfl rfl ?_
    refine V2_icmp_le (tgt := 18) d_R_held_11 rfl (fun c2 => ?_) (fun c2 => ?_)
    · refine V2_iload_n (i := 0) d_R_held_18 rfl rfl ?_
      refine V2_ireturn d_R_held_19 rfl ?_
      unfold heldS at hQ
      exact xQi hQ (by clear hQ; (try skip); (try simp only [xb_eq, xb_ne, Int32.lt_iff_toInt_lt, Int32.le_iff_toInt_le] at *); (try simp only [xb]); (repeat' split); all_goals first | rfl | omega | (exfalso; simp only [← Int32.toInt_inj] at *; omega)) rfl
    · refine V2_iload_n (i := 2) d_R_held_14 rfl rfl ?_
      refine V2_goto (tgt := 19) d_R_held_15 rfl ?_
      refine V2_ireturn d_R_held_19 rfl ?_
      unfold heldS at hQ
      exact xQi hQ (by clear hQ; (try skip); (try simp only [xb_eq, xb_ne, Int32.lt_iff_toInt_lt, Int32.le_iff_toInt_le] at *); (try simp only [xb]); (repeat' split); all_goals first | rfl | omega | (exfalso; simp only [← Int32.toInt_inj] at *; omega)) rfl
  · refine V2_iload_n (i := 1) d_R_held_5 rfl rfl ?_
    refine V2_goto (tgt := 19) d_R_held_6 rfl ?_
    refine V2_ireturn d_R_held_19 rfl ?_
    unfold heldS at hQ
    exact xQi hQ (by clear hQ; (try skip); (try simp only [xb_eq, xb_ne, Int32.lt_iff_toInt_lt, Int32.le_iff_toInt_le] at *); (try simp only [xb]); (repeat' split); all_goals first | rfl | omega | (exfalso; simp only [← Int32.toInt_inj] at *; omega)) rfl
theorem c_R_its0 {L : Nat} {xs : Nat → Int32} {d : Nat} {Q : Option Value → xF → Prop} {F : xF} {p : Nat} (hp : p < 6) (hQ : Q (some (.int (F 66 (12 + 2 * p)))) F) : V2 L xs d m_R_its 0 (xEntry [.ref 65, .int (nI p), .int (0 : Int32)] 3) [] F Q := by
  refine V2.to (l' := [some (.ref 65), some (.int (nI p)), some (.int (0 : Int32))]) ?_ rfl rfl rfl rfl
  refine V2_aload_n (i := 0) d_R_its_0 rfl rfl ?_
  refine V2_getr (a := 66) d_R_its_1 fl_R_7 (by decide) rfl (by decide) rfl ?_
  refine V2_bipush (v := 12) d_R_its_4 rfl ?_
  refine V2_iconst (v := 2) d_R_its_6 rfl ?_
  refine V2_iload_n (i := 1) d_R_its_7 rfl rfl ?_
  refine V2_imul d_R_its_8 ?_
  refine V2_topi (fun v1 ev1 => ?_)
  refine V2_iadd d_R_its_9 ?_
  refine V2_topi (fun v2 ev2 => ?_)
  refine V2_iload_n (i := 2) d_R_its_10 rfl rfl ?_
  refine V2_iadd d_R_its_11 ?_
  refine V2_topi (fun v3 ev3 => ?_)
  refine V2_ialoadJ (12 + 2 * p + 0) d_R_its_12 (by decide) rfl (xixA (n := 12 + 2 * p + 0) (by subst ev3 ev2 ev1; simp only [nI, Int32.ofNat_add, Int32.ofNat_mul]; rfl) (by omega) (by decide)) (xixB (n := 12 + 2 * p + 0) (by subst ev3 ev2 ev1; simp only [nI, Int32.ofNat_add, Int32.ofNat_mul]; rfl) (by omega)) rfl ?_
  refine V2_topi (fun v4 ev4 => ?_)
  refine V2_ireturn d_R_its_13 rfl ?_
  exact xQi hQ (by clear hQ; (try subst ev4 ev3 ev2 ev1); (try simp only [xb_eq, xb_ne, Int32.lt_iff_toInt_lt, Int32.le_iff_toInt_le] at *); (try simp only [xb]); (repeat' split); all_goals first | rfl | omega | (exfalso; simp only [← Int32.toInt_inj] at *; omega)) rfl
theorem c_R_its1 {L : Nat} {xs : Nat → Int32} {d : Nat} {Q : Option Value → xF → Prop} {F : xF} {p : Nat} (hp : p < 6) (hQ : Q (some (.int (F 66 (12 + 2 * p + 1)))) F) : V2 L xs d m_R_its 0 (xEntry [.ref 65, .int (nI p), .int (1 : Int32)] 3) [] F Q := by
  refine V2.to (l' := [some (.ref 65), some (.int (nI p)), some (.int (1 : Int32))]) ?_ rfl rfl rfl rfl
  refine V2_aload_n (i := 0) d_R_its_0 rfl rfl ?_
  refine V2_getr (a := 66) d_R_its_1 fl_R_7 (by decide) rfl (by decide) rfl ?_
  refine V2_bipush (v := 12) d_R_its_4 rfl ?_
  refine V2_iconst (v := 2) d_R_its_6 rfl ?_
  refine V2_iload_n (i := 1) d_R_its_7 rfl rfl ?_
  refine V2_imul d_R_its_8 ?_
  refine V2_topi (fun v1 ev1 => ?_)
  refine V2_iadd d_R_its_9 ?_
  refine V2_topi (fun v2 ev2 => ?_)
  refine V2_iload_n (i := 2) d_R_its_10 rfl rfl ?_
  refine V2_iadd d_R_its_11 ?_
  refine V2_topi (fun v3 ev3 => ?_)
  refine V2_ialoadJ (12 + 2 * p + 1) d_R_its_12 (by decide) rfl (xixA (n := 12 + 2 * p + 1) (by subst ev3 ev2 ev1; simp only [nI, Int32.ofNat_add, Int32.ofNat_mul]; rfl) (by omega) (by decide)) (xixB (n := 12 + 2 * p + 1) (by subst ev3 ev2 ev1; simp only [nI, Int32.ofNat_add, Int32.ofNat_mul]; rfl) (by omega)) rfl ?_
  refine V2_topi (fun v4 ev4 => ?_)
  refine V2_ireturn d_R_its_13 rfl ?_
  exact xQi hQ (by clear hQ; (try subst ev4 ev3 ev2 ev1); (try simp only [xb_eq, xb_ne, Int32.lt_iff_toInt_lt, Int32.le_iff_toInt_le] at *); (try simp only [xb]); (repeat' split); all_goals first | rfl | omega | (exfalso; simp only [← Int32.toInt_inj] at *; omega)) rfl
theorem c_R_lays0 {L : Nat} {xs : Nat → Int32} {d : Nat} {Q : Option Value → xF → Prop} {F : xF} {p : Nat} {v : Int32} (hp : p < 6) (hQ : Q none (xp F 66 (12 + 2 * p) v)) : V2 L xs d m_R_lays1 0 (xEntry [.ref 65, .int (nI p), .int (0 : Int32), .int v] 4) [] F Q := by
  refine V2.to (l' := [some (.ref 65), some (.int (nI p)), some (.int (0 : Int32)), some (.int v)]) ?_ rfl rfl rfl rfl
  refine V2_aload_n (i := 0) d_R_lays1_0 rfl rfl ?_
  refine V2_getr (a := 66) d_R_lays1_1 fl_R_7 (by decide) rfl (by decide) rfl ?_
  refine V2_bipush (v := 12) d_R_lays1_4 rfl ?_
  refine V2_iconst (v := 2) d_R_lays1_6 rfl ?_
  refine V2_iload_n (i := 1) d_R_lays1_7 rfl rfl ?_
  refine V2_imul d_R_lays1_8 ?_
  refine V2_topi (fun v1 ev1 => ?_)
  refine V2_iadd d_R_lays1_9 ?_
  refine V2_topi (fun v2 ev2 => ?_)
  refine V2_iload_n (i := 2) d_R_lays1_10 rfl rfl ?_
  refine V2_iadd d_R_lays1_11 ?_
  refine V2_topi (fun v3 ev3 => ?_)
  refine V2_iload_n (i := 3) d_R_lays1_12 rfl rfl ?_
  refine V2_iastore (j := (12 + 2 * p + 0)) d_R_lays1_13 (by decide) rfl (xixA (n := 12 + 2 * p + 0) (by subst ev3 ev2 ev1; simp only [nI, Int32.ofNat_add, Int32.ofNat_mul]; rfl) (by omega) (by decide)) (xixB (n := 12 + 2 * p + 0) (by subst ev3 ev2 ev1; simp only [nI, Int32.ofNat_add, Int32.ofNat_mul]; rfl) (by omega)) ?_
  refine V2_return d_R_lays1_14 rfl ?_
  exact xQv hQ rfl
theorem c_R_lays1 {L : Nat} {xs : Nat → Int32} {d : Nat} {Q : Option Value → xF → Prop} {F : xF} {p : Nat} {v : Int32} (hp : p < 6) (hQ : Q none (xp F 66 (12 + 2 * p + 1) v)) : V2 L xs d m_R_lays1 0 (xEntry [.ref 65, .int (nI p), .int (1 : Int32), .int v] 4) [] F Q := by
  refine V2.to (l' := [some (.ref 65), some (.int (nI p)), some (.int (1 : Int32)), some (.int v)]) ?_ rfl rfl rfl rfl
  refine V2_aload_n (i := 0) d_R_lays1_0 rfl rfl ?_
  refine V2_getr (a := 66) d_R_lays1_1 fl_R_7 (by decide) rfl (by decide) rfl ?_
  refine V2_bipush (v := 12) d_R_lays1_4 rfl ?_
  refine V2_iconst (v := 2) d_R_lays1_6 rfl ?_
  refine V2_iload_n (i := 1) d_R_lays1_7 rfl rfl ?_
  refine V2_imul d_R_lays1_8 ?_
  refine V2_topi (fun v1 ev1 => ?_)
  refine V2_iadd d_R_lays1_9 ?_
  refine V2_topi (fun v2 ev2 => ?_)
  refine V2_iload_n (i := 2) d_R_lays1_10 rfl rfl ?_
  refine V2_iadd d_R_lays1_11 ?_
  refine V2_topi (fun v3 ev3 => ?_)
  refine V2_iload_n (i := 3) d_R_lays1_12 rfl rfl ?_
  refine V2_iastore (j := (12 + 2 * p + 1)) d_R_lays1_13 (by decide) rfl (xixA (n := 12 + 2 * p + 1) (by subst ev3 ev2 ev1; simp only [nI, Int32.ofNat_add, Int32.ofNat_mul]; rfl) (by omega) (by decide)) (xixB (n := 12 + 2 * p + 1) (by subst ev3 ev2 ev1; simp only [nI, Int32.ofNat_add, Int32.ofNat_mul]; rfl) (by omega)) ?_
  refine V2_return d_R_lays1_14 rfl ?_
  exact xQv hQ rfl
theorem c_R_change1 {L : Nat} {xs : Nat → Int32} {d : Nat} {Q : Option Value → xF → Prop} {F : xF} {k : Nat} {v : Int32} (hk : k < 358) (hQ : Q (some (.int (F 66 k))) (xp F 66 k v)) : V2 L xs d m_R_change1 0 (xEntry [.ref 65, .int (nI k), .int v] 4) [] F Q := by
  refine V2.to (l' := [some (.ref 65), some (.int (nI k)), some (.int v), none]) ?_ rfl rfl rfl rfl
  refine V2_aload_n (i := 0) d_R_change1_0 rfl rfl ?_
  refine V2_getr (a := 66) d_R_change1_1 fl_R_7 (by decide) rfl (by decide) rfl ?_
  refine V2_iload_n (i := 1) d_R_change1_4 rfl rfl ?_
  refine V2_ialoadJ (k) d_R_change1_5 (by decide) rfl (xixA (n := k) rfl (by omega) (by decide)) (xixB (n := k) rfl (by omega)) rfl ?_
  refine V2_topi (fun v1 ev1 => ?_)
  refine V2_istore_n (i := 3) (l' := [some (.ref 65), some (.int (nI k)), some (.int v), some (.int v1)]) d_R_change1_6 rfl (xst_i (Nat.le_of_ble_eq_true rfl) rfl rfl) ?_
  refine V2_aload_n (i := 0) d_R_change1_7 rfl rfl ?_
  refine V2_getr (a := 66) d_R_change1_8 fl_R_7 (by decide) rfl (by decide) rfl ?_
  refine V2_iload_n (i := 1) d_R_change1_11 rfl rfl ?_
  refine V2_iload_n (i := 2) d_R_change1_12 rfl rfl ?_
  refine V2_iastore (j := (k)) d_R_change1_13 (by decide) rfl (xixA (n := k) rfl (by omega) (by decide)) (xixB (n := k) rfl (by omega)) ?_
  refine V2_iload_n (i := 3) d_R_change1_14 rfl rfl ?_
  refine V2_ireturn d_R_change1_15 rfl ?_
  exact xQi hQ (by clear hQ; (try subst ev1); (try simp only [xb_eq, xb_ne, Int32.lt_iff_toInt_lt, Int32.le_iff_toInt_le] at *); (try simp only [xb]); (repeat' split); all_goals first | rfl | omega | (exfalso; simp only [← Int32.toInt_inj] at *; omega)) rfl
theorem c_R_error {L : Nat} {xs : Nat → Int32} {d : Nat} {Q : Option Value → xF → Prop} {F : xF} {k : Nat} (hk : k < 7) (hQ : Q (some (.int (-1000000000 - nI k))) (xp F 69 k (F 69 k + 1))) : V2 L xs d m_R_error 0 (xEntry [.ref 65, .int (nI k)] 2) [] F Q := by
  refine V2.to (l' := [some (.ref 65), some (.int (nI k))]) ?_ rfl rfl rfl rfl
  refine V2_aload_n (i := 0) d_R_error_0 rfl rfl ?_
  refine V2_getr (a := 69) d_R_error_1 fl_R_19 (by decide) rfl (by decide) rfl ?_
  refine V2_iload_n (i := 1) d_R_error_4 rfl rfl ?_
  refine V2_dup2 d_R_error_5 rfl rfl ?_
  refine V2_ialoadJ (k) d_R_error_6 (by decide) rfl (xixA (n := k) rfl (by omega) (by decide)) (xixB (n := k) rfl (by omega)) rfl ?_
  refine V2_topi (fun v1 ev1 => ?_)
  refine V2_iconst (v := 1) d_R_error_7 rfl ?_
  refine V2_iadd d_R_error_8 ?_
  refine V2_topi (fun v2 ev2 => ?_)
  refine V2_iastore (j := (k)) d_R_error_9 (by decide) rfl (xixA (n := k) rfl (by omega) (by decide)) (xixB (n := k) rfl (by omega)) ?_
  refine V2_ldc (v := -1000000000) d_R_error_10 kc_R_50 ?_
  refine V2_iload_n (i := 1) d_R_error_12 rfl rfl ?_
  refine V2_isub d_R_error_13 ?_
  refine V2_topi (fun v3 ev3 => ?_)
  refine V2_ireturn d_R_error_14 rfl ?_
  subst ev3 ev2 ev1
  exact xQi hQ rfl rfl
theorem c_R_isOut {L : Nat} {xs : Nat → Int32} {d : Nat} {Q : Option Value → xF → Prop} {F : xF}   (hQ : Q (some (.int (xb (F 66 5 = 1)))) F) : V2 L xs d m_R_isOut 0 (xEntry [.ref 65] 1) [] F Q := by
  refine V2.to (l' := [some (.ref 65)]) ?_ rfl rfl rfl rfl
  refine V2_aload_n (i := 0) d_R_isOut_0 rfl rfl ?_
  refine V2_getr (a := 66) d_R_isOut_1 fl_R_7 (by decide) rfl (by decide) rfl ?_
  refine V2_iconst (v := 5) d_R_isOut_4 rfl ?_
  refine V2_iaload (v := F 66 5) d_R_isOut_5 (by decide) rfl (xixA (n := 5) rfl (by decide) (by decide)) rfl ?_
  refine V2_topi (fun v1 ev1 => ?_)
  refine V2_iconst (v := 1) d_R_isOut_6 rfl ?_
  refine V2_icmp_ne (tgt := 14) d_R_isOut_7 rfl (fun c2 => ?_) (fun c2 => ?_)
  · refine V2_iconst (v := 0) d_R_isOut_14 rfl ?_
    refine V2_zreturn d_R_isOut_15 rfl (by decide) ?_
    exact xQi hQ (by subst ev1; simp_all [xb]) rfl
  · refine V2_iconst (v := 1) d_R_isOut_10 rfl ?_
    refine V2_goto (tgt := 15) d_R_isOut_11 rfl ?_
    refine V2_zreturn d_R_isOut_15 rfl (by decide) ?_
    exact xQi hQ (by subst ev1; simp_all [xb]) rfl
theorem c_R_isPusher {L : Nat} {xs : Nat → Int32} {d : Nat} {Q : Option Value → xF → Prop} {F : xF} {p : Int32}  (hQ : Q (some (.int (xb (0 ≤ p ∧ p ≤ F 66 11 - 1)))) F) : V2 L xs (d + 1) m_R_isPusher 0 (xEntry [.ref 65, .int p] 2) [] F Q := by
  refine V2.to (l' := [some (.ref 65), some (.int p)]) ?_ rfl rfl rfl rfl
  refine V2_iload_n (i := 1) d_R_isPusher_0 rfl rfl ?_
  refine V2_iconst (v := 0) d_R_isPusher_1 rfl ?_
  refine V2_aload_n (i := 0) d_R_isPusher_2 rfl rfl ?_
  refine V2_getr (a := 66) d_R_isPusher_3 fl_R_7 (by decide) rfl (by decide) rfl ?_
  refine V2_bipush (v := 11) d_R_isPusher_6 rfl ?_
  refine V2_iaload (v := F 66 11) d_R_isPusher_8 (by decide) rfl (xixA (n := 11) rfl (by decide) (by decide)) rfl ?_
  refine V2_topi (fun v1 ev1 => ?_)
  refine V2_iconst (v := 1) d_R_isPusher_9 rfl ?_
  refine V2_isub d_R_isPusher_10 ?_
  refine V2_topi (fun v2 ev2 => ?_)
  refine V2_callS [.int p, .int (0 : Int32), .int v2] d_R_isPusher_11 rfl rfl lk_R_51 mo_R_in (Nat.le_of_ble_eq_true rfl) (Nat.le_of_ble_eq_true rfl) ?_
  refine c_R_in ?_
  refine V2_topi (fun v3 ev3 => ?_)
  refine V2_zreturn d_R_isPusher_14 rfl (by rw [ev3]; exact xb_01) ?_
  exact xQi hQ (by subst ev3 ev2 ev1; rfl) rfl
theorem c_R_hasText0 {L : Nat} {xs : Nat → Int32} {d : Nat} {Q : Option Value → xF → Prop} {F : xF}   (hQ : Q (some (.int (xb (0 < F 66 24)))) F) : V2 L xs d m_R_hasText 0 (xEntry [.ref 65, .int (0 : Int32)] 2) [] F Q := by
  refine V2.to (l' := [some (.ref 65), some (.int (0 : Int32))]) ?_ rfl rfl rfl rfl
  refine V2_aload_n (i := 0) d_R_hasText_0 rfl rfl ?_
  refine V2_getr (a := 66) d_R_hasText_1 fl_R_7 (by decide) rfl (by decide) rfl ?_
  refine V2_bipush (v := 24) d_R_hasText_4 rfl ?_
  refine V2_bipush (v := 125) d_R_hasText_6 rfl ?_
  refine V2_iload_n (i := 1) d_R_hasText_8 rfl rfl ?_
  refine V2_imul d_R_hasText_9 ?_
  refine V2_topi (fun v1 ev1 => ?_)
  refine V2_iadd d_R_hasText_10 ?_
  refine V2_topi (fun v2 ev2 => ?_)
  refine V2_ialoadJ (24 + 125 * 0) d_R_hasText_11 (by decide) rfl (xixA (n := 24 + 125 * 0) (by subst ev2 ev1; simp only [nI, Int32.ofNat_add, Int32.ofNat_mul]; rfl) (by omega) (by decide)) (xixB (n := 24 + 125 * 0) (by subst ev2 ev1; simp only [nI, Int32.ofNat_add, Int32.ofNat_mul]; rfl) (by omega)) rfl ?_
  refine V2_topi (fun v3 ev3 => ?_)
  refine V2_if_le (tgt := 19) d_R_hasText_12 rfl (fun c4 => ?_) (fun c4 => ?_)
  · refine V2_iconst (v := 0) d_R_hasText_19 rfl ?_
    refine V2_zreturn d_R_hasText_20 rfl (by decide) ?_
    exact xQi hQ (by subst ev3 ev2 ev1; simp_all [xb]) rfl
  · refine V2_iconst (v := 1) d_R_hasText_15 rfl ?_
    refine V2_goto (tgt := 20) d_R_hasText_16 rfl ?_
    refine V2_zreturn d_R_hasText_20 rfl (by decide) ?_
    exact xQi hQ (by subst ev3 ev2 ev1; simp_all [xb]) rfl
theorem c_R_hasText1 {L : Nat} {xs : Nat → Int32} {d : Nat} {Q : Option Value → xF → Prop} {F : xF}   (hQ : Q (some (.int (xb (0 < F 66 149)))) F) : V2 L xs d m_R_hasText 0 (xEntry [.ref 65, .int (1 : Int32)] 2) [] F Q := by
  refine V2.to (l' := [some (.ref 65), some (.int (1 : Int32))]) ?_ rfl rfl rfl rfl
  refine V2_aload_n (i := 0) d_R_hasText_0 rfl rfl ?_
  refine V2_getr (a := 66) d_R_hasText_1 fl_R_7 (by decide) rfl (by decide) rfl ?_
  refine V2_bipush (v := 24) d_R_hasText_4 rfl ?_
  refine V2_bipush (v := 125) d_R_hasText_6 rfl ?_
  refine V2_iload_n (i := 1) d_R_hasText_8 rfl rfl ?_
  refine V2_imul d_R_hasText_9 ?_
  refine V2_topi (fun v1 ev1 => ?_)
  refine V2_iadd d_R_hasText_10 ?_
  refine V2_topi (fun v2 ev2 => ?_)
  refine V2_ialoadJ (24 + 125 * 1) d_R_hasText_11 (by decide) rfl (xixA (n := 24 + 125 * 1) (by subst ev2 ev1; simp only [nI, Int32.ofNat_add, Int32.ofNat_mul]; rfl) (by omega) (by decide)) (xixB (n := 24 + 125 * 1) (by subst ev2 ev1; simp only [nI, Int32.ofNat_add, Int32.ofNat_mul]; rfl) (by omega)) rfl ?_
  refine V2_topi (fun v3 ev3 => ?_)
  refine V2_if_le (tgt := 19) d_R_hasText_12 rfl (fun c4 => ?_) (fun c4 => ?_)
  · refine V2_iconst (v := 0) d_R_hasText_19 rfl ?_
    refine V2_zreturn d_R_hasText_20 rfl (by decide) ?_
    exact xQi hQ (by subst ev3 ev2 ev1; simp_all [xb]) rfl
  · refine V2_iconst (v := 1) d_R_hasText_15 rfl ?_
    refine V2_goto (tgt := 20) d_R_hasText_16 rfl ?_
    refine V2_zreturn d_R_hasText_20 rfl (by decide) ?_
    exact xQi hQ (by subst ev3 ev2 ev1; simp_all [xb]) rfl
theorem c_R_isKind {L : Nat} {xs : Nat → Int32} {d : Nat} {Q : Option Value → xF → Prop} {F : xF} {v : Int32}  (hQ : Q (some (.int (xb (0 ≤ v ∧ v ≤ 69)))) F) : V2 L xs (d + 1) m_R_isKind 0 (xEntry [.int v] 1) [] F Q := by
  refine V2.to (l' := [some (.int v)]) ?_ rfl rfl rfl rfl
  refine V2_iload_n (i := 0) d_R_isKind_0 rfl rfl ?_
  refine V2_iconst (v := 0) d_R_isKind_1 rfl ?_
  refine V2_bipush (v := 69) d_R_isKind_2 rfl ?_
  refine V2_callS [.int v, .int (0 : Int32), .int (69 : Int32)] d_R_isKind_4 rfl rfl lk_R_51 mo_R_in (Nat.le_of_ble_eq_true rfl) (Nat.le_of_ble_eq_true rfl) ?_
  refine c_R_in ?_
  refine V2_topi (fun v1 ev1 => ?_)
  refine V2_zreturn d_R_isKind_7 rfl (by rw [ev1]; exact xb_01) ?_
  exact xQi hQ (by subst ev1; rfl) rfl
theorem c_R_isGas {L : Nat} {xs : Nat → Int32} {d : Nat} {Q : Option Value → xF → Prop} {F : xF} {v : Int32}  (hQ : Q (some (.int (xb (0 ≤ v ∧ v ≤ 9)))) F) : V2 L xs (d + 1) m_R_isGas 0 (xEntry [.int v] 1) [] F Q := by
  refine V2.to (l' := [some (.int v)]) ?_ rfl rfl rfl rfl
  refine V2_iload_n (i := 0) d_R_isGas_0 rfl rfl ?_
  refine V2_iconst (v := 0) d_R_isGas_1 rfl ?_
  refine V2_bipush (v := 9) d_R_isGas_2 rfl ?_
  refine V2_callS [.int v, .int (0 : Int32), .int (9 : Int32)] d_R_isGas_4 rfl rfl lk_R_51 mo_R_in (Nat.le_of_ble_eq_true rfl) (Nat.le_of_ble_eq_true rfl) ?_
  refine c_R_in ?_
  refine V2_topi (fun v1 ev1 => ?_)
  refine V2_zreturn d_R_isGas_7 rfl (by rw [ev1]; exact xb_01) ?_
  exact xQi hQ (by subst ev1; rfl) rfl
theorem c_R_isTime {L : Nat} {xs : Nat → Int32} {d : Nat} {Q : Option Value → xF → Prop} {F : xF} {v : Int32}  (hQ : Q (some (.int (xb (1 ≤ v ∧ v ≤ 60)))) F) : V2 L xs (d + 1) m_R_isTime 0 (xEntry [.int v] 1) [] F Q := by
  refine V2.to (l' := [some (.int v)]) ?_ rfl rfl rfl rfl
  refine V2_iload_n (i := 0) d_R_isTime_0 rfl rfl ?_
  refine V2_iconst (v := 1) d_R_isTime_1 rfl ?_
  refine V2_bipush (v := 60) d_R_isTime_2 rfl ?_
  refine V2_callS [.int v, .int (1 : Int32), .int (60 : Int32)] d_R_isTime_4 rfl rfl lk_R_51 mo_R_in (Nat.le_of_ble_eq_true rfl) (Nat.le_of_ble_eq_true rfl) ?_
  refine c_R_in ?_
  refine V2_topi (fun v1 ev1 => ?_)
  refine V2_zreturn d_R_isTime_7 rfl (by rw [ev1]; exact xb_01) ?_
  exact xQi hQ (by subst ev1; rfl) rfl
theorem c_R_isSheet {L : Nat} {xs : Nat → Int32} {d : Nat} {Q : Option Value → xF → Prop} {F : xF} {v : Int32}  (hQ : Q (some (.int (xb (0 ≤ v ∧ v ≤ 3)))) F) : V2 L xs (d + 1) m_R_isSheet 0 (xEntry [.int v] 1) [] F Q := by
  refine V2.to (l' := [some (.int v)]) ?_ rfl rfl rfl rfl
  refine V2_iload_n (i := 0) d_R_isSheet_0 rfl rfl ?_
  refine V2_iconst (v := 0) d_R_isSheet_1 rfl ?_
  refine V2_iconst (v := 3) d_R_isSheet_2 rfl ?_
  refine V2_callS [.int v, .int (0 : Int32), .int (3 : Int32)] d_R_isSheet_3 rfl rfl lk_R_51 mo_R_in (Nat.le_of_ble_eq_true rfl) (Nat.le_of_ble_eq_true rfl) ?_
  refine c_R_in ?_
  refine V2_topi (fun v1 ev1 => ?_)
  refine V2_zreturn d_R_isSheet_6 rfl (by rw [ev1]; exact xb_01) ?_
  exact xQi hQ (by subst ev1; rfl) rfl
theorem c_R_above {L : Nat} {xs : Nat → Int32} {d : Nat} {Q : Option Value → xF → Prop} {F : xF} {v : Int32}  (hQ : Q (some (.int (if v = 4 then 1 else if v = 5 then 2 else 0))) F) : V2 L xs d m_R_above 0 (xEntry [.int v] 1) [] F Q := by
  refine V2.to (l' := [some (.int v)]) ?_ rfl rfl rfl rfl
  refine V2_iload_n (i := 0) d_R_above_0 rfl rfl ?_
  refine V2_iconst (v := 4) d_R_above_1 rfl ?_
  refine V2_icmp_ne (tgt := 9) d_R_above_2 rfl (fun c1 => ?_) (fun c1 => ?_)
  · refine V2_iload_n (i := 0) d_R_above_9 rfl rfl ?_
    refine V2_iconst (v := 5) d_R_above_10 rfl ?_
    refine V2_icmp_ne (tgt := 18) d_R_above_11 rfl (fun c2 => ?_) (fun c2 => ?_)
    · refine V2_iconst (v := 0) d_R_above_18 rfl ?_
      refine V2_ireturn d_R_above_19 rfl ?_
      exact xQi hQ (by skip; simp_all) rfl
    · refine V2_iconst (v := 2) d_R_above_14 rfl ?_
      refine V2_goto (tgt := 19) d_R_above_15 rfl ?_
      refine V2_ireturn d_R_above_19 rfl ?_
      exact xQi hQ (by skip; simp_all) rfl
  · refine V2_iconst (v := 1) d_R_above_5 rfl ?_
    refine V2_goto (tgt := 19) d_R_above_6 rfl ?_
    refine V2_ireturn d_R_above_19 rfl ?_
    exact xQi hQ (by skip; simp_all) rfl
theorem c_R_draw {L : Nat} {xs : Nat → Int32} {d : Nat} {Q : Option Value → xF → Prop} {F : xF}   (hQ : Q (some (.int (((F 66 8 * 1103515245 + 12345).toUInt32 >>> 8).toInt32))) (xp F 66 8 (F 66 8 * 1103515245 + 12345))) : V2 L xs d m_R_draw 0 (xEntry [.ref 65] 1) [] F Q := by
  refine V2.to (l' := [some (.ref 65)]) ?_ rfl rfl rfl rfl
  refine V2_aload_n (i := 0) d_R_draw_0 rfl rfl ?_
  refine V2_getr (a := 66) d_R_draw_1 fl_R_7 (by decide) rfl (by decide) rfl ?_
  refine V2_bipush (v := 8) d_R_draw_4 rfl ?_
  refine V2_aload_n (i := 0) d_R_draw_6 rfl rfl ?_
  refine V2_getr (a := 66) d_R_draw_7 fl_R_7 (by decide) rfl (by decide) rfl ?_
  refine V2_bipush (v := 8) d_R_draw_10 rfl ?_
  refine V2_iaload (v := F 66 8) d_R_draw_12 (by decide) rfl (xixA (n := 8) rfl (by decide) (by decide)) rfl ?_
  refine V2_topi (fun v1 ev1 => ?_)
  refine V2_ldc (v := 1103515245) d_R_draw_13 kc_R_148 ?_
  refine V2_imul d_R_draw_15 ?_
  refine V2_topi (fun v2 ev2 => ?_)
  refine V2_sipush (v := 12345) d_R_draw_16 rfl ?_
  refine V2_iadd d_R_draw_19 ?_
  refine V2_topi (fun v3 ev3 => ?_)
  refine V2_iastore (j := 8) d_R_draw_20 (by decide) rfl (xixA (n := 8) rfl (by decide) (by decide)) rfl ?_
  refine V2_aload_n (i := 0) d_R_draw_21 rfl rfl ?_
  refine V2_getr (a := 66) d_R_draw_22 fl_R_7 (by decide) rfl (by decide) rfl ?_
  refine V2_bipush (v := 8) d_R_draw_25 rfl ?_
  refine V2_iaload (v := v3) d_R_draw_27 (by decide) rfl (xixA (n := 8) rfl (by decide) (by decide)) rfl ?_
  refine V2_bipush (v := 8) d_R_draw_28 rfl ?_
  refine V2_iushr d_R_draw_30 ?_
  refine V2_topi (fun v4 ev4 => ?_)
  refine V2_ireturn d_R_draw_31 rfl ?_
  subst ev4 ev3 ev2 ev1
  exact xQi hQ (by first | rfl | trace_state) rfl
theorem c_R_kindNow {L : Nat} {xs : Nat → Int32} {d : Nat} {Q : Option Value → xF → Prop} {F : xF} {p : Nat} (hp : p < 6) (hs : F 65 17 = nI p) (hQ : Q (some (.int (F 66 (12 + 2 * p)))) F) : V2 L xs (d + 1) m_R_kindNow 0 (xEntry [.ref 65] 1) [] F Q := by
  refine V2.to (l' := [some (.ref 65)]) ?_ rfl rfl rfl rfl
  refine V2_aload_n (i := 0) d_R_kindNow_0 rfl rfl ?_
  refine V2_aload_n (i := 0) d_R_kindNow_1 rfl rfl ?_
  refine V2_get (v := F 65 17) d_R_kindNow_2 fl_R_230 (by decide) rfl (by decide) rfl rfl ?_
  refine V2_topi (fun v1 ev1 => ?_)
  refine V2_iconst (v := 0) d_R_kindNow_5 rfl ?_
  refine V2_callV [.int v1, .int (0 : Int32)] d_R_kindNow_6 rfl rfl lk_R_114 mo_R_its (by decide) rfl rfl rfl (Nat.le_of_ble_eq_true rfl) (Nat.le_of_ble_eq_true rfl) ?_
  subst ev1
  rw [hs]
  refine c_R_its0 hp ?_
  refine V2_topi (fun v2 ev2 => ?_)
  refine V2_ireturn d_R_kindNow_9 rfl ?_
  exact xQi hQ (by clear hQ; (try subst ev2 ev1); (try simp only [xb_eq, xb_ne, Int32.lt_iff_toInt_lt, Int32.le_iff_toInt_le] at *); (try simp only [xb]); (repeat' split); all_goals first | rfl | omega | (exfalso; simp only [← Int32.toInt_inj] at *; omega)) rfl
