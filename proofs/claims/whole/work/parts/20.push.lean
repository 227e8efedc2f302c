/-! what pushes and weighs, as pure words; both sides' methods say just that -/
def pushK (k m side height swing : Int32) : Int32 :=
  if k = 1 then (if side = 0 then m + 2 else 0)
  else if k = 2 then (if side = 0 then (if swing % 2 = 0 then m else 0) else 0)
  else if k = 3 then (if side = 0 then 0 else m)
  else if k = 4 then (if side = 0 then m + 2 else 0) + height / 8
  else if k = 5 then (if (if side = 0 then (if swing % 2 = 0 then m else 0) else 0) - swing / 8 < 0 then 0 else (if side = 0 then (if swing % 2 = 0 then m else 0) else 0) - swing / 8)
  else if k = 6 then 0
  else (if side = 0 then m else 0)
def pushS (S : Nat → Int32) (p : Nat) : Int32 := pushK (S (12 + 2 * p)) (S (12 + 2 * p + 1)) (S 3) (S 2) (S 7)
def weightS (S : Nat → Int32) (p : Nat) : Int32 := if S (12 + 2 * p) = 6 then S (12 + 2 * p + 1) else 0
def sumTo (f : Nat → Int32) : Nat → Int32
  | 0 => 0
  | n + 1 => sumTo f n + f n
def inSet (set : Int32) (p : Nat) : Prop := (set >>> (nI p &&& 31)) &&& 1 = 1
theorem sumTo_congr {f g : Nat → Int32} {n : Nat} (h : ∀ p, p < n → f p = g p) : sumTo f n = sumTo g n := by
  induction n with
  | zero => rfl
  | succ n ih =>
    show sumTo f n + f n = sumTo g n + g n
    rw [ih (fun p hp => h p (by omega)), h n (by omega)]
theorem inSet_dec (set : Int32) (p : Nat) : inSet set p ∨ ¬ inSet set p := Classical.em _
noncomputable def pushSum (S : Nat → Int32) (set : Int32) (P : Nat) : Int32 := sumTo (fun p => @ite _ (inSet set p) (Classical.propDecidable _) (pushS S p) 0) P
noncomputable def weightSum (S : Nat → Int32) (set : Int32) (P : Nat) : Int32 := sumTo (fun p => @ite _ (inSet set p) (Classical.propDecidable _) (weightS S p) 0) P
theorem sum_in {set : Int32} {f : Nat → Int32} {p : Nat} (h : inSet set p) : sumTo (fun p => @ite _ (inSet set p) (Classical.propDecidable _) (f p) 0) (p + 1) = sumTo (fun p => @ite _ (inSet set p) (Classical.propDecidable _) (f p) 0) p + f p := by
  show _ + @ite _ (inSet set p) (Classical.propDecidable _) (f p) 0 = _
  rw [if_pos h]
theorem sum_out {set : Int32} {f : Nat → Int32} {p : Nat} (h : ¬ inSet set p) : sumTo (fun p => @ite _ (inSet set p) (Classical.propDecidable _) (f p) 0) (p + 1) = sumTo (fun p => @ite _ (inSet set p) (Classical.propDecidable _) (f p) 0) p + 0 := by
  show _ + @ite _ (inSet set p) (Classical.propDecidable _) (f p) 0 = _
  rw [if_neg h]
theorem c_R_pushOf {L : Nat} {xs : Nat → Int32} {d : Nat} {Q : Option Value → xF → Prop} {F : xF} {p : Nat} (hp : p < 6) (hQ : Q (some (.int (pushS (F 66) p))) F) : V2 L xs (d + 1) m_R_pushOf 0 (xEntry [.ref 65, .int (nI p)] 6) [] F Q := by
  refine V2.to (l' := [some (.ref 65), some (.int (nI p)), none, none, none, none]) ?_ rfl rfl rfl rfl
  refine V2_aload_n (i := 0) d_R_pushOf_0 rfl rfl ?_
  refine V2_iload_n (i := 1) d_R_pushOf_1 rfl rfl ?_
  refine V2_iconst (v := 1) d_R_pushOf_2 rfl ?_
  refine V2_callV [.int (nI p), .int (1 : Int32)] d_R_pushOf_3 rfl rfl lk_R_114 mo_R_its (by decide) rfl rfl rfl (Nat.le_of_ble_eq_true rfl) (Nat.le_of_ble_eq_true rfl) ?_
  refine c_R_its1 (by omega) ?_
  refine V2_topi (fun v1 ev1 => ?_)
  refine V2_istore_n (i := 2) (l' := [some (.ref 65), some (.int (nI p)), some (.int v1), none, none, none]) d_R_pushOf_6 rfl (xst_i (Nat.le_of_ble_eq_true rfl) rfl rfl) ?_
  refine V2_aload_n (i := 0) d_R_pushOf_7 rfl rfl ?_
  refine V2_getr (a := 66) d_R_pushOf_8 fl_R_7 (by decide) rfl (by decide) rfl ?_
  refine V2_iconst (v := 3) d_R_pushOf_11 rfl ?_
  refine V2_iaload (v := F 66 3) d_R_pushOf_12 (by decide) rfl (xixA (n := 3) rfl (by decide) (by decide)) rfl ?_
  refine V2_topi (fun v2 ev2 => ?_)
  refine V2_if_ne (tgt := 20) d_R_pushOf_13 rfl (fun c3 => ?_) (fun c3 => ?_)
  · refine V2_iconst (v := 0) d_R_pushOf_20 rfl ?_
    refine V2_istore_n (i := 3) (l' := [some (.ref 65), some (.int (nI p)), some (.int v1), some (.int (0 : Int32)), none, none]) d_R_pushOf_21 rfl (xst_i (Nat.le_of_ble_eq_true rfl) rfl rfl) ?_
    refine V2_iload_n (i := 3) d_R_pushOf_22 rfl rfl ?_
    refine V2_if_eq (tgt := 42) d_R_pushOf_23 rfl (fun _ => ?_) (fun c => (by first | exact absurd c (by decide) | exact absurd (by decide) c))
    refine V2_iconst (v := 0) d_R_pushOf_42 rfl ?_
    refine V2_istore (i := 4) (l' := [some (.ref 65), some (.int (nI p)), some (.int v1), some (.int (0 : Int32)), some (.int (0 : Int32)), none]) d_R_pushOf_43 (xst_i (Nat.le_of_ble_eq_true rfl) rfl rfl) ?_
    refine V2_iload (i := 4) d_R_pushOf_45 rfl ?_
    refine V2_aload_n (i := 0) d_R_pushOf_47 rfl rfl ?_
    refine V2_getr (a := 66) d_R_pushOf_48 fl_R_7 (by decide) rfl (by decide) rfl ?_
    refine V2_bipush (v := 7) d_R_pushOf_51 rfl ?_
    refine V2_iaload (v := F 66 7) d_R_pushOf_53 (by decide) rfl (xixA (n := 7) rfl (by decide) (by decide)) rfl ?_
    refine V2_topi (fun v4 ev4 => ?_)
    refine V2_bipush (v := 8) d_R_pushOf_54 rfl ?_
    refine V2_idiv d_R_pushOf_56 (by decide) ?_
    refine V2_topi (fun v5 ev5 => ?_)
    refine V2_isub d_R_pushOf_57 ?_
    refine V2_topi (fun v6 ev6 => ?_)
    refine V2_istore (i := 5) (l' := [some (.ref 65), some (.int (nI p)), some (.int v1), some (.int (0 : Int32)), some (.int (0 : Int32)), some (.int v6)]) d_R_pushOf_58 (xst_i (Nat.le_of_ble_eq_true rfl) rfl rfl) ?_
    refine V2_aload_n (i := 0) d_R_pushOf_60 rfl rfl ?_
    refine V2_iload_n (i := 1) d_R_pushOf_61 rfl rfl ?_
    refine V2_iconst (v := 0) d_R_pushOf_62 rfl ?_
    refine V2_callV [.int (nI p), .int (0 : Int32)] d_R_pushOf_63 rfl rfl lk_R_114 mo_R_its (by decide) rfl rfl rfl (Nat.le_of_ble_eq_true rfl) (Nat.le_of_ble_eq_true rfl) ?_
    refine c_R_its0 (by omega) ?_
    refine V2_topi (fun v7 ev7 => ?_)
    by_cases c8_1 : v7 = 1
    · refine V2_tableIn (tgt := 104) (off := 38) d_R_pushOf_66 (by rw [c8_1]; decide) (by rw [c8_1]; decide) (by rw [c8_1]; decide) rfl ?_
      refine V2_iload_n (i := 3) d_R_pushOf_104 rfl rfl ?_
      refine V2_if_eq (tgt := 114) d_R_pushOf_105 rfl (fun _ => ?_) (fun c => (by first | exact absurd c (by decide) | exact absurd (by decide) c))
      refine V2_iconst (v := 0) d_R_pushOf_114 rfl ?_
      refine V2_ireturn d_R_pushOf_115 rfl ?_
      exact xQi hQ (by subst ev7 ev6 ev5 ev4 ev2 ev1; first | (simp_all [pushS, pushK, weightS]; done) | (simp_all [pushS, pushK, weightS]; intro hh; exact absurd hh (Int32.not_lt.mpr (by assumption)))) rfl
    by_cases c8_2 : v7 = 2
    · refine V2_tableIn (tgt := 116) (off := 50) d_R_pushOf_66 (by rw [c8_2]; decide) (by rw [c8_2]; decide) (by rw [c8_2]; decide) rfl ?_
      refine V2_iload (i := 4) d_R_pushOf_116 rfl ?_
      refine V2_ireturn d_R_pushOf_118 rfl ?_
      exact xQi hQ (by subst ev7 ev6 ev5 ev4 ev2 ev1; first | (simp_all [pushS, pushK, weightS]; done) | (simp_all [pushS, pushK, weightS]; intro hh; exact absurd hh (Int32.not_lt.mpr (by assumption)))) rfl
    by_cases c8_3 : v7 = 3
    · refine V2_tableIn (tgt := 119) (off := 53) d_R_pushOf_66 (by rw [c8_3]; decide) (by rw [c8_3]; decide) (by rw [c8_3]; decide) rfl ?_
      refine V2_iload_n (i := 3) d_R_pushOf_119 rfl rfl ?_
      refine V2_if_eq (tgt := 127) d_R_pushOf_120 rfl (fun _ => ?_) (fun c => (by first | exact absurd c (by decide) | exact absurd (by decide) c))
      refine V2_iload_n (i := 2) d_R_pushOf_127 rfl rfl ?_
      refine V2_ireturn d_R_pushOf_128 rfl ?_
      exact xQi hQ (by subst ev7 ev6 ev5 ev4 ev2 ev1; first | (simp_all [pushS, pushK, weightS]; done) | (simp_all [pushS, pushK, weightS]; intro hh; exact absurd hh (Int32.not_lt.mpr (by assumption)))) rfl
    by_cases c8_4 : v7 = 4
    · refine V2_tableIn (tgt := 129) (off := 63) d_R_pushOf_66 (by rw [c8_4]; decide) (by rw [c8_4]; decide) (by rw [c8_4]; decide) rfl ?_
      refine V2_iload_n (i := 3) d_R_pushOf_129 rfl rfl ?_
      refine V2_if_eq (tgt := 139) d_R_pushOf_130 rfl (fun _ => ?_) (fun c => (by first | exact absurd c (by decide) | exact absurd (by decide) c))
      refine V2_iconst (v := 0) d_R_pushOf_139 rfl ?_
      refine V2_aload_n (i := 0) d_R_pushOf_140 rfl rfl ?_
      refine V2_getr (a := 66) d_R_pushOf_141 fl_R_7 (by decide) rfl (by decide) rfl ?_
      refine V2_iconst (v := 2) d_R_pushOf_144 rfl ?_
      refine V2_iaload (v := F 66 2) d_R_pushOf_145 (by decide) rfl (xixA (n := 2) rfl (by decide) (by decide)) rfl ?_
      refine V2_topi (fun v9 ev9 => ?_)
      refine V2_bipush (v := 8) d_R_pushOf_146 rfl ?_
      refine V2_idiv d_R_pushOf_148 (by decide) ?_
      refine V2_topi (fun v10 ev10 => ?_)
      refine V2_iadd d_R_pushOf_149 ?_
      refine V2_topi (fun v11 ev11 => ?_)
      refine V2_ireturn d_R_pushOf_150 rfl ?_
      exact xQi hQ (by subst ev11 ev10 ev9 ev7 ev6 ev5 ev4 ev2 ev1; first | (simp_all [pushS, pushK, weightS]; done) | (simp_all [pushS, pushK, weightS]; intro hh; exact absurd hh (Int32.not_lt.mpr (by assumption)))) rfl
    by_cases c8_5 : v7 = 5
    · refine V2_tableIn (tgt := 151) (off := 85) d_R_pushOf_66 (by rw [c8_5]; decide) (by rw [c8_5]; decide) (by rw [c8_5]; decide) rfl ?_
      refine V2_iload (i := 5) d_R_pushOf_151 rfl ?_
      refine V2_if_ge (tgt := 160) d_R_pushOf_153 rfl (fun c12 => ?_) (fun c12 => ?_)
      · refine V2_iload (i := 5) d_R_pushOf_160 rfl ?_
        refine V2_ireturn d_R_pushOf_162 rfl ?_
        exact xQi hQ (by subst ev7 ev6 ev5 ev4 ev2 ev1; first | (simp_all [pushS, pushK, weightS]; done) | (simp_all [pushS, pushK, weightS]; intro hh; exact absurd hh (Int32.not_lt.mpr (by assumption)))) rfl
      · refine V2_iconst (v := 0) d_R_pushOf_156 rfl ?_
        refine V2_goto (tgt := 162) d_R_pushOf_157 rfl ?_
        refine V2_ireturn d_R_pushOf_162 rfl ?_
        exact xQi hQ (by subst ev7 ev6 ev5 ev4 ev2 ev1; first | (simp_all [pushS, pushK, weightS]; done) | (simp_all [pushS, pushK, weightS]; intro hh; exact absurd hh (Int32.not_lt.mpr (by assumption)))) rfl
    by_cases c8_6 : v7 = 6
    · refine V2_tableIn (tgt := 163) (off := 97) d_R_pushOf_66 (by rw [c8_6]; decide) (by rw [c8_6]; decide) (by rw [c8_6]; decide) rfl ?_
      refine V2_iconst (v := 0) d_R_pushOf_163 rfl ?_
      refine V2_ireturn d_R_pushOf_164 rfl ?_
      exact xQi hQ (by subst ev7 ev6 ev5 ev4 ev2 ev1; first | (simp_all [pushS, pushK, weightS]; done) | (simp_all [pushS, pushK, weightS]; intro hh; exact absurd hh (Int32.not_lt.mpr (by assumption)))) rfl
    refine V2_tableOut (tgt := 165) d_R_pushOf_66 (by have := lv_neT (a := 1) c8_1 rfl; have := lv_neT (a := 2) c8_2 rfl; have := lv_neT (a := 3) c8_3 rfl; have := lv_neT (a := 4) c8_4 rfl; have := lv_neT (a := 5) c8_5 rfl; have := lv_neT (a := 6) c8_6 rfl; omega) rfl ?_
    refine V2_iload_n (i := 3) d_R_pushOf_165 rfl rfl ?_
    refine V2_if_eq (tgt := 173) d_R_pushOf_166 rfl (fun _ => ?_) (fun c => (by first | exact absurd c (by decide) | exact absurd (by decide) c))
    refine V2_iconst (v := 0) d_R_pushOf_173 rfl ?_
    refine V2_ireturn d_R_pushOf_174 rfl ?_
    exact xQi hQ (by subst ev7 ev6 ev5 ev4 ev2 ev1; first | (simp_all [pushS, pushK, weightS]; done) | (simp_all [pushS, pushK, weightS]; intro hh; exact absurd hh (Int32.not_lt.mpr (by assumption)))) rfl
  · refine V2_iconst (v := 1) d_R_pushOf_16 rfl ?_
    refine V2_goto (tgt := 21) d_R_pushOf_17 rfl ?_
    refine V2_istore_n (i := 3) (l' := [some (.ref 65), some (.int (nI p)), some (.int v1), some (.int (1 : Int32)), none, none]) d_R_pushOf_21 rfl (xst_i (Nat.le_of_ble_eq_true rfl) rfl rfl) ?_
    refine V2_iload_n (i := 3) d_R_pushOf_22 rfl rfl ?_
    refine V2_if_eq (tgt := 42) d_R_pushOf_23 rfl (fun c => (by first | exact absurd c (by decide) | exact absurd (by decide) c)) (fun _ => ?_)
    refine V2_aload_n (i := 0) d_R_pushOf_26 rfl rfl ?_
    refine V2_getr (a := 66) d_R_pushOf_27 fl_R_7 (by decide) rfl (by decide) rfl ?_
    refine V2_bipush (v := 7) d_R_pushOf_30 rfl ?_
    refine V2_iaload (v := F 66 7) d_R_pushOf_32 (by decide) rfl (xixA (n := 7) rfl (by decide) (by decide)) rfl ?_
    refine V2_topi (fun v13 ev13 => ?_)
    refine V2_iconst (v := 2) d_R_pushOf_33 rfl ?_
    refine V2_iremM d_R_pushOf_34 (by decide) ?_
    refine V2_topi (fun v14 ev14 => ?_)
    refine V2_if_ne (tgt := 42) d_R_pushOf_35 rfl (fun c15 => ?_) (fun c15 => ?_)
    · refine V2_iconst (v := 0) d_R_pushOf_42 rfl ?_
      refine V2_istore (i := 4) (l' := [some (.ref 65), some (.int (nI p)), some (.int v1), some (.int (1 : Int32)), some (.int (0 : Int32)), none]) d_R_pushOf_43 (xst_i (Nat.le_of_ble_eq_true rfl) rfl rfl) ?_
      refine V2_iload (i := 4) d_R_pushOf_45 rfl ?_
      refine V2_aload_n (i := 0) d_R_pushOf_47 rfl rfl ?_
      refine V2_getr (a := 66) d_R_pushOf_48 fl_R_7 (by decide) rfl (by decide) rfl ?_
      refine V2_bipush (v := 7) d_R_pushOf_51 rfl ?_
      refine V2_iaload (v := F 66 7) d_R_pushOf_53 (by decide) rfl (xixA (n := 7) rfl (by decide) (by decide)) rfl ?_
      refine V2_topi (fun v16 ev16 => ?_)
      refine V2_bipush (v := 8) d_R_pushOf_54 rfl ?_
      refine V2_idiv d_R_pushOf_56 (by decide) ?_
      refine V2_topi (fun v17 ev17 => ?_)
      refine V2_isub d_R_pushOf_57 ?_
      refine V2_topi (fun v18 ev18 => ?_)
      refine V2_istore (i := 5) (l' := [some (.ref 65), some (.int (nI p)), some (.int v1), some (.int (1 : Int32)), some (.int (0 : Int32)), some (.int v18)]) d_R_pushOf_58 (xst_i (Nat.le_of_ble_eq_true rfl) rfl rfl) ?_
      refine V2_aload_n (i := 0) d_R_pushOf_60 rfl rfl ?_
      refine V2_iload_n (i := 1) d_R_pushOf_61 rfl rfl ?_
      refine V2_iconst (v := 0) d_R_pushOf_62 rfl ?_
      refine V2_callV [.int (nI p), .int (0 : Int32)] d_R_pushOf_63 rfl rfl lk_R_114 mo_R_its (by decide) rfl rfl rfl (Nat.le_of_ble_eq_true rfl) (Nat.le_of_ble_eq_true rfl) ?_
      refine c_R_its0 (by omega) ?_
      refine V2_topi (fun v19 ev19 => ?_)
      by_cases c20_1 : v19 = 1
      · refine V2_tableIn (tgt := 104) (off := 38) d_R_pushOf_66 (by rw [c20_1]; decide) (by rw [c20_1]; decide) (by rw [c20_1]; decide) rfl ?_
        refine V2_iload_n (i := 3) d_R_pushOf_104 rfl rfl ?_
        refine V2_if_eq (tgt := 114) d_R_pushOf_105 rfl (fun c => (by first | exact absurd c (by decide) | exact absurd (by decide) c)) (fun _ => ?_)
        refine V2_iload_n (i := 2) d_R_pushOf_108 rfl rfl ?_
        refine V2_iconst (v := 2) d_R_pushOf_109 rfl ?_
        refine V2_iadd d_R_pushOf_110 ?_
        refine V2_topi (fun v21 ev21 => ?_)
        refine V2_goto (tgt := 115) d_R_pushOf_111 rfl ?_
        refine V2_ireturn d_R_pushOf_115 rfl ?_
        exact xQi hQ (by subst ev21 ev19 ev18 ev17 ev16 ev14 ev13 ev2 ev1; first | (simp_all [pushS, pushK, weightS]; done) | (simp_all [pushS, pushK, weightS]; intro hh; exact absurd hh (Int32.not_lt.mpr (by assumption)))) rfl
      by_cases c20_2 : v19 = 2
      · refine V2_tableIn (tgt := 116) (off := 50) d_R_pushOf_66 (by rw [c20_2]; decide) (by rw [c20_2]; decide) (by rw [c20_2]; decide) rfl ?_
        refine V2_iload (i := 4) d_R_pushOf_116 rfl ?_
        refine V2_ireturn d_R_pushOf_118 rfl ?_
        exact xQi hQ (by subst ev19 ev18 ev17 ev16 ev14 ev13 ev2 ev1; first | (simp_all [pushS, pushK, weightS]; done) | (simp_all [pushS, pushK, weightS]; intro hh; exact absurd hh (Int32.not_lt.mpr (by assumption)))) rfl
      by_cases c20_3 : v19 = 3
      · refine V2_tableIn (tgt := 119) (off := 53) d_R_pushOf_66 (by rw [c20_3]; decide) (by rw [c20_3]; decide) (by rw [c20_3]; decide) rfl ?_
        refine V2_iload_n (i := 3) d_R_pushOf_119 rfl rfl ?_
        refine V2_if_eq (tgt := 127) d_R_pushOf_120 rfl (fun c => (by first | exact absurd c (by decide) | exact absurd (by decide) c)) (fun _ => ?_)
        refine V2_iconst (v := 0) d_R_pushOf_123 rfl ?_
        refine V2_goto (tgt := 128) d_R_pushOf_124 rfl ?_
        refine V2_ireturn d_R_pushOf_128 rfl ?_
        exact xQi hQ (by subst ev19 ev18 ev17 ev16 ev14 ev13 ev2 ev1; first | (simp_all [pushS, pushK, weightS]; done) | (simp_all [pushS, pushK, weightS]; intro hh; exact absurd hh (Int32.not_lt.mpr (by assumption)))) rfl
      by_cases c20_4 : v19 = 4
      · refine V2_tableIn (tgt := 129) (off := 63) d_R_pushOf_66 (by rw [c20_4]; decide) (by rw [c20_4]; decide) (by rw [c20_4]; decide) rfl ?_
        refine V2_iload_n (i := 3) d_R_pushOf_129 rfl rfl ?_
        refine V2_if_eq (tgt := 139) d_R_pushOf_130 rfl (fun c => (by first | exact absurd c (by decide) | exact absurd (by decide) c)) (fun _ => ?_)
        refine V2_iload_n (i := 2) d_R_pushOf_133 rfl rfl ?_
        refine V2_iconst (v := 2) d_R_pushOf_134 rfl ?_
        refine V2_iadd d_R_pushOf_135 ?_
        refine V2_topi (fun v22 ev22 => ?_)
        refine V2_goto (tgt := 140) d_R_pushOf_136 rfl ?_
        refine V2_aload_n (i := 0) d_R_pushOf_140 rfl rfl ?_
        refine V2_getr (a := 66) d_R_pushOf_141 fl_R_7 (by decide) rfl (by decide) rfl ?_
        refine V2_iconst (v := 2) d_R_pushOf_144 rfl ?_
        refine V2_iaload (v := F 66 2) d_R_pushOf_145 (by decide) rfl (xixA (n := 2) rfl (by decide) (by decide)) rfl ?_
        refine V2_topi (fun v23 ev23 => ?_)
        refine V2_bipush (v := 8) d_R_pushOf_146 rfl ?_
        refine V2_idiv d_R_pushOf_148 (by decide) ?_
        refine V2_topi (fun v24 ev24 => ?_)
        refine V2_iadd d_R_pushOf_149 ?_
        refine V2_topi (fun v25 ev25 => ?_)
        refine V2_ireturn d_R_pushOf_150 rfl ?_
        exact xQi hQ (by subst ev25 ev24 ev23 ev22 ev19 ev18 ev17 ev16 ev14 ev13 ev2 ev1; first | (simp_all [pushS, pushK, weightS]; done) | (simp_all [pushS, pushK, weightS]; intro hh; exact absurd hh (Int32.not_lt.mpr (by assumption)))) rfl
      by_cases c20_5 : v19 = 5
      · refine V2_tableIn (tgt := 151) (off := 85) d_R_pushOf_66 (by rw [c20_5]; decide) (by rw [c20_5]; decide) (by rw [c20_5]; decide) rfl ?_
        refine V2_iload (i := 5) d_R_pushOf_151 rfl ?_
        refine V2_if_ge (tgt := 160) d_R_pushOf_153 rfl (fun c26 => ?_) (fun c26 => ?_)
        · refine V2_iload (i := 5) d_R_pushOf_160 rfl ?_
          refine V2_ireturn d_R_pushOf_162 rfl ?_
          exact xQi hQ (by subst ev19 ev18 ev17 ev16 ev14 ev13 ev2 ev1; first | (simp_all [pushS, pushK, weightS]; done) | (simp_all [pushS, pushK, weightS]; intro hh; exact absurd hh (Int32.not_lt.mpr (by assumption)))) rfl
        · refine V2_iconst (v := 0) d_R_pushOf_156 rfl ?_
          refine V2_goto (tgt := 162) d_R_pushOf_157 rfl ?_
          refine V2_ireturn d_R_pushOf_162 rfl ?_
          exact xQi hQ (by subst ev19 ev18 ev17 ev16 ev14 ev13 ev2 ev1; first | (simp_all [pushS, pushK, weightS]; done) | (simp_all [pushS, pushK, weightS]; intro hh; exact absurd hh (Int32.not_lt.mpr (by assumption)))) rfl
      by_cases c20_6 : v19 = 6
      · refine V2_tableIn (tgt := 163) (off := 97) d_R_pushOf_66 (by rw [c20_6]; decide) (by rw [c20_6]; decide) (by rw [c20_6]; decide) rfl ?_
        refine V2_iconst (v := 0) d_R_pushOf_163 rfl ?_
        refine V2_ireturn d_R_pushOf_164 rfl ?_
        exact xQi hQ (by subst ev19 ev18 ev17 ev16 ev14 ev13 ev2 ev1; first | (simp_all [pushS, pushK, weightS]; done) | (simp_all [pushS, pushK, weightS]; intro hh; exact absurd hh (Int32.not_lt.mpr (by assumption)))) rfl
      refine V2_tableOut (tgt := 165) d_R_pushOf_66 (by have := lv_neT (a := 1) c20_1 rfl; have := lv_neT (a := 2) c20_2 rfl; have := lv_neT (a := 3) c20_3 rfl; have := lv_neT (a := 4) c20_4 rfl; have := lv_neT (a := 5) c20_5 rfl; have := lv_neT (a := 6) c20_6 rfl; omega) rfl ?_
      refine V2_iload_n (i := 3) d_R_pushOf_165 rfl rfl ?_
      refine V2_if_eq (tgt := 173) d_R_pushOf_166 rfl (fun c => (by first | exact absurd c (by decide) | exact absurd (by decide) c)) (fun _ => ?_)
      refine V2_iload_n (i := 2) d_R_pushOf_169 rfl rfl ?_
      refine V2_goto (tgt := 174) d_R_pushOf_170 rfl ?_
      refine V2_ireturn d_R_pushOf_174 rfl ?_
      exact xQi hQ (by subst ev19 ev18 ev17 ev16 ev14 ev13 ev2 ev1; first | (simp_all [pushS, pushK, weightS]; done) | (simp_all [pushS, pushK, weightS]; intro hh; exact absurd hh (Int32.not_lt.mpr (by assumption)))) rfl
    · refine V2_iload_n (i := 2) d_R_pushOf_38 rfl rfl ?_
      refine V2_goto (tgt := 43) d_R_pushOf_39 rfl ?_
      refine V2_istore (i := 4) (l' := [some (.ref 65), some (.int (nI p)), some (.int v1), some (.int (1 : Int32)), some (.int v1), none]) d_R_pushOf_43 (xst_i (Nat.le_of_ble_eq_true rfl) rfl rfl) ?_
      refine V2_iload (i := 4) d_R_pushOf_45 rfl ?_
      refine V2_aload_n (i := 0) d_R_pushOf_47 rfl rfl ?_
      refine V2_getr (a := 66) d_R_pushOf_48 fl_R_7 (by decide) rfl (by decide) rfl ?_
      refine V2_bipush (v := 7) d_R_pushOf_51 rfl ?_
      refine V2_iaload (v := F 66 7) d_R_pushOf_53 (by decide) rfl (xixA (n := 7) rfl (by decide) (by decide)) rfl ?_
      refine V2_topi (fun v27 ev27 => ?_)
      refine V2_bipush (v := 8) d_R_pushOf_54 rfl ?_
      refine V2_idiv d_R_pushOf_56 (by decide) ?_
      refine V2_topi (fun v28 ev28 => ?_)
      refine V2_isub d_R_pushOf_57 ?_
      refine V2_topi (fun v29 ev29 => ?_)
      refine V2_istore (i := 5) (l' := [some (.ref 65), some (.int (nI p)), some (.int v1), some (.int (1 : Int32)), some (.int v1), some (.int v29)]) d_R_pushOf_58 (xst_i (Nat.le_of_ble_eq_true rfl) rfl rfl) ?_
      refine V2_aload_n (i := 0) d_R_pushOf_60 rfl rfl ?_
      refine V2_iload_n (i := 1) d_R_pushOf_61 rfl rfl ?_
      refine V2_iconst (v := 0) d_R_pushOf_62 rfl ?_
      refine V2_callV [.int (nI p), .int (0 : Int32)] d_R_pushOf_63 rfl rfl lk_R_114 mo_R_its (by decide) rfl rfl rfl (Nat.le_of_ble_eq_true rfl) (Nat.le_of_ble_eq_true rfl) ?_
      refine c_R_its0 (by omega) ?_
      refine V2_topi (fun v30 ev30 => ?_)
      by_cases c31_1 : v30 = 1
      · refine V2_tableIn (tgt := 104) (off := 38) d_R_pushOf_66 (by rw [c31_1]; decide) (by rw [c31_1]; decide) (by rw [c31_1]; decide) rfl ?_
        refine V2_iload_n (i := 3) d_R_pushOf_104 rfl rfl ?_
        refine V2_if_eq (tgt := 114) d_R_pushOf_105 rfl (fun c => (by first | exact absurd c (by decide) | exact absurd (by decide) c)) (fun _ => ?_)
        refine V2_iload_n (i := 2) d_R_pushOf_108 rfl rfl ?_
        refine V2_iconst (v := 2) d_R_pushOf_109 rfl ?_
        refine V2_iadd d_R_pushOf_110 ?_
        refine V2_topi (fun v32 ev32 => ?_)
        refine V2_goto (tgt := 115) d_R_pushOf_111 rfl ?_
        refine V2_ireturn d_R_pushOf_115 rfl ?_
        exact xQi hQ (by subst ev32 ev30 ev29 ev28 ev27 ev14 ev13 ev2 ev1; first | (simp_all [pushS, pushK, weightS]; done) | (simp_all [pushS, pushK, weightS]; intro hh; exact absurd hh (Int32.not_lt.mpr (by assumption)))) rfl
      by_cases c31_2 : v30 = 2
      · refine V2_tableIn (tgt := 116) (off := 50) d_R_pushOf_66 (by rw [c31_2]; decide) (by rw [c31_2]; decide) (by rw [c31_2]; decide) rfl ?_
        refine V2_iload (i := 4) d_R_pushOf_116 rfl ?_
        refine V2_ireturn d_R_pushOf_118 rfl ?_
        exact xQi hQ (by subst ev30 ev29 ev28 ev27 ev14 ev13 ev2 ev1; first | (simp_all [pushS, pushK, weightS]; done) | (simp_all [pushS, pushK, weightS]; intro hh; exact absurd hh (Int32.not_lt.mpr (by assumption)))) rfl
      by_cases c31_3 : v30 = 3
      · refine V2_tableIn (tgt := 119) (off := 53) d_R_pushOf_66 (by rw [c31_3]; decide) (by rw [c31_3]; decide) (by rw [c31_3]; decide) rfl ?_
        refine V2_iload_n (i := 3) d_R_pushOf_119 rfl rfl ?_
        refine V2_if_eq (tgt := 127) d_R_pushOf_120 rfl (fun c => (by first | exact absurd c (by decide) | exact absurd (by decide) c)) (fun _ => ?_)
        refine V2_iconst (v := 0) d_R_pushOf_123 rfl ?_
        refine V2_goto (tgt := 128) d_R_pushOf_124 rfl ?_
        refine V2_ireturn d_R_pushOf_128 rfl ?_
        exact xQi hQ (by subst ev30 ev29 ev28 ev27 ev14 ev13 ev2 ev1; first | (simp_all [pushS, pushK, weightS]; done) | (simp_all [pushS, pushK, weightS]; intro hh; exact absurd hh (Int32.not_lt.mpr (by assumption)))) rfl
      by_cases c31_4 : v30 = 4
      · refine V2_tableIn (tgt := 129) (off := 63) d_R_pushOf_66 (by rw [c31_4]; decide) (by rw [c31_4]; decide) (by rw [c31_4]; decide) rfl ?_
        refine V2_iload_n (i := 3) d_R_pushOf_129 rfl rfl ?_
        refine V2_if_eq (tgt := 139) d_R_pushOf_130 rfl (fun c => (by first | exact absurd c (by decide) | exact absurd (by decide) c)) (fun _ => ?_)
        refine V2_iload_n (i := 2) d_R_pushOf_133 rfl rfl ?_
        refine V2_iconst (v := 2) d_R_pushOf_134 rfl ?_
        refine V2_iadd d_R_pushOf_135 ?_
        refine V2_topi (fun v33 ev33 => ?_)
        refine V2_goto (tgt := 140) d_R_pushOf_136 rfl ?_
        refine V2_aload_n (i := 0) d_R_pushOf_140 rfl rfl ?_
        refine V2_getr (a := 66) d_R_pushOf_141 fl_R_7 (by decide) rfl (by decide) rfl ?_
        refine V2_iconst (v := 2) d_R_pushOf_144 rfl ?_
        refine V2_iaload (v := F 66 2) d_R_pushOf_145 (by decide) rfl (xixA (n := 2) rfl (by decide) (by decide)) rfl ?_
        refine V2_topi (fun v34 ev34 => ?_)
        refine V2_bipush (v := 8) d_R_pushOf_146 rfl ?_
        refine V2_idiv d_R_pushOf_148 (by decide) ?_
        refine V2_topi (fun v35 ev35 => ?_)
        refine V2_iadd d_R_pushOf_149 ?_
        refine V2_topi (fun v36 ev36 => ?_)
        refine V2_ireturn d_R_pushOf_150 rfl ?_
        exact xQi hQ (by subst ev36 ev35 ev34 ev33 ev30 ev29 ev28 ev27 ev14 ev13 ev2 ev1; first | (simp_all [pushS, pushK, weightS]; done) | (simp_all [pushS, pushK, weightS]; intro hh; exact absurd hh (Int32.not_lt.mpr (by assumption)))) rfl
      by_cases c31_5 : v30 = 5
      · refine V2_tableIn (tgt := 151) (off := 85) d_R_pushOf_66 (by rw [c31_5]; decide) (by rw [c31_5]; decide) (by rw [c31_5]; decide) rfl ?_
        refine V2_iload (i := 5) d_R_pushOf_151 rfl ?_
        refine V2_if_ge (tgt := 160) d_R_pushOf_153 rfl (fun c37 => ?_) (fun c37 => ?_)
        · refine V2_iload (i := 5) d_R_pushOf_160 rfl ?_
          refine V2_ireturn d_R_pushOf_162 rfl ?_
          exact xQi hQ (by subst ev30 ev29 ev28 ev27 ev14 ev13 ev2 ev1; first | (simp_all [pushS, pushK, weightS]; done) | (simp_all [pushS, pushK, weightS]; intro hh; exact absurd hh (Int32.not_lt.mpr (by assumption)))) rfl
        · refine V2_iconst (v := 0) d_R_pushOf_156 rfl ?_
          refine V2_goto (tgt := 162) d_R_pushOf_157 rfl ?_
          refine V2_ireturn d_R_pushOf_162 rfl ?_
          exact xQi hQ (by subst ev30 ev29 ev28 ev27 ev14 ev13 ev2 ev1; first | (simp_all [pushS, pushK, weightS]; done) | (simp_all [pushS, pushK, weightS]; intro hh; exact absurd hh (Int32.not_lt.mpr (by assumption)))) rfl
      by_cases c31_6 : v30 = 6
      · refine V2_tableIn (tgt := 163) (off := 97) d_R_pushOf_66 (by rw [c31_6]; decide) (by rw [c31_6]; decide) (by rw [c31_6]; decide) rfl ?_
        refine V2_iconst (v := 0) d_R_pushOf_163 rfl ?_
        refine V2_ireturn d_R_pushOf_164 rfl ?_
        exact xQi hQ (by subst ev30 ev29 ev28 ev27 ev14 ev13 ev2 ev1; first | (simp_all [pushS, pushK, weightS]; done) | (simp_all [pushS, pushK, weightS]; intro hh; exact absurd hh (Int32.not_lt.mpr (by assumption)))) rfl
      refine V2_tableOut (tgt := 165) d_R_pushOf_66 (by have := lv_neT (a := 1) c31_1 rfl; have := lv_neT (a := 2) c31_2 rfl; have := lv_neT (a := 3) c31_3 rfl; have := lv_neT (a := 4) c31_4 rfl; have := lv_neT (a := 5) c31_5 rfl; have := lv_neT (a := 6) c31_6 rfl; omega) rfl ?_
      refine V2_iload_n (i := 3) d_R_pushOf_165 rfl rfl ?_
      refine V2_if_eq (tgt := 173) d_R_pushOf_166 rfl (fun c => (by first | exact absurd c (by decide) | exact absurd (by decide) c)) (fun _ => ?_)
      refine V2_iload_n (i := 2) d_R_pushOf_169 rfl rfl ?_
      refine V2_goto (tgt := 174) d_R_pushOf_170 rfl ?_
      refine V2_ireturn d_R_pushOf_174 rfl ?_
      exact xQi hQ (by subst ev30 ev29 ev28 ev27 ev14 ev13 ev2 ev1; first | (simp_all [pushS, pushK, weightS]; done) | (simp_all [pushS, pushK, weightS]; intro hh; exact absurd hh (Int32.not_lt.mpr (by assumption)))) rfl
theorem c_R_weightOf {L : Nat} {xs : Nat → Int32} {d : Nat} {Q : Option Value → xF → Prop} {F : xF} {p : Nat} (hp : p < 6) (hQ : Q (some (.int (weightS (F 66) p))) F) : V2 L xs (d + 1) m_R_weightOf 0 (xEntry [.ref 65, .int (nI p)] 2) [] F Q := by
  refine V2.to (l' := [some (.ref 65), some (.int (nI p))]) ?_ rfl rfl rfl rfl
  refine V2_aload_n (i := 0) d_R_weightOf_0 rfl rfl ?_
  refine V2_iload_n (i := 1) d_R_weightOf_1 rfl rfl ?_
  refine V2_iconst (v := 0) d_R_weightOf_2 rfl ?_
  refine V2_callV [.int (nI p), .int (0 : Int32)] d_R_weightOf_3 rfl rfl lk_R_114 mo_R_its (by decide) rfl rfl rfl (Nat.le_of_ble_eq_true rfl) (Nat.le_of_ble_eq_true rfl) ?_
  refine c_R_its0 (by omega) ?_
  refine V2_topi (fun v1 ev1 => ?_)
  refine V2_bipush (v := 6) d_R_weightOf_6 rfl ?_
  refine V2_icmp_ne (tgt := 20) d_R_weightOf_8 rfl (fun c2 => ?_) (fun c2 => ?_)
  · refine V2_iconst (v := 0) d_R_weightOf_20 rfl ?_
    refine V2_ireturn d_R_weightOf_21 rfl ?_
    exact xQi hQ (by subst ev1; first | (simp_all [pushS, pushK, weightS]; done) | (simp_all [pushS, pushK, weightS]; intro hh; exact absurd hh (Int32.not_lt.mpr (by assumption)))) rfl
  · refine V2_aload_n (i := 0) d_R_weightOf_11 rfl rfl ?_
    refine V2_iload_n (i := 1) d_R_weightOf_12 rfl rfl ?_
    refine V2_iconst (v := 1) d_R_weightOf_13 rfl ?_
    refine V2_callV [.int (nI p), .int (1 : Int32)] d_R_weightOf_14 rfl rfl lk_R_114 mo_R_its (by decide) rfl rfl rfl (Nat.le_of_ble_eq_true rfl) (Nat.le_of_ble_eq_true rfl) ?_
    refine c_R_its1 (by omega) ?_
    refine V2_topi (fun v3 ev3 => ?_)
    refine V2_goto (tgt := 21) d_R_weightOf_17 rfl ?_
    refine V2_ireturn d_R_weightOf_21 rfl ?_
    exact xQi hQ (by subst ev3 ev1; first | (simp_all [pushS, pushK, weightS]; done) | (simp_all [pushS, pushK, weightS]; intro hh; exact absurd hh (Int32.not_lt.mpr (by assumption)))) rfl
theorem c_R_pushes_loop {L : Nat} {xs : Nat → Int32} {d : Nat} {Q : Option Value → xF → Prop} {F : xF} {P : Nat} (hP : F 66 11 = nI P) (hP6 : P ≤ 6) : ∀ (n : Nat) (p : Nat) (v : Int32), p ≤ P → P < n + p → v = pushSum (F 66) (F 65 5) p → (Q (some (.int (pushSum (F 66) (F 65 5) P))) F) → V2 L xs (d + 2) m_R_pushes 4 [some (.ref 65), some (.int v), some (.int (nI p))] [] F Q := by
  intro n
  induction n with
  | zero => exact fun p v h1 h2 => absurd h2 (by omega)
  | succ n ih =>
    intro p v h1 h2 h3 hQ
    refine V2_iload_n (i := 2) d_R_pushes_4 rfl rfl ?_
    refine V2_aload_n (i := 0) d_R_pushes_5 rfl rfl ?_
    refine V2_getr (a := 66) d_R_pushes_6 fl_R_7 (by decide) rfl (by decide) rfl ?_
    refine V2_bipush (v := 11) d_R_pushes_9 rfl ?_
    refine V2_iaload (v := F 66 11) d_R_pushes_11 (by decide) rfl (xixA (n := 11) rfl (by decide) (by decide)) rfl ?_
    refine V2_topi (fun v1 ev1 => ?_)
    refine V2_icmp_ge (tgt := 45) d_R_pushes_12 rfl (fun c2 => ?_) (fun c2 => ?_)
    · refine V2_iload_n (i := 1) d_R_pushes_45 rfl rfl ?_
      refine V2_ireturn d_R_pushes_46 rfl ?_
      have hp : p = P := by
        subst ev1
        rw [hP] at c2
        exact Nat.le_antisymm h1 ((nI_leI (by omega) (by omega)).mp c2)
      subst hp
      exact xQi hQ h3 rfl
    · have hlt : p < P := by
          subst ev1
          rw [hP] at c2
          exact Nat.not_le.mp (fun hh => c2 ((nI_leI (by omega) (by omega)).mpr hh))
      refine V2_iload_n (i := 1) d_R_pushes_15 rfl rfl ?_
      refine V2_aload_n (i := 0) d_R_pushes_16 rfl rfl ?_
      refine V2_get (v := F 65 5) d_R_pushes_17 fl_R_22 (by decide) rfl (by decide) rfl rfl ?_
      refine V2_topi (fun v3 ev3 => ?_)
      refine V2_iload_n (i := 2) d_R_pushes_20 rfl rfl ?_
      refine V2_ishr d_R_pushes_21 ?_
      refine V2_topi (fun v4 ev4 => ?_)
      refine V2_iconst (v := 1) d_R_pushes_22 rfl ?_
      refine V2_iand d_R_pushes_23 ?_
      refine V2_topi (fun v5 ev5 => ?_)
      refine V2_iconst (v := 1) d_R_pushes_24 rfl ?_
      refine V2_icmp_ne (tgt := 36) d_R_pushes_25 rfl (fun c6 => ?_) (fun c6 => ?_)
      · refine V2_iconst (v := 0) d_R_pushes_36 rfl ?_
        refine V2_iadd d_R_pushes_37 ?_
        refine V2_topi (fun v7 ev7 => ?_)
        refine V2_istore_n (i := 1) (l' := [some (.ref 65), some (.int v7), some (.int (nI p))]) d_R_pushes_38 rfl (xst_r (Nat.le_of_ble_eq_true rfl) rfl rfl) ?_
        obtain ⟨v8, ev8⟩ : ∃ y : Int32, y = nI p + 1 := ⟨_, rfl⟩
        refine V2_iinc (i := 2) (v := v8) (l' := [some (.ref 65), some (.int v7), some (.int v8)]) d_R_pushes_39 rfl (by rw [ev8]; rfl) (xst_i (Nat.le_of_ble_eq_true rfl) rfl rfl) ?_
        refine V2_goto (tgt := 4) d_R_pushes_42 rfl ?_
        exact V2.to (ih (p + 1) v7 (by omega) (by omega) (by subst ev8 ev7 ev5 ev4 ev3 ev1; rw [h3]; exact (sum_out (f := fun p => pushS (F 66) p) (set := F 65 5) c6).symm) hQ) rfl (by rw [ev8, nI_1]) rfl rfl
      · refine V2_aload_n (i := 0) d_R_pushes_28 rfl rfl ?_
        refine V2_iload_n (i := 2) d_R_pushes_29 rfl rfl ?_
        refine V2_callV [.int (nI p)] d_R_pushes_30 rfl rfl lk_R_118 mo_R_pushOf (by decide) rfl rfl rfl (Nat.le_of_ble_eq_true rfl) (Nat.le_of_ble_eq_true rfl) ?_
        refine c_R_pushOf (by omega) ?_
        refine V2_topi (fun v9 ev9 => ?_)
        refine V2_goto (tgt := 37) d_R_pushes_33 rfl ?_
        refine V2_iadd d_R_pushes_37 ?_
        refine V2_topi (fun v10 ev10 => ?_)
        refine V2_istore_n (i := 1) (l' := [some (.ref 65), some (.int v10), some (.int (nI p))]) d_R_pushes_38 rfl (xst_r (Nat.le_of_ble_eq_true rfl) rfl rfl) ?_
        obtain ⟨v11, ev11⟩ : ∃ y : Int32, y = nI p + 1 := ⟨_, rfl⟩
        refine V2_iinc (i := 2) (v := v11) (l' := [some (.ref 65), some (.int v10), some (.int v11)]) d_R_pushes_39 rfl (by rw [ev11]; rfl) (xst_i (Nat.le_of_ble_eq_true rfl) rfl rfl) ?_
        refine V2_goto (tgt := 4) d_R_pushes_42 rfl ?_
        exact V2.to (ih (p + 1) v10 (by omega) (by omega) (by subst ev11 ev10 ev9 ev5 ev4 ev3 ev1; rw [h3]; exact (sum_in (f := fun p => pushS (F 66) p) (set := F 65 5) c6).symm) hQ) rfl (by rw [ev11, nI_1]) rfl rfl
theorem c_R_pushes {L : Nat} {xs : Nat → Int32} {d : Nat} {Q : Option Value → xF → Prop} {F : xF} {P : Nat} (hP : F 66 11 = nI P) (hP6 : P ≤ 6) (hQ : Q (some (.int (pushSum (F 66) (F 65 5) P))) F) : V2 L xs (d + 2) m_R_pushes 0 (xEntry [.ref 65] 3) [] F Q := by
  refine V2.to (l' := [some (.ref 65), none, none]) ?_ rfl rfl rfl rfl
  refine V2_iconst (v := 0) d_R_pushes_0 rfl ?_
  refine V2_istore_n (i := 1) (l' := [some (.ref 65), some (.int (0 : Int32)), none]) d_R_pushes_1 rfl (xst_r (Nat.le_of_ble_eq_true rfl) rfl rfl) ?_
  refine V2_iconst (v := 0) d_R_pushes_2 rfl ?_
  refine V2_istore_n (i := 2) (l' := [some (.ref 65), some (.int (0 : Int32)), some (.int (0 : Int32))]) d_R_pushes_3 rfl (xst_i (Nat.le_of_ble_eq_true rfl) rfl rfl) ?_
  exact c_R_pushes_loop hP hP6 (P + 1) 0 0 (by omega) (by omega) rfl hQ
theorem c_R_weighs_loop {L : Nat} {xs : Nat → Int32} {d : Nat} {Q : Option Value → xF → Prop} {F : xF} {P : Nat} (hP : F 66 11 = nI P) (hP6 : P ≤ 6) : ∀ (n : Nat) (p : Nat) (v : Int32), p ≤ P → P < n + p → v = weightSum (F 66) (F 65 5) p → (Q (some (.int (weightSum (F 66) (F 65 5) P))) F) → V2 L xs (d + 2) m_R_weighs 4 [some (.ref 65), some (.int v), some (.int (nI p))] [] F Q := by
  intro n
  induction n with
  | zero => exact fun p v h1 h2 => absurd h2 (by omega)
  | succ n ih =>
    intro p v h1 h2 h3 hQ
    refine V2_iload_n (i := 2) d_R_weighs_4 rfl rfl ?_
    refine V2_aload_n (i := 0) d_R_weighs_5 rfl rfl ?_
    refine V2_getr (a := 66) d_R_weighs_6 fl_R_7 (by decide) rfl (by decide) rfl ?_
    refine V2_bipush (v := 11) d_R_weighs_9 rfl ?_
    refine V2_iaload (v := F 66 11) d_R_weighs_11 (by decide) rfl (xixA (n := 11) rfl (by decide) (by decide)) rfl ?_
    refine V2_topi (fun v1 ev1 => ?_)
    refine V2_icmp_ge (tgt := 45) d_R_weighs_12 rfl (fun c2 => ?_) (fun c2 => ?_)
    · refine V2_iload_n (i := 1) d_R_weighs_45 rfl rfl ?_
      refine V2_ireturn d_R_weighs_46 rfl ?_
      have hp : p = P := by
        subst ev1
        rw [hP] at c2
        exact Nat.le_antisymm h1 ((nI_leI (by omega) (by omega)).mp c2)
      subst hp
      exact xQi hQ h3 rfl
    · have hlt : p < P := by
          subst ev1
          rw [hP] at c2
          exact Nat.not_le.mp (fun hh => c2 ((nI_leI (by omega) (by omega)).mpr hh))
      refine V2_iload_n (i := 1) d_R_weighs_15 rfl rfl ?_
      refine V2_aload_n (i := 0) d_R_weighs_16 rfl rfl ?_
      refine V2_get (v := F 65 5) d_R_weighs_17 fl_R_22 (by decide) rfl (by decide) rfl rfl ?_
      refine V2_topi (fun v3 ev3 => ?_)
      refine V2_iload_n (i := 2) d_R_weighs_20 rfl rfl ?_
      refine V2_ishr d_R_weighs_21 ?_
      refine V2_topi (fun v4 ev4 => ?_)
      refine V2_iconst (v := 1) d_R_weighs_22 rfl ?_
      refine V2_iand d_R_weighs_23 ?_
      refine V2_topi (fun v5 ev5 => ?_)
      refine V2_iconst (v := 1) d_R_weighs_24 rfl ?_
      refine V2_icmp_ne (tgt := 36) d_R_weighs_25 rfl (fun c6 => ?_) (fun c6 => ?_)
      · refine V2_iconst (v := 0) d_R_weighs_36 rfl ?_
        refine V2_iadd d_R_weighs_37 ?_
        refine V2_topi (fun v7 ev7 => ?_)
        refine V2_istore_n (i := 1) (l' := [some (.ref 65), some (.int v7), some (.int (nI p))]) d_R_weighs_38 rfl (xst_r (Nat.le_of_ble_eq_true rfl) rfl rfl) ?_
        obtain ⟨v8, ev8⟩ : ∃ y : Int32, y = nI p + 1 := ⟨_, rfl⟩
        refine V2_iinc (i := 2) (v := v8) (l' := [some (.ref 65), some (.int v7), some (.int v8)]) d_R_weighs_39 rfl (by rw [ev8]; rfl) (xst_i (Nat.le_of_ble_eq_true rfl) rfl rfl) ?_
        refine V2_goto (tgt := 4) d_R_weighs_42 rfl ?_
        exact V2.to (ih (p + 1) v7 (by omega) (by omega) (by subst ev8 ev7 ev5 ev4 ev3 ev1; rw [h3]; exact (sum_out (f := fun p => weightS (F 66) p) (set := F 65 5) c6).symm) hQ) rfl (by rw [ev8, nI_1]) rfl rfl
      · refine V2_aload_n (i := 0) d_R_weighs_28 rfl rfl ?_
        refine V2_iload_n (i := 2) d_R_weighs_29 rfl rfl ?_
        refine V2_callV [.int (nI p)] d_R_weighs_30 rfl rfl lk_R_121 mo_R_weightOf (by decide) rfl rfl rfl (Nat.le_of_ble_eq_true rfl) (Nat.le_of_ble_eq_true rfl) ?_
        refine c_R_weightOf (by omega) ?_
        refine V2_topi (fun v9 ev9 => ?_)
        refine V2_goto (tgt := 37) d_R_weighs_33 rfl ?_
        refine V2_iadd d_R_weighs_37 ?_
        refine V2_topi (fun v10 ev10 => ?_)
        refine V2_istore_n (i := 1) (l' := [some (.ref 65), some (.int v10), some (.int (nI p))]) d_R_weighs_38 rfl (xst_r (Nat.le_of_ble_eq_true rfl) rfl rfl) ?_
        obtain ⟨v11, ev11⟩ : ∃ y : Int32, y = nI p + 1 := ⟨_, rfl⟩
        refine V2_iinc (i := 2) (v := v11) (l' := [some (.ref 65), some (.int v10), some (.int v11)]) d_R_weighs_39 rfl (by rw [ev11]; rfl) (xst_i (Nat.le_of_ble_eq_true rfl) rfl rfl) ?_
        refine V2_goto (tgt := 4) d_R_weighs_42 rfl ?_
        exact V2.to (ih (p + 1) v10 (by omega) (by omega) (by subst ev11 ev10 ev9 ev5 ev4 ev3 ev1; rw [h3]; exact (sum_in (f := fun p => weightS (F 66) p) (set := F 65 5) c6).symm) hQ) rfl (by rw [ev11, nI_1]) rfl rfl
theorem c_R_weighs {L : Nat} {xs : Nat → Int32} {d : Nat} {Q : Option Value → xF → Prop} {F : xF} {P : Nat} (hP : F 66 11 = nI P) (hP6 : P ≤ 6) (hQ : Q (some (.int (weightSum (F 66) (F 65 5) P))) F) : V2 L xs (d + 2) m_R_weighs 0 (xEntry [.ref 65] 3) [] F Q := by
  refine V2.to (l' := [some (.ref 65), none, none]) ?_ rfl rfl rfl rfl
  refine V2_iconst (v := 0) d_R_weighs_0 rfl ?_
  refine V2_istore_n (i := 1) (l' := [some (.ref 65), some (.int (0 : Int32)), none]) d_R_weighs_1 rfl (xst_r (Nat.le_of_ble_eq_true rfl) rfl rfl) ?_
  refine V2_iconst (v := 0) d_R_weighs_2 rfl ?_
  refine V2_istore_n (i := 2) (l' := [some (.ref 65), some (.int (0 : Int32)), some (.int (0 : Int32))]) d_R_weighs_3 rfl (xst_i (Nat.le_of_ble_eq_true rfl) rfl rfl) ?_
  exact c_R_weighs_loop hP hP6 (P + 1) 0 0 (by omega) (by omega) rfl hQ
