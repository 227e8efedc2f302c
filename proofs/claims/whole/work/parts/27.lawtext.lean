/-! the class: texts worked out -/
def encT (wh vl : Int32) : Int32 := if wh = 0 then vl else if wh = 1 then (if vl = 100 then -2 else if vl = 105 ∨ vl = 104 then -1 else -3) else if wh = 2 then -33 else -vl
theorem encT_0 {wh vl : Int32} (h : wh = 0) : encT wh vl = vl := if_pos h
theorem encT_1 {wh vl : Int32} (h : wh = 1) : encT wh vl = (if vl = 100 then -2 else if vl = 105 ∨ vl = 104 then -1 else -3) := by
  unfold encT
  rw [if_neg (by rw [h]; decide), if_pos h]
theorem encT_2 {wh vl : Int32} (h : wh = 2) : encT wh vl = -33 := by
  unfold encT
  rw [if_neg (by rw [h]; decide), if_neg (by rw [h]; decide), if_pos h]
theorem encT_3 {wh vl : Int32} (h : wh = 3) : encT wh vl = -vl := by
  unfold encT
  rw [if_neg (by rw [h]; decide), if_neg (by rw [h]; decide), if_neg (by rw [h]; decide)]
theorem isSign_neg {v : Int32} (h : isSign v) : -v < -3 ∧ ¬ -v = -33 ∧ -(-v) = v := by
  rcases h with rfl | rfl | rfl | rfl | rfl | rfl | rfl | rfl | rfl | rfl <;> decide
theorem enc1_range (vl : Int32) : ¬ (if vl = 100 then (-2 : Int32) else if vl = 105 ∨ vl = 104 then -1 else -3) < -3 ∧ (if vl = 100 then (-2 : Int32) else if vl = 105 ∨ vl = 104 then -1 else -3) < 0 := by
  by_cases h : vl = 100
  · rw [if_pos h]; decide
  · rw [if_neg h]
    by_cases h2 : vl = 105 ∨ vl = 104
    · rw [if_pos h2]; decide
    · rw [if_neg h2]; decide
theorem enc1_val (a b c vl : Int32) : (if (if vl = 100 then (-2 : Int32) else if vl = 105 ∨ vl = 104 then -1 else -3) = -1 then a else if (if vl = 100 then (-2 : Int32) else if vl = 105 ∨ vl = 104 then -1 else -3) = -2 then b else c) = nmS a b c vl := by
  unfold nmS
  by_cases h : vl = 100
  · rw [if_pos h, if_pos h, if_neg (by decide), if_pos rfl]
  · rw [if_neg h, if_neg h]
    by_cases h2 : vl = 105 ∨ vl = 104
    · rw [if_pos h2, if_pos h2, if_pos rfl]
    · rw [if_neg h2, if_neg h2, if_neg (by decide), if_neg (by decide)]
theorem i32_nlt3 {v : Int32} (h : 0 ≤ v) : ¬ v < -3 := by
  have e0 : (0 : Int32).toInt = 0 := by decide
  have e3 : (-3 : Int32).toInt = -3 := by decide
  rw [Int32.le_iff_toInt_le, e0] at h
  rw [Int32.lt_iff_toInt_lt, e3]
  omega
theorem c_Law_workedOut {L : Nat} {xs : Nat → Int32} {d : Nat} {Q : Option Value → xF → Prop} {F : xF} {c x y : Int32} (hc : isSign c) (hQ : Q (some (.int (joinS c x y))) F) : V2 L xs (d + 1) m_Law_workedOut 0 (xEntry [.int c, .int x, .int y] 3) [] F Q := by
  refine V2.to (l' := [some (.int c), some (.int x), some (.int y)]) ?_ rfl rfl rfl rfl
  refine V2_iload_n (i := 0) d_Law_workedOut_0 rfl rfl ?_
  by_cases c1_37 : c = 37
  · refine V2_lookup (tgt := 177) d_Law_workedOut_1 (by decide) (by rw [c1_37]; first | done | rfl | decide +kernel) rfl ?_
    refine V2_iload_n (i := 2) d_Law_workedOut_177 rfl rfl ?_
    refine V2_if_ne (tgt := 185) d_Law_workedOut_178 rfl (fun c2 => ?_) (fun c2 => ?_)
    · refine V2_iload_n (i := 1) d_Law_workedOut_185 rfl rfl ?_
      refine V2_iload_n (i := 2) d_Law_workedOut_186 rfl rfl ?_
      refine V2_iremM d_Law_workedOut_187 (by assumption) ?_
      refine V2_topi (fun v3 ev3 => ?_)
      refine V2_ireturn d_Law_workedOut_188 rfl ?_
      exact xQi hQ (by subst ev3; simp_all [joinS, isSign]) rfl
    · refine V2_iconst (v := 0) d_Law_workedOut_181 rfl ?_
      refine V2_goto (tgt := 188) d_Law_workedOut_182 rfl ?_
      refine V2_ireturn d_Law_workedOut_188 rfl ?_
      exact xQi hQ (by skip; simp_all [joinS, isSign]) rfl
  by_cases c1_38 : c = 38
  · refine V2_lookup (tgt := 106) d_Law_workedOut_1 (by decide) (by rw [c1_38]; first | done | rfl | decide +kernel) rfl ?_
    refine V2_iload_n (i := 1) d_Law_workedOut_106 rfl rfl ?_
    refine V2_if_eq (tgt := 118) d_Law_workedOut_107 rfl (fun c4 => ?_) (fun c4 => ?_)
    · refine V2_iconst (v := 0) d_Law_workedOut_118 rfl ?_
      refine V2_ireturn d_Law_workedOut_119 rfl ?_
      exact xQi hQ (by skip; simp_all [joinS, isSign]) rfl
    · refine V2_iload_n (i := 2) d_Law_workedOut_110 rfl rfl ?_
      refine V2_if_eq (tgt := 118) d_Law_workedOut_111 rfl (fun c5 => ?_) (fun c5 => ?_)
      · refine V2_iconst (v := 0) d_Law_workedOut_118 rfl ?_
        refine V2_ireturn d_Law_workedOut_119 rfl ?_
        exact xQi hQ (by skip; simp_all [joinS, isSign]) rfl
      · refine V2_iconst (v := 1) d_Law_workedOut_114 rfl ?_
        refine V2_goto (tgt := 119) d_Law_workedOut_115 rfl ?_
        refine V2_ireturn d_Law_workedOut_119 rfl ?_
        exact xQi hQ (by skip; simp_all [joinS, isSign]) rfl
  by_cases c1_42 : c = 42
  · refine V2_lookup (tgt := 161) d_Law_workedOut_1 (by decide) (by rw [c1_42]; first | done | rfl | decide +kernel) rfl ?_
    refine V2_iload_n (i := 1) d_Law_workedOut_161 rfl rfl ?_
    refine V2_iload_n (i := 2) d_Law_workedOut_162 rfl rfl ?_
    refine V2_imul d_Law_workedOut_163 ?_
    refine V2_topi (fun v6 ev6 => ?_)
    refine V2_ireturn d_Law_workedOut_164 rfl ?_
    exact xQi hQ (by subst ev6; simp_all [joinS, isSign]) rfl
  by_cases c1_43 : c = 43
  · refine V2_lookup (tgt := 153) d_Law_workedOut_1 (by decide) (by rw [c1_43]; first | done | rfl | decide +kernel) rfl ?_
    refine V2_iload_n (i := 1) d_Law_workedOut_153 rfl rfl ?_
    refine V2_iload_n (i := 2) d_Law_workedOut_154 rfl rfl ?_
    refine V2_iadd d_Law_workedOut_155 ?_
    refine V2_topi (fun v7 ev7 => ?_)
    refine V2_ireturn d_Law_workedOut_156 rfl ?_
    exact xQi hQ (by subst ev7; simp_all [joinS, isSign]) rfl
  by_cases c1_45 : c = 45
  · refine V2_lookup (tgt := 157) d_Law_workedOut_1 (by decide) (by rw [c1_45]; first | done | rfl | decide +kernel) rfl ?_
    refine V2_iload_n (i := 1) d_Law_workedOut_157 rfl rfl ?_
    refine V2_iload_n (i := 2) d_Law_workedOut_158 rfl rfl ?_
    refine V2_isub d_Law_workedOut_159 ?_
    refine V2_topi (fun v8 ev8 => ?_)
    refine V2_ireturn d_Law_workedOut_160 rfl ?_
    exact xQi hQ (by subst ev8; simp_all [joinS, isSign]) rfl
  by_cases c1_47 : c = 47
  · refine V2_lookup (tgt := 165) d_Law_workedOut_1 (by decide) (by rw [c1_47]; first | done | rfl | decide +kernel) rfl ?_
    refine V2_iload_n (i := 2) d_Law_workedOut_165 rfl rfl ?_
    refine V2_if_ne (tgt := 173) d_Law_workedOut_166 rfl (fun c9 => ?_) (fun c9 => ?_)
    · refine V2_iload_n (i := 1) d_Law_workedOut_173 rfl rfl ?_
      refine V2_iload_n (i := 2) d_Law_workedOut_174 rfl rfl ?_
      refine V2_idiv d_Law_workedOut_175 (by assumption) ?_
      refine V2_topi (fun v10 ev10 => ?_)
      refine V2_ireturn d_Law_workedOut_176 rfl ?_
      exact xQi hQ (by subst ev10; simp_all [joinS, isSign]) rfl
    · refine V2_iconst (v := 0) d_Law_workedOut_169 rfl ?_
      refine V2_goto (tgt := 176) d_Law_workedOut_170 rfl ?_
      refine V2_ireturn d_Law_workedOut_176 rfl ?_
      exact xQi hQ (by skip; simp_all [joinS, isSign]) rfl
  by_cases c1_60 : c = 60
  · refine V2_lookup (tgt := 120) d_Law_workedOut_1 (by decide) (by rw [c1_60]; first | done | rfl | decide +kernel) rfl ?_
    refine V2_iload_n (i := 1) d_Law_workedOut_120 rfl rfl ?_
    refine V2_iload_n (i := 2) d_Law_workedOut_121 rfl rfl ?_
    refine V2_icmp_ge (tgt := 129) d_Law_workedOut_122 rfl (fun c11 => ?_) (fun c11 => ?_)
    · refine V2_iconst (v := 0) d_Law_workedOut_129 rfl ?_
      refine V2_ireturn d_Law_workedOut_130 rfl ?_
      exact xQi hQ (by skip; simp_all [joinS, isSign]) rfl
    · refine V2_iconst (v := 1) d_Law_workedOut_125 rfl ?_
      refine V2_goto (tgt := 130) d_Law_workedOut_126 rfl ?_
      refine V2_ireturn d_Law_workedOut_130 rfl ?_
      exact xQi hQ (by skip; simp_all [joinS, isSign]) rfl
  by_cases c1_61 : c = 61
  · refine V2_lookup (tgt := 131) d_Law_workedOut_1 (by decide) (by rw [c1_61]; first | done | rfl | decide +kernel) rfl ?_
    refine V2_iload_n (i := 1) d_Law_workedOut_131 rfl rfl ?_
    refine V2_iload_n (i := 2) d_Law_workedOut_132 rfl rfl ?_
    refine V2_icmp_ne (tgt := 140) d_Law_workedOut_133 rfl (fun c12 => ?_) (fun c12 => ?_)
    · refine V2_iconst (v := 0) d_Law_workedOut_140 rfl ?_
      refine V2_ireturn d_Law_workedOut_141 rfl ?_
      exact xQi hQ (by skip; simp_all [joinS, isSign]) rfl
    · refine V2_iconst (v := 1) d_Law_workedOut_136 rfl ?_
      refine V2_goto (tgt := 141) d_Law_workedOut_137 rfl ?_
      refine V2_ireturn d_Law_workedOut_141 rfl ?_
      exact xQi hQ (by skip; simp_all [joinS, isSign]) rfl
  by_cases c1_62 : c = 62
  · refine V2_lookup (tgt := 142) d_Law_workedOut_1 (by decide) (by rw [c1_62]; first | done | rfl | decide +kernel) rfl ?_
    refine V2_iload_n (i := 1) d_Law_workedOut_142 rfl rfl ?_
    refine V2_iload_n (i := 2) d_Law_workedOut_143 rfl rfl ?_
    refine V2_icmp_le (tgt := 151) d_Law_workedOut_144 rfl (fun c13 => ?_) (fun c13 => ?_)
    · refine V2_iconst (v := 0) d_Law_workedOut_151 rfl ?_
      refine V2_ireturn d_Law_workedOut_152 rfl ?_
      exact xQi hQ (by skip; simp_all [joinS, isSign]) rfl
    · refine V2_iconst (v := 1) d_Law_workedOut_147 rfl ?_
      refine V2_goto (tgt := 152) d_Law_workedOut_148 rfl ?_
      refine V2_ireturn d_Law_workedOut_152 rfl ?_
      exact xQi hQ (by skip; simp_all [joinS, isSign]) rfl
  by_cases c1_124 : c = 124
  · refine V2_lookup (tgt := 92) d_Law_workedOut_1 (by decide) (by rw [c1_124]; first | done | rfl | decide +kernel) rfl ?_
    refine V2_iload_n (i := 1) d_Law_workedOut_92 rfl rfl ?_
    refine V2_if_ne (tgt := 100) d_Law_workedOut_93 rfl (fun c14 => ?_) (fun c14 => ?_)
    · refine V2_iconst (v := 1) d_Law_workedOut_100 rfl ?_
      refine V2_goto (tgt := 105) d_Law_workedOut_101 rfl ?_
      refine V2_ireturn d_Law_workedOut_105 rfl ?_
      exact xQi hQ (by skip; simp_all [joinS, isSign]) rfl
    · refine V2_iload_n (i := 2) d_Law_workedOut_96 rfl rfl ?_
      refine V2_if_eq (tgt := 104) d_Law_workedOut_97 rfl (fun c15 => ?_) (fun c15 => ?_)
      · refine V2_iconst (v := 0) d_Law_workedOut_104 rfl ?_
        refine V2_ireturn d_Law_workedOut_105 rfl ?_
        exact xQi hQ (by skip; simp_all [joinS, isSign]) rfl
      · refine V2_iconst (v := 1) d_Law_workedOut_100 rfl ?_
        refine V2_goto (tgt := 105) d_Law_workedOut_101 rfl ?_
        refine V2_ireturn d_Law_workedOut_105 rfl ?_
        exact xQi hQ (by skip; simp_all [joinS, isSign]) rfl
  refine V2_lookup (tgt := 189) (off := 188) d_Law_workedOut_1 (by decide) (by show Op.lookupswitch.offset [(37, 176), (38, 105), (42, 160), (43, 152), (45, 156), (47, 164), (60, 119), (61, 130), (62, 141), (124, 91)] 188 _ = _; rw [lv_osw (a := 37) c1_37 rfl, lv_osw (a := 38) c1_38 rfl, lv_osw (a := 42) c1_42 rfl, lv_osw (a := 43) c1_43 rfl, lv_osw (a := 45) c1_45 rfl, lv_osw (a := 47) c1_47 rfl, lv_osw (a := 60) c1_60 rfl, lv_osw (a := 61) c1_61 rfl, lv_osw (a := 62) c1_62 rfl, lv_osw (a := 124) c1_124 rfl]; rfl) rfl ?_
  refine V2_iconst (v := 0) d_Law_workedOut_189 rfl ?_
  refine V2_ireturn d_Law_workedOut_190 rfl ?_
  exact xQi hQ (by skip; simp_all [joinS, isSign]) rfl
theorem c_Law_valueOf {L : Nat} {xs : Nat → Int32} {d : Nat} {Q : Option Value → xF → Prop} {F : xF} {v a b c : Int32}  (hQ : Q (some (.int (if v = -1 then a else if v = -2 then b else c))) F) : V2 L xs d m_Law_valueOf 0 (xEntry [.int v, .int a, .int b, .int c] 4) [] F Q := by
  refine V2.to (l' := [some (.int v), some (.int a), some (.int b), some (.int c)]) ?_ rfl rfl rfl rfl
  refine V2_iload_n (i := 0) d_Law_valueOf_0 rfl rfl ?_
  refine V2_iconst (v := -1) d_Law_valueOf_1 rfl ?_
  refine V2_icmp_ne (tgt := 9) d_Law_valueOf_2 rfl (fun c1 => ?_) (fun c1 => ?_)
  · refine V2_iload_n (i := 0) d_Law_valueOf_9 rfl rfl ?_
    refine V2_bipush (v := -2) d_Law_valueOf_10 rfl ?_
    refine V2_icmp_ne (tgt := 19) d_Law_valueOf_12 rfl (fun c2 => ?_) (fun c2 => ?_)
    · refine V2_iload_n (i := 3) d_Law_valueOf_19 rfl rfl ?_
      refine V2_ireturn d_Law_valueOf_20 rfl ?_
      exact xQi hQ (by skip; simp_all) rfl
    · refine V2_iload_n (i := 2) d_Law_valueOf_15 rfl rfl ?_
      refine V2_goto (tgt := 20) d_Law_valueOf_16 rfl ?_
      refine V2_ireturn d_Law_valueOf_20 rfl ?_
      exact xQi hQ (by skip; simp_all) rfl
  · refine V2_iload_n (i := 1) d_Law_valueOf_5 rfl rfl ?_
    refine V2_goto (tgt := 20) d_Law_valueOf_6 rfl ?_
    refine V2_ireturn d_Law_valueOf_20 rfl ?_
    exact xQi hQ (by skip; simp_all) rfl
theorem c_Law_byText8_loop {L : Nat} {xs : Nat → Int32} {d : Nat} {Q : Option Value → xF → Prop} {F : xF} {n : Nat} {a b c : Int32} {wh vl : Nat → Int32} (hn : F 8 3 = nI n) (hok : okText 0 n wh vl) (hc : ∀ k, k < n → F 9 k = encT (wh k) (vl k)) (hQ : Q (some (.int (runT (nmS a b c) wh vl (F 10) n 0))) (xrw F 10 (runT (nmS a b c) wh vl (F 10) n))) : ∀ (n_ : Nat) (k : Nat), k ≤ n → n < n_ + k → V2 L xs (d + 2) m_Law_byText 6 [some (.ref 8), some (.int a), some (.int b), some (.int c), some (.int (nI (depT wh k))), some (.int (nI k)), none] [] (xrw F 10 (runT (nmS a b c) wh vl (F 10) k)) Q := by
  intro n_
  induction n_ with
  | zero => exact fun k h1 h2 => absurd h2 (by omega)
  | succ n_ ih =>
    intro k h1 h2
    have h60 : n ≤ 60 := hok.1
    refine V2_iload (i := 5) d_Law_byText_6 rfl ?_
    refine V2_aload_n (i := 0) d_Law_byText_8 rfl rfl ?_
    refine V2_get (v := F 8 (3)) d_Law_byText_9 fl_Law_16 (by decide) rfl (by decide) rfl rfl ?_
    refine V2_topi (fun v1 ev1 => ?_)
    refine V2_icmp_ge (tgt := 190) d_Law_byText_12 rfl (fun c2 => ?_) (fun c2 => ?_)
    · have hkn : k = n := by
        have h9 := c2
        subst ev1
        rw [hn] at h9
        exact Nat.le_antisymm h1 ((nI_leI (by omega) (by omega)).mp h9)
      refine V2_iload (i := 4) d_Law_byText_190 rfl ?_
      refine V2_iconst (v := 1) d_Law_byText_192 rfl ?_
      refine V2_icmp_lt (tgt := 205) d_Law_byText_193 rfl (fun c3 => (by first | exact absurd c3 (show ¬ nI (depT wh k) < 1 from nI_nlt (a := depT wh k) (b := 1) (by rw [hkn]; exact hok.2.2) (by have := depT_le wh k; omega)) | exact absurd (show ¬ nI (depT wh k) < 1 from nI_nlt (a := depT wh k) (b := 1) (by rw [hkn]; exact hok.2.2) (by have := depT_le wh k; omega)) c3)) (fun c3 => ?_)
      refine V2_aload_n (i := 0) d_Law_byText_196 rfl rfl ?_
      refine V2_getr (a := 10) d_Law_byText_197 fl_Law_13 (by decide) rfl (by decide) rfl ?_
      refine V2_iconst (v := 0) d_Law_byText_200 rfl ?_
      refine V2_iaload (v := (runT (nmS a b c) wh vl (F 10) k) (0)) d_Law_byText_201 (by decide) rfl (xixA (n := 0) rfl (by decide) (by decide)) rfl ?_
      refine V2_topi (fun v4 ev4 => ?_)
      refine V2_goto (tgt := 206) d_Law_byText_202 rfl ?_
      refine V2_ireturn d_Law_byText_206 rfl ?_
      subst hkn
      exact xQi hQ (by subst ev4 ev1; rfl) rfl
    · have hlt : k < n := Nat.not_le.mp (fun hh => c2 (by subst ev1; rw [hn]; exact (nI_leI (by omega) (by omega)).mpr hh))
      have hokk := hok.2.1 k hlt
      have hdk := depT_le wh k
      have hck := hc k hlt
      refine V2_iload (i := 5) d_Law_byText_15 rfl ?_
      refine V2_aload_n (i := 0) d_Law_byText_17 rfl rfl ?_
      refine V2_getr (a := 9) d_Law_byText_18 fl_Law_9 (by decide) rfl (by decide) rfl ?_
      refine V2_alen (t := 0) (v := 60) d_Law_byText_21 (by decide) rfl (by decide) rfl ?_
      refine V2_icmp_ge (tgt := 190) d_Law_byText_22 rfl (fun c5 => (by first | exact absurd c5 (show ¬ (60 : Int32) ≤ nI k from nI_ge (b := 60) (by omega) (by decide)) | exact absurd (show ¬ (60 : Int32) ≤ nI k from nI_ge (b := 60) (by omega) (by decide)) c5)) (fun c5 => ?_)
      refine V2_aload_n (i := 0) d_Law_byText_25 rfl rfl ?_
      refine V2_getr (a := 9) d_Law_byText_26 fl_Law_9 (by decide) rfl (by decide) rfl ?_
      refine V2_iload (i := 5) d_Law_byText_29 rfl ?_
      refine V2_ialoadJ (v := F 9 ((k))) (k) d_Law_byText_31 (by decide) rfl (xixA (n := k) (by subst ev1; rfl) (by omega) (by decide)) (xixB (n := k) (by subst ev1; rfl) (by omega)) rfl ?_
      refine V2_topi (fun v6 ev6 => ?_)
      refine V2_istore (i := 6) (l' := [some (.ref 8), some (.int a), some (.int b), some (.int c), some (.int (nI (depT wh k))), some (.int (nI k)), some (.int v6)]) d_Law_byText_32 (xst_i (Nat.le_of_ble_eq_true rfl) rfl rfl) ?_
      rcases hokk with ⟨hw, hv0, hv9⟩ | ⟨hw, hnm⟩ | ⟨hw, hd1⟩ | ⟨hw, hd2, hsg⟩
      · refine V2_iload (i := 6) d_Law_byText_34 rfl ?_
        refine V2_bipush (v := -3) d_Law_byText_36 rfl ?_
        have hsv : v6 = vl k := by subst ev6 ev1; exact hck.trans (encT_0 hw)
        refine V2_icmp_lt (tgt := 82) d_Law_byText_38 rfl (fun c7 => (by first | exact absurd c7 (show ¬ v6 < -3 from by rw [hsv]; exact i32_nlt3 hv0) | exact absurd (show ¬ v6 < -3 from by rw [hsv]; exact i32_nlt3 hv0) c7)) (fun c7 => ?_)
        refine V2_iload (i := 4) d_Law_byText_41 rfl ?_
        refine V2_aload_n (i := 0) d_Law_byText_43 rfl rfl ?_
        refine V2_getr (a := 10) d_Law_byText_44 fl_Law_13 (by decide) rfl (by decide) rfl ?_
        refine V2_alen (t := 0) (v := 60) d_Law_byText_47 (by decide) rfl (by decide) rfl ?_
        refine V2_icmp_ge (tgt := 184) d_Law_byText_48 rfl (fun c8 => (by first | exact absurd c8 (show ¬ (60 : Int32) ≤ nI (depT wh k) from nI_ge (b := 60) (by omega) (by decide)) | exact absurd (show ¬ (60 : Int32) ≤ nI (depT wh k) from nI_ge (b := 60) (by omega) (by decide)) c8)) (fun c8 => ?_)
        refine V2_aload_n (i := 0) d_Law_byText_51 rfl rfl ?_
        refine V2_getr (a := 10) d_Law_byText_52 fl_Law_13 (by decide) rfl (by decide) rfl ?_
        refine V2_iload (i := 4) d_Law_byText_55 rfl ?_
        refine V2_iload (i := 6) d_Law_byText_57 rfl ?_
        refine V2_if_lt (tgt := 67) d_Law_byText_59 rfl (fun c9 => (by first | exact absurd c9 (show ¬ v6 < 0 from by rw [hsv]; exact Int32.not_lt.mpr hv0) | exact absurd (show ¬ v6 < 0 from by rw [hsv]; exact Int32.not_lt.mpr hv0) c9)) (fun c9 => ?_)
        refine V2_iload (i := 6) d_Law_byText_62 rfl ?_
        refine V2_goto (tgt := 75) d_Law_byText_64 rfl ?_
        refine V2_iastore (j := (depT wh k)) d_Law_byText_75 (by decide) rfl (xixA (n := depT wh k) (by subst ev6 ev1; rfl) (by omega) (by decide)) (xixB (n := depT wh k) (by subst ev6 ev1; rfl) (by omega)) ?_
        obtain ⟨v10, ev10⟩ : ∃ y : Int32, y = nI (depT wh k) + 1 := ⟨_, rfl⟩
        refine V2_iinc (i := 4) (v := v10) (l' := [some (.ref 8), some (.int a), some (.int b), some (.int c), some (.int v10), some (.int (nI k)), some (.int v6)]) d_Law_byText_76 rfl (by rw [ev10]; rfl) (xst_i (Nat.le_of_ble_eq_true rfl) rfl rfl) ?_
        refine V2_goto (tgt := 184) d_Law_byText_79 rfl ?_
        obtain ⟨v11, ev11⟩ : ∃ y : Int32, y = nI k + 1 := ⟨_, rfl⟩
        refine V2_iinc (i := 5) (v := v11) (l' := [some (.ref 8), some (.int a), some (.int b), some (.int c), some (.int v10), some (.int v11), some (.int v6)]) d_Law_byText_184 rfl (by rw [ev11]; rfl) (xst_i (Nat.le_of_ble_eq_true rfl) rfl rfl) ?_
        refine V2_goto (tgt := 6) d_Law_byText_187 rfl ?_
        have hn' : v10 = nI (depT wh (k + 1)) := by rw [depT_0 hw]; subst ev11 ev10 ev6 ev1; exact nI_1 _
        have hk' : v11 = nI (k + 1) := by subst ev11 ev10 ev6 ev1; exact nI_1 _
        rw [hn', hk']
        refine V2.weak (l' := [some (.ref 8), some (.int a), some (.int b), some (.int c), some (.int (nI (depT wh (k + 1)))), some (.int (nI (k + 1))), none]) ?_ ⟨rfl, rfl, rfl, rfl, rfl, rfl, trivial⟩
        exact V2.to (ih (k + 1) (by omega) (by omega)) rfl rfl rfl (by rw [xp_xrw, runT_s, stepT_0 hw, hsv])
      · refine V2_iload (i := 6) d_Law_byText_34 rfl ?_
        refine V2_bipush (v := -3) d_Law_byText_36 rfl ?_
        have hsv : v6 = (if vl k = 100 then (-2 : Int32) else if vl k = 105 ∨ vl k = 104 then -1 else -3) := by subst ev6 ev1; exact hck.trans (encT_1 hw)
        refine V2_icmp_lt (tgt := 82) d_Law_byText_38 rfl (fun c12 => (by first | exact absurd c12 (show ¬ v6 < -3 from by rw [hsv]; exact (enc1_range _).1) | exact absurd (show ¬ v6 < -3 from by rw [hsv]; exact (enc1_range _).1) c12)) (fun c12 => ?_)
        refine V2_iload (i := 4) d_Law_byText_41 rfl ?_
        refine V2_aload_n (i := 0) d_Law_byText_43 rfl rfl ?_
        refine V2_getr (a := 10) d_Law_byText_44 fl_Law_13 (by decide) rfl (by decide) rfl ?_
        refine V2_alen (t := 0) (v := 60) d_Law_byText_47 (by decide) rfl (by decide) rfl ?_
        refine V2_icmp_ge (tgt := 184) d_Law_byText_48 rfl (fun c13 => (by first | exact absurd c13 (show ¬ (60 : Int32) ≤ nI (depT wh k) from nI_ge (b := 60) (by omega) (by decide)) | exact absurd (show ¬ (60 : Int32) ≤ nI (depT wh k) from nI_ge (b := 60) (by omega) (by decide)) c13)) (fun c13 => ?_)
        refine V2_aload_n (i := 0) d_Law_byText_51 rfl rfl ?_
        refine V2_getr (a := 10) d_Law_byText_52 fl_Law_13 (by decide) rfl (by decide) rfl ?_
        refine V2_iload (i := 4) d_Law_byText_55 rfl ?_
        refine V2_iload (i := 6) d_Law_byText_57 rfl ?_
        refine V2_if_lt (tgt := 67) d_Law_byText_59 rfl (fun c14 => ?_) (fun c14 => (by first | exact absurd (show v6 < 0 from by rw [hsv]; exact (enc1_range _).2) c14 | exact absurd c14 (show v6 < 0 from by rw [hsv]; exact (enc1_range _).2)))
        refine V2_iload (i := 6) d_Law_byText_67 rfl ?_
        refine V2_iload_n (i := 1) d_Law_byText_69 rfl rfl ?_
        refine V2_iload_n (i := 2) d_Law_byText_70 rfl rfl ?_
        refine V2_iload_n (i := 3) d_Law_byText_71 rfl rfl ?_
        refine V2_callS [.int v6, .int a, .int b, .int c] d_Law_byText_72 rfl rfl lk_Law_61 mo_Law_valueOf (Nat.le_of_ble_eq_true rfl) (Nat.le_of_ble_eq_true rfl) ?_
        refine c_Law_valueOf ?_
        refine V2_topi (fun v15 ev15 => ?_)
        refine V2_iastore (j := (depT wh k)) d_Law_byText_75 (by decide) rfl (xixA (n := depT wh k) (by subst ev15 ev6 ev1; rfl) (by omega) (by decide)) (xixB (n := depT wh k) (by subst ev15 ev6 ev1; rfl) (by omega)) ?_
        obtain ⟨v16, ev16⟩ : ∃ y : Int32, y = nI (depT wh k) + 1 := ⟨_, rfl⟩
        refine V2_iinc (i := 4) (v := v16) (l' := [some (.ref 8), some (.int a), some (.int b), some (.int c), some (.int v16), some (.int (nI k)), some (.int v6)]) d_Law_byText_76 rfl (by rw [ev16]; rfl) (xst_i (Nat.le_of_ble_eq_true rfl) rfl rfl) ?_
        refine V2_goto (tgt := 184) d_Law_byText_79 rfl ?_
        obtain ⟨v17, ev17⟩ : ∃ y : Int32, y = nI k + 1 := ⟨_, rfl⟩
        refine V2_iinc (i := 5) (v := v17) (l' := [some (.ref 8), some (.int a), some (.int b), some (.int c), some (.int v16), some (.int v17), some (.int v6)]) d_Law_byText_184 rfl (by rw [ev17]; rfl) (xst_i (Nat.le_of_ble_eq_true rfl) rfl rfl) ?_
        refine V2_goto (tgt := 6) d_Law_byText_187 rfl ?_
        have hn' : v16 = nI (depT wh (k + 1)) := by rw [depT_1 hw]; subst ev17 ev16 ev15 ev6 ev1; exact nI_1 _
        have hk' : v17 = nI (k + 1) := by subst ev17 ev16 ev15 ev6 ev1; exact nI_1 _
        rw [hn', hk']
        refine V2.weak (l' := [some (.ref 8), some (.int a), some (.int b), some (.int c), some (.int (nI (depT wh (k + 1)))), some (.int (nI (k + 1))), none]) ?_ ⟨rfl, rfl, rfl, rfl, rfl, rfl, trivial⟩
        exact V2.to (ih (k + 1) (by omega) (by omega)) rfl rfl rfl (by rw [xp_xrw, runT_s, stepT_1 hw, show v15 = nmS a b c (vl k) from by subst ev15; rw [hsv]; exact enc1_val a b c (vl k)])
      · refine V2_iload (i := 6) d_Law_byText_34 rfl ?_
        refine V2_bipush (v := -3) d_Law_byText_36 rfl ?_
        have hsv : v6 = -33 := by subst ev6 ev1; exact hck.trans (encT_2 hw)
        refine V2_icmp_lt (tgt := 82) d_Law_byText_38 rfl (fun c18 => ?_) (fun c18 => (by first | exact absurd (show v6 < -3 from by rw [hsv]; decide) c18 | exact absurd c18 (show v6 < -3 from by rw [hsv]; decide)))
        refine V2_iload (i := 6) d_Law_byText_82 rfl ?_
        refine V2_bipush (v := -33) d_Law_byText_84 rfl ?_
        refine V2_icmp_ne (tgt := 134) d_Law_byText_86 rfl (fun c19 => (by first | exact absurd c19 (show v6 = -33 from hsv) | exact absurd (show v6 = -33 from hsv) c19)) (fun c19 => ?_)
        refine V2_iload (i := 4) d_Law_byText_89 rfl ?_
        refine V2_iconst (v := 1) d_Law_byText_91 rfl ?_
        refine V2_icmp_lt (tgt := 184) d_Law_byText_92 rfl (fun c20 => (by first | exact absurd c20 (show ¬ nI (depT wh k) < 1 from nI_nlt (a := depT wh k) (b := 1) hd1 (by omega)) | exact absurd (show ¬ nI (depT wh k) < 1 from nI_nlt (a := depT wh k) (b := 1) hd1 (by omega)) c20)) (fun c20 => ?_)
        refine V2_iload (i := 4) d_Law_byText_95 rfl ?_
        refine V2_aload_n (i := 0) d_Law_byText_97 rfl rfl ?_
        refine V2_getr (a := 10) d_Law_byText_98 fl_Law_13 (by decide) rfl (by decide) rfl ?_
        refine V2_alen (t := 0) (v := 60) d_Law_byText_101 (by decide) rfl (by decide) rfl ?_
        refine V2_icmp_gt (tgt := 184) d_Law_byText_102 rfl (fun c21 => (by first | exact absurd c21 (show ¬ (60 : Int32) < nI (depT wh k) from nI_nlt (a := 60) (b := depT wh k) (by omega) (by decide)) | exact absurd (show ¬ (60 : Int32) < nI (depT wh k) from nI_nlt (a := 60) (b := depT wh k) (by omega) (by decide)) c21)) (fun c21 => ?_)
        refine V2_aload_n (i := 0) d_Law_byText_105 rfl rfl ?_
        refine V2_getr (a := 10) d_Law_byText_106 fl_Law_13 (by decide) rfl (by decide) rfl ?_
        refine V2_iload (i := 4) d_Law_byText_109 rfl ?_
        refine V2_iconst (v := 1) d_Law_byText_111 rfl ?_
        refine V2_isub d_Law_byText_112 ?_
        refine V2_topi (fun v22 ev22 => ?_)
        refine V2_aload_n (i := 0) d_Law_byText_113 rfl rfl ?_
        refine V2_getr (a := 10) d_Law_byText_114 fl_Law_13 (by decide) rfl (by decide) rfl ?_
        refine V2_iload (i := 4) d_Law_byText_117 rfl ?_
        refine V2_iconst (v := 1) d_Law_byText_119 rfl ?_
        refine V2_isub d_Law_byText_120 ?_
        refine V2_topi (fun v23 ev23 => ?_)
        refine V2_ialoadJ (v := (runT (nmS a b c) wh vl (F 10) k) ((depT wh k - 1))) (depT wh k - 1) d_Law_byText_121 (by decide) rfl (xixA (n := depT wh k - 1) (by subst ev23 ev22 ev6 ev1; exact nI_sub1 (by omega)) (by omega) (by decide)) (xixB (n := depT wh k - 1) (by subst ev23 ev22 ev6 ev1; exact nI_sub1 (by omega)) (by omega)) rfl ?_
        refine V2_topi (fun v24 ev24 => ?_)
        refine V2_if_ne (tgt := 129) d_Law_byText_122 rfl (fun c25 => ?_) (fun c25 => ?_)
        · refine V2_iconst (v := 0) d_Law_byText_129 rfl ?_
          refine V2_iastore (j := (depT wh k - 1)) d_Law_byText_130 (by decide) rfl (xixA (n := depT wh k - 1) (by subst ev24 ev23 ev22 ev6 ev1; exact nI_sub1 (by omega)) (by omega) (by decide)) (xixB (n := depT wh k - 1) (by subst ev24 ev23 ev22 ev6 ev1; exact nI_sub1 (by omega)) (by omega)) ?_
          refine V2_goto (tgt := 184) d_Law_byText_131 rfl ?_
          obtain ⟨v26, ev26⟩ : ∃ y : Int32, y = nI k + 1 := ⟨_, rfl⟩
          refine V2_iinc (i := 5) (v := v26) (l' := [some (.ref 8), some (.int a), some (.int b), some (.int c), some (.int (nI (depT wh k))), some (.int v26), some (.int v6)]) d_Law_byText_184 rfl (by rw [ev26]; rfl) (xst_i (Nat.le_of_ble_eq_true rfl) rfl rfl) ?_
          refine V2_goto (tgt := 6) d_Law_byText_187 rfl ?_
          have hn' : nI (depT wh k) = nI (depT wh (k + 1)) := by rw [depT_2 hw]
          have hk' : v26 = nI (k + 1) := by subst ev26 ev24 ev23 ev22 ev6 ev1; exact nI_1 _
          rw [hn', hk']
          refine V2.weak (l' := [some (.ref 8), some (.int a), some (.int b), some (.int c), some (.int (nI (depT wh (k + 1)))), some (.int (nI (k + 1))), none]) ?_ ⟨rfl, rfl, rfl, rfl, rfl, rfl, trivial⟩
          exact V2.to (ih (k + 1) (by omega) (by omega)) rfl rfl rfl (by rw [xp_xrw, runT_s, stepT_2 hw]; subst ev26 ev24 ev23 ev22 ev6 ev1; simp_all)
        · refine V2_iconst (v := 1) d_Law_byText_125 rfl ?_
          refine V2_goto (tgt := 130) d_Law_byText_126 rfl ?_
          refine V2_iastore (j := (depT wh k - 1)) d_Law_byText_130 (by decide) rfl (xixA (n := depT wh k - 1) (by subst ev24 ev23 ev22 ev6 ev1; exact nI_sub1 (by omega)) (by omega) (by decide)) (xixB (n := depT wh k - 1) (by subst ev24 ev23 ev22 ev6 ev1; exact nI_sub1 (by omega)) (by omega)) ?_
          refine V2_goto (tgt := 184) d_Law_byText_131 rfl ?_
          obtain ⟨v27, ev27⟩ : ∃ y : Int32, y = nI k + 1 := ⟨_, rfl⟩
          refine V2_iinc (i := 5) (v := v27) (l' := [some (.ref 8), some (.int a), some (.int b), some (.int c), some (.int (nI (depT wh k))), some (.int v27), some (.int v6)]) d_Law_byText_184 rfl (by rw [ev27]; rfl) (xst_i (Nat.le_of_ble_eq_true rfl) rfl rfl) ?_
          refine V2_goto (tgt := 6) d_Law_byText_187 rfl ?_
          have hn' : nI (depT wh k) = nI (depT wh (k + 1)) := by rw [depT_2 hw]
          have hk' : v27 = nI (k + 1) := by subst ev27 ev24 ev23 ev22 ev6 ev1; exact nI_1 _
          rw [hn', hk']
          refine V2.weak (l' := [some (.ref 8), some (.int a), some (.int b), some (.int c), some (.int (nI (depT wh (k + 1)))), some (.int (nI (k + 1))), none]) ?_ ⟨rfl, rfl, rfl, rfl, rfl, rfl, trivial⟩
          exact V2.to (ih (k + 1) (by omega) (by omega)) rfl rfl rfl (by rw [xp_xrw, runT_s, stepT_2 hw]; subst ev27 ev24 ev23 ev22 ev6 ev1; simp_all)
      · refine V2_iload (i := 6) d_Law_byText_34 rfl ?_
        refine V2_bipush (v := -3) d_Law_byText_36 rfl ?_
        have hsv : v6 = -vl k := by subst ev6 ev1; exact hck.trans (encT_3 hw)
        refine V2_icmp_lt (tgt := 82) d_Law_byText_38 rfl (fun c28 => ?_) (fun c28 => (by first | exact absurd (show v6 < -3 from by rw [hsv]; exact (isSign_neg hsg).1) c28 | exact absurd c28 (show v6 < -3 from by rw [hsv]; exact (isSign_neg hsg).1)))
        refine V2_iload (i := 6) d_Law_byText_82 rfl ?_
        refine V2_bipush (v := -33) d_Law_byText_84 rfl ?_
        refine V2_icmp_ne (tgt := 134) d_Law_byText_86 rfl (fun c29 => ?_) (fun c29 => (by first | exact absurd (show ¬ v6 = -33 from by rw [hsv]; exact (isSign_neg hsg).2.1) c29 | exact absurd c29 (show ¬ v6 = -33 from by rw [hsv]; exact (isSign_neg hsg).2.1)))
        refine V2_iload (i := 4) d_Law_byText_134 rfl ?_
        refine V2_iconst (v := 2) d_Law_byText_136 rfl ?_
        refine V2_icmp_lt (tgt := 184) d_Law_byText_137 rfl (fun c30 => (by first | exact absurd c30 (show ¬ nI (depT wh k) < 2 from nI_nlt (a := depT wh k) (b := 2) hd2 (by omega)) | exact absurd (show ¬ nI (depT wh k) < 2 from nI_nlt (a := depT wh k) (b := 2) hd2 (by omega)) c30)) (fun c30 => ?_)
        refine V2_iload (i := 4) d_Law_byText_140 rfl ?_
        refine V2_aload_n (i := 0) d_Law_byText_142 rfl rfl ?_
        refine V2_getr (a := 10) d_Law_byText_143 fl_Law_13 (by decide) rfl (by decide) rfl ?_
        refine V2_alen (t := 0) (v := 60) d_Law_byText_146 (by decide) rfl (by decide) rfl ?_
        refine V2_icmp_gt (tgt := 184) d_Law_byText_147 rfl (fun c31 => (by first | exact absurd c31 (show ¬ (60 : Int32) < nI (depT wh k) from nI_nlt (a := 60) (b := depT wh k) (by omega) (by decide)) | exact absurd (show ¬ (60 : Int32) < nI (depT wh k) from nI_nlt (a := 60) (b := depT wh k) (by omega) (by decide)) c31)) (fun c31 => ?_)
        obtain ⟨v32, ev32⟩ : ∃ y : Int32, y = nI (depT wh k) + -1 := ⟨_, rfl⟩
        refine V2_iinc (i := 4) (v := v32) (l' := [some (.ref 8), some (.int a), some (.int b), some (.int c), some (.int v32), some (.int (nI k)), some (.int v6)]) d_Law_byText_150 rfl (by rw [ev32]; rfl) (xst_i (Nat.le_of_ble_eq_true rfl) rfl rfl) ?_
        refine V2_aload_n (i := 0) d_Law_byText_153 rfl rfl ?_
        refine V2_getr (a := 10) d_Law_byText_154 fl_Law_13 (by decide) rfl (by decide) rfl ?_
        refine V2_iload (i := 4) d_Law_byText_157 rfl ?_
        refine V2_iconst (v := 1) d_Law_byText_159 rfl ?_
        refine V2_isub d_Law_byText_160 ?_
        refine V2_topi (fun v33 ev33 => ?_)
        refine V2_iload (i := 6) d_Law_byText_161 rfl ?_
        refine V2_ineg d_Law_byText_163 ?_
        refine V2_topi (fun v34 ev34 => ?_)
        refine V2_aload_n (i := 0) d_Law_byText_164 rfl rfl ?_
        refine V2_getr (a := 10) d_Law_byText_165 fl_Law_13 (by decide) rfl (by decide) rfl ?_
        refine V2_iload (i := 4) d_Law_byText_168 rfl ?_
        refine V2_iconst (v := 1) d_Law_byText_170 rfl ?_
        refine V2_isub d_Law_byText_171 ?_
        refine V2_topi (fun v35 ev35 => ?_)
        refine V2_ialoadJ (v := (runT (nmS a b c) wh vl (F 10) k) ((depT wh k - 2))) (depT wh k - 2) d_Law_byText_172 (by decide) rfl (xixA (n := depT wh k - 2) (by subst ev35 ev34 ev33 ev32 ev6 ev1; rw [nI_add_m1 (by omega), nI_sub1 (by omega)]; rfl) (by omega) (by decide)) (xixB (n := depT wh k - 2) (by subst ev35 ev34 ev33 ev32 ev6 ev1; rw [nI_add_m1 (by omega), nI_sub1 (by omega)]; rfl) (by omega)) rfl ?_
        refine V2_topi (fun v36 ev36 => ?_)
        refine V2_aload_n (i := 0) d_Law_byText_173 rfl rfl ?_
        refine V2_getr (a := 10) d_Law_byText_174 fl_Law_13 (by decide) rfl (by decide) rfl ?_
        refine V2_iload (i := 4) d_Law_byText_177 rfl ?_
        refine V2_ialoadJ (v := (runT (nmS a b c) wh vl (F 10) k) ((depT wh k - 1))) (depT wh k - 1) d_Law_byText_179 (by decide) rfl (xixA (n := depT wh k - 1) (by subst ev36 ev35 ev34 ev33 ev32 ev6 ev1; exact nI_add_m1 (by omega)) (by omega) (by decide)) (xixB (n := depT wh k - 1) (by subst ev36 ev35 ev34 ev33 ev32 ev6 ev1; exact nI_add_m1 (by omega)) (by omega)) rfl ?_
        refine V2_topi (fun v37 ev37 => ?_)
        refine V2_callS [.int v34, .int v36, .int v37] d_Law_byText_180 rfl rfl lk_Law_65 mo_Law_workedOut (Nat.le_of_ble_eq_true rfl) (Nat.le_of_ble_eq_true rfl) ?_
        have hcs : v34 = vl k := by rw [ev34, hsv, (isSign_neg hsg).2.2]
        rw [hcs]
        refine c_Law_workedOut hsg ?_
        refine V2_topi (fun v38 ev38 => ?_)
        refine V2_iastore (j := (depT wh k - 2)) d_Law_byText_183 (by decide) rfl (xixA (n := depT wh k - 2) (by subst ev38 ev37 ev36 ev35 ev34 ev33 ev32 ev6 ev1; rw [nI_add_m1 (by omega), nI_sub1 (by omega)]; rfl) (by omega) (by decide)) (xixB (n := depT wh k - 2) (by subst ev38 ev37 ev36 ev35 ev34 ev33 ev32 ev6 ev1; rw [nI_add_m1 (by omega), nI_sub1 (by omega)]; rfl) (by omega)) ?_
        obtain ⟨v39, ev39⟩ : ∃ y : Int32, y = nI k + 1 := ⟨_, rfl⟩
        refine V2_iinc (i := 5) (v := v39) (l' := [some (.ref 8), some (.int a), some (.int b), some (.int c), some (.int v32), some (.int v39), some (.int v6)]) d_Law_byText_184 rfl (by rw [ev39]; rfl) (xst_i (Nat.le_of_ble_eq_true rfl) rfl rfl) ?_
        refine V2_goto (tgt := 6) d_Law_byText_187 rfl ?_
        have hn' : v32 = nI (depT wh (k + 1)) := by rw [depT_3 hw]; subst ev39 ev38 ev37 ev36 ev35 ev34 ev33 ev32 ev6 ev1; exact nI_add_m1 (by omega)
        have hk' : v39 = nI (k + 1) := by subst ev39 ev38 ev37 ev36 ev35 ev34 ev33 ev32 ev6 ev1; exact nI_1 _
        rw [hn', hk']
        refine V2.weak (l' := [some (.ref 8), some (.int a), some (.int b), some (.int c), some (.int (nI (depT wh (k + 1)))), some (.int (nI (k + 1))), none]) ?_ ⟨rfl, rfl, rfl, rfl, rfl, rfl, trivial⟩
        exact V2.to (ih (k + 1) (by omega) (by omega)) rfl rfl rfl (by rw [xp_xrw, runT_s, stepT_3 hw]; subst ev39 ev38 ev37 ev36 ev35 ev34 ev33 ev32 ev6 ev1; rfl)
theorem c_Law_byText11_loop {L : Nat} {xs : Nat → Int32} {d : Nat} {Q : Option Value → xF → Prop} {F : xF} {n : Nat} {a b c : Int32} {wh vl : Nat → Int32} (hn : F 11 3 = nI n) (hok : okText 1 n wh vl) (hc : ∀ k, k < n → F 12 k = encT (wh k) (vl k)) (hQ : Q (some (.int (runT (nmS a b c) wh vl (F 13) n 0))) (xrw F 13 (runT (nmS a b c) wh vl (F 13) n))) : ∀ (n_ : Nat) (k : Nat), k ≤ n → n < n_ + k → V2 L xs (d + 2) m_Law_byText 6 [some (.ref 11), some (.int a), some (.int b), some (.int c), some (.int (nI (depT wh k))), some (.int (nI k)), none] [] (xrw F 13 (runT (nmS a b c) wh vl (F 13) k)) Q := by
  intro n_
  induction n_ with
  | zero => exact fun k h1 h2 => absurd h2 (by omega)
  | succ n_ ih =>
    intro k h1 h2
    have h60 : n ≤ 60 := hok.1
    refine V2_iload (i := 5) d_Law_byText_6 rfl ?_
    refine V2_aload_n (i := 0) d_Law_byText_8 rfl rfl ?_
    refine V2_get (v := F 11 (3)) d_Law_byText_9 fl_Law_16 (by decide) rfl (by decide) rfl rfl ?_
    refine V2_topi (fun v1 ev1 => ?_)
    refine V2_icmp_ge (tgt := 190) d_Law_byText_12 rfl (fun c2 => ?_) (fun c2 => ?_)
    · have hkn : k = n := by
        have h9 := c2
        subst ev1
        rw [hn] at h9
        exact Nat.le_antisymm h1 ((nI_leI (by omega) (by omega)).mp h9)
      refine V2_iload (i := 4) d_Law_byText_190 rfl ?_
      refine V2_iconst (v := 1) d_Law_byText_192 rfl ?_
      refine V2_icmp_lt (tgt := 205) d_Law_byText_193 rfl (fun c3 => (by first | exact absurd c3 (show ¬ nI (depT wh k) < 1 from nI_nlt (a := depT wh k) (b := 1) (by rw [hkn]; exact hok.2.2) (by have := depT_le wh k; omega)) | exact absurd (show ¬ nI (depT wh k) < 1 from nI_nlt (a := depT wh k) (b := 1) (by rw [hkn]; exact hok.2.2) (by have := depT_le wh k; omega)) c3)) (fun c3 => ?_)
      refine V2_aload_n (i := 0) d_Law_byText_196 rfl rfl ?_
      refine V2_getr (a := 13) d_Law_byText_197 fl_Law_13 (by decide) rfl (by decide) rfl ?_
      refine V2_iconst (v := 0) d_Law_byText_200 rfl ?_
      refine V2_iaload (v := (runT (nmS a b c) wh vl (F 13) k) (0)) d_Law_byText_201 (by decide) rfl (xixA (n := 0) rfl (by decide) (by decide)) rfl ?_
      refine V2_topi (fun v4 ev4 => ?_)
      refine V2_goto (tgt := 206) d_Law_byText_202 rfl ?_
      refine V2_ireturn d_Law_byText_206 rfl ?_
      subst hkn
      exact xQi hQ (by subst ev4 ev1; rfl) rfl
    · have hlt : k < n := Nat.not_le.mp (fun hh => c2 (by subst ev1; rw [hn]; exact (nI_leI (by omega) (by omega)).mpr hh))
      have hokk := hok.2.1 k hlt
      have hdk := depT_le wh k
      have hck := hc k hlt
      refine V2_iload (i := 5) d_Law_byText_15 rfl ?_
      refine V2_aload_n (i := 0) d_Law_byText_17 rfl rfl ?_
      refine V2_getr (a := 12) d_Law_byText_18 fl_Law_9 (by decide) rfl (by decide) rfl ?_
      refine V2_alen (t := 0) (v := 60) d_Law_byText_21 (by decide) rfl (by decide) rfl ?_
      refine V2_icmp_ge (tgt := 190) d_Law_byText_22 rfl (fun c5 => (by first | exact absurd c5 (show ¬ (60 : Int32) ≤ nI k from nI_ge (b := 60) (by omega) (by decide)) | exact absurd (show ¬ (60 : Int32) ≤ nI k from nI_ge (b := 60) (by omega) (by decide)) c5)) (fun c5 => ?_)
      refine V2_aload_n (i := 0) d_Law_byText_25 rfl rfl ?_
      refine V2_getr (a := 12) d_Law_byText_26 fl_Law_9 (by decide) rfl (by decide) rfl ?_
      refine V2_iload (i := 5) d_Law_byText_29 rfl ?_
      refine V2_ialoadJ (v := F 12 ((k))) (k) d_Law_byText_31 (by decide) rfl (xixA (n := k) (by subst ev1; rfl) (by omega) (by decide)) (xixB (n := k) (by subst ev1; rfl) (by omega)) rfl ?_
      refine V2_topi (fun v6 ev6 => ?_)
      refine V2_istore (i := 6) (l' := [some (.ref 11), some (.int a), some (.int b), some (.int c), some (.int (nI (depT wh k))), some (.int (nI k)), some (.int v6)]) d_Law_byText_32 (xst_i (Nat.le_of_ble_eq_true rfl) rfl rfl) ?_
      rcases hokk with ⟨hw, hv0, hv9⟩ | ⟨hw, hnm⟩ | ⟨hw, hd1⟩ | ⟨hw, hd2, hsg⟩
      · refine V2_iload (i := 6) d_Law_byText_34 rfl ?_
        refine V2_bipush (v := -3) d_Law_byText_36 rfl ?_
        have hsv : v6 = vl k := by subst ev6 ev1; exact hck.trans (encT_0 hw)
        refine V2_icmp_lt (tgt := 82) d_Law_byText_38 rfl (fun c7 => (by first | exact absurd c7 (show ¬ v6 < -3 from by rw [hsv]; exact i32_nlt3 hv0) | exact absurd (show ¬ v6 < -3 from by rw [hsv]; exact i32_nlt3 hv0) c7)) (fun c7 => ?_)
        refine V2_iload (i := 4) d_Law_byText_41 rfl ?_
        refine V2_aload_n (i := 0) d_Law_byText_43 rfl rfl ?_
        refine V2_getr (a := 13) d_Law_byText_44 fl_Law_13 (by decide) rfl (by decide) rfl ?_
        refine V2_alen (t := 0) (v := 60) d_Law_byText_47 (by decide) rfl (by decide) rfl ?_
        refine V2_icmp_ge (tgt := 184) d_Law_byText_48 rfl (fun c8 => (by first | exact absurd c8 (show ¬ (60 : Int32) ≤ nI (depT wh k) from nI_ge (b := 60) (by omega) (by decide)) | exact absurd (show ¬ (60 : Int32) ≤ nI (depT wh k) from nI_ge (b := 60) (by omega) (by decide)) c8)) (fun c8 => ?_)
        refine V2_aload_n (i := 0) d_Law_byText_51 rfl rfl ?_
        refine V2_getr (a := 13) d_Law_byText_52 fl_Law_13 (by decide) rfl (by decide) rfl ?_
        refine V2_iload (i := 4) d_Law_byText_55 rfl ?_
        refine V2_iload (i := 6) d_Law_byText_57 rfl ?_
        refine V2_if_lt (tgt := 67) d_Law_byText_59 rfl (fun c9 => (by first | exact absurd c9 (show ¬ v6 < 0 from by rw [hsv]; exact Int32.not_lt.mpr hv0) | exact absurd (show ¬ v6 < 0 from by rw [hsv]; exact Int32.not_lt.mpr hv0) c9)) (fun c9 => ?_)
        refine V2_iload (i := 6) d_Law_byText_62 rfl ?_
        refine V2_goto (tgt := 75) d_Law_byText_64 rfl ?_
        refine V2_iastore (j := (depT wh k)) d_Law_byText_75 (by decide) rfl (xixA (n := depT wh k) (by subst ev6 ev1; rfl) (by omega) (by decide)) (xixB (n := depT wh k) (by subst ev6 ev1; rfl) (by omega)) ?_
        obtain ⟨v10, ev10⟩ : ∃ y : Int32, y = nI (depT wh k) + 1 := ⟨_, rfl⟩
        refine V2_iinc (i := 4) (v := v10) (l' := [some (.ref 11), some (.int a), some (.int b), some (.int c), some (.int v10), some (.int (nI k)), some (.int v6)]) d_Law_byText_76 rfl (by rw [ev10]; rfl) (xst_i (Nat.le_of_ble_eq_true rfl) rfl rfl) ?_
        refine V2_goto (tgt := 184) d_Law_byText_79 rfl ?_
        obtain ⟨v11, ev11⟩ : ∃ y : Int32, y = nI k + 1 := ⟨_, rfl⟩
        refine V2_iinc (i := 5) (v := v11) (l' := [some (.ref 11), some (.int a), some (.int b), some (.int c), some (.int v10), some (.int v11), some (.int v6)]) d_Law_byText_184 rfl (by rw [ev11]; rfl) (xst_i (Nat.le_of_ble_eq_true rfl) rfl rfl) ?_
        refine V2_goto (tgt := 6) d_Law_byText_187 rfl ?_
        have hn' : v10 = nI (depT wh (k + 1)) := by rw [depT_0 hw]; subst ev11 ev10 ev6 ev1; exact nI_1 _
        have hk' : v11 = nI (k + 1) := by subst ev11 ev10 ev6 ev1; exact nI_1 _
        rw [hn', hk']
        refine V2.weak (l' := [some (.ref 11), some (.int a), some (.int b), some (.int c), some (.int (nI (depT wh (k + 1)))), some (.int (nI (k + 1))), none]) ?_ ⟨rfl, rfl, rfl, rfl, rfl, rfl, trivial⟩
        exact V2.to (ih (k + 1) (by omega) (by omega)) rfl rfl rfl (by rw [xp_xrw, runT_s, stepT_0 hw, hsv])
      · refine V2_iload (i := 6) d_Law_byText_34 rfl ?_
        refine V2_bipush (v := -3) d_Law_byText_36 rfl ?_
        have hsv : v6 = (if vl k = 100 then (-2 : Int32) else if vl k = 105 ∨ vl k = 104 then -1 else -3) := by subst ev6 ev1; exact hck.trans (encT_1 hw)
        refine V2_icmp_lt (tgt := 82) d_Law_byText_38 rfl (fun c12 => (by first | exact absurd c12 (show ¬ v6 < -3 from by rw [hsv]; exact (enc1_range _).1) | exact absurd (show ¬ v6 < -3 from by rw [hsv]; exact (enc1_range _).1) c12)) (fun c12 => ?_)
        refine V2_iload (i := 4) d_Law_byText_41 rfl ?_
        refine V2_aload_n (i := 0) d_Law_byText_43 rfl rfl ?_
        refine V2_getr (a := 13) d_Law_byText_44 fl_Law_13 (by decide) rfl (by decide) rfl ?_
        refine V2_alen (t := 0) (v := 60) d_Law_byText_47 (by decide) rfl (by decide) rfl ?_
        refine V2_icmp_ge (tgt := 184) d_Law_byText_48 rfl (fun c13 => (by first | exact absurd c13 (show ¬ (60 : Int32) ≤ nI (depT wh k) from nI_ge (b := 60) (by omega) (by decide)) | exact absurd (show ¬ (60 : Int32) ≤ nI (depT wh k) from nI_ge (b := 60) (by omega) (by decide)) c13)) (fun c13 => ?_)
        refine V2_aload_n (i := 0) d_Law_byText_51 rfl rfl ?_
        refine V2_getr (a := 13) d_Law_byText_52 fl_Law_13 (by decide) rfl (by decide) rfl ?_
        refine V2_iload (i := 4) d_Law_byText_55 rfl ?_
        refine V2_iload (i := 6) d_Law_byText_57 rfl ?_
        refine V2_if_lt (tgt := 67) d_Law_byText_59 rfl (fun c14 => ?_) (fun c14 => (by first | exact absurd (show v6 < 0 from by rw [hsv]; exact (enc1_range _).2) c14 | exact absurd c14 (show v6 < 0 from by rw [hsv]; exact (enc1_range _).2)))
        refine V2_iload (i := 6) d_Law_byText_67 rfl ?_
        refine V2_iload_n (i := 1) d_Law_byText_69 rfl rfl ?_
        refine V2_iload_n (i := 2) d_Law_byText_70 rfl rfl ?_
        refine V2_iload_n (i := 3) d_Law_byText_71 rfl rfl ?_
        refine V2_callS [.int v6, .int a, .int b, .int c] d_Law_byText_72 rfl rfl lk_Law_61 mo_Law_valueOf (Nat.le_of_ble_eq_true rfl) (Nat.le_of_ble_eq_true rfl) ?_
        refine c_Law_valueOf ?_
        refine V2_topi (fun v15 ev15 => ?_)
        refine V2_iastore (j := (depT wh k)) d_Law_byText_75 (by decide) rfl (xixA (n := depT wh k) (by subst ev15 ev6 ev1; rfl) (by omega) (by decide)) (xixB (n := depT wh k) (by subst ev15 ev6 ev1; rfl) (by omega)) ?_
        obtain ⟨v16, ev16⟩ : ∃ y : Int32, y = nI (depT wh k) + 1 := ⟨_, rfl⟩
        refine V2_iinc (i := 4) (v := v16) (l' := [some (.ref 11), some (.int a), some (.int b), some (.int c), some (.int v16), some (.int (nI k)), some (.int v6)]) d_Law_byText_76 rfl (by rw [ev16]; rfl) (xst_i (Nat.le_of_ble_eq_true rfl) rfl rfl) ?_
        refine V2_goto (tgt := 184) d_Law_byText_79 rfl ?_
        obtain ⟨v17, ev17⟩ : ∃ y : Int32, y = nI k + 1 := ⟨_, rfl⟩
        refine V2_iinc (i := 5) (v := v17) (l' := [some (.ref 11), some (.int a), some (.int b), some (.int c), some (.int v16), some (.int v17), some (.int v6)]) d_Law_byText_184 rfl (by rw [ev17]; rfl) (xst_i (Nat.le_of_ble_eq_true rfl) rfl rfl) ?_
        refine V2_goto (tgt := 6) d_Law_byText_187 rfl ?_
        have hn' : v16 = nI (depT wh (k + 1)) := by rw [depT_1 hw]; subst ev17 ev16 ev15 ev6 ev1; exact nI_1 _
        have hk' : v17 = nI (k + 1) := by subst ev17 ev16 ev15 ev6 ev1; exact nI_1 _
        rw [hn', hk']
        refine V2.weak (l' := [some (.ref 11), some (.int a), some (.int b), some (.int c), some (.int (nI (depT wh (k + 1)))), some (.int (nI (k + 1))), none]) ?_ ⟨rfl, rfl, rfl, rfl, rfl, rfl, trivial⟩
        exact V2.to (ih (k + 1) (by omega) (by omega)) rfl rfl rfl (by rw [xp_xrw, runT_s, stepT_1 hw, show v15 = nmS a b c (vl k) from by subst ev15; rw [hsv]; exact enc1_val a b c (vl k)])
      · refine V2_iload (i := 6) d_Law_byText_34 rfl ?_
        refine V2_bipush (v := -3) d_Law_byText_36 rfl ?_
        have hsv : v6 = -33 := by subst ev6 ev1; exact hck.trans (encT_2 hw)
        refine V2_icmp_lt (tgt := 82) d_Law_byText_38 rfl (fun c18 => ?_) (fun c18 => (by first | exact absurd (show v6 < -3 from by rw [hsv]; decide) c18 | exact absurd c18 (show v6 < -3 from by rw [hsv]; decide)))
        refine V2_iload (i := 6) d_Law_byText_82 rfl ?_
        refine V2_bipush (v := -33) d_Law_byText_84 rfl ?_
        refine V2_icmp_ne (tgt := 134) d_Law_byText_86 rfl (fun c19 => (by first | exact absurd c19 (show v6 = -33 from hsv) | exact absurd (show v6 = -33 from hsv) c19)) (fun c19 => ?_)
        refine V2_iload (i := 4) d_Law_byText_89 rfl ?_
        refine V2_iconst (v := 1) d_Law_byText_91 rfl ?_
        refine V2_icmp_lt (tgt := 184) d_Law_byText_92 rfl (fun c20 => (by first | exact absurd c20 (show ¬ nI (depT wh k) < 1 from nI_nlt (a := depT wh k) (b := 1) hd1 (by omega)) | exact absurd (show ¬ nI (depT wh k) < 1 from nI_nlt (a := depT wh k) (b := 1) hd1 (by omega)) c20)) (fun c20 => ?_)
        refine V2_iload (i := 4) d_Law_byText_95 rfl ?_
        refine V2_aload_n (i := 0) d_Law_byText_97 rfl rfl ?_
        refine V2_getr (a := 13) d_Law_byText_98 fl_Law_13 (by decide) rfl (by decide) rfl ?_
        refine V2_alen (t := 0) (v := 60) d_Law_byText_101 (by decide) rfl (by decide) rfl ?_
        refine V2_icmp_gt (tgt := 184) d_Law_byText_102 rfl (fun c21 => (by first | exact absurd c21 (show ¬ (60 : Int32) < nI (depT wh k) from nI_nlt (a := 60) (b := depT wh k) (by omega) (by decide)) | exact absurd (show ¬ (60 : Int32) < nI (depT wh k) from nI_nlt (a := 60) (b := depT wh k) (by omega) (by decide)) c21)) (fun c21 => ?_)
        refine V2_aload_n (i := 0) d_Law_byText_105 rfl rfl ?_
        refine V2_getr (a := 13) d_Law_byText_106 fl_Law_13 (by decide) rfl (by decide) rfl ?_
        refine V2_iload (i := 4) d_Law_byText_109 rfl ?_
        refine V2_iconst (v := 1) d_Law_byText_111 rfl ?_
        refine V2_isub d_Law_byText_112 ?_
        refine V2_topi (fun v22 ev22 => ?_)
        refine V2_aload_n (i := 0) d_Law_byText_113 rfl rfl ?_
        refine V2_getr (a := 13) d_Law_byText_114 fl_Law_13 (by decide) rfl (by decide) rfl ?_
        refine V2_iload (i := 4) d_Law_byText_117 rfl ?_
        refine V2_iconst (v := 1) d_Law_byText_119 rfl ?_
        refine V2_isub d_Law_byText_120 ?_
        refine V2_topi (fun v23 ev23 => ?_)
        refine V2_ialoadJ (v := (runT (nmS a b c) wh vl (F 13) k) ((depT wh k - 1))) (depT wh k - 1) d_Law_byText_121 (by decide) rfl (xixA (n := depT wh k - 1) (by subst ev23 ev22 ev6 ev1; exact nI_sub1 (by omega)) (by omega) (by decide)) (xixB (n := depT wh k - 1) (by subst ev23 ev22 ev6 ev1; exact nI_sub1 (by omega)) (by omega)) rfl ?_
        refine V2_topi (fun v24 ev24 => ?_)
        refine V2_if_ne (tgt := 129) d_Law_byText_122 rfl (fun c25 => ?_) (fun c25 => ?_)
        · refine V2_iconst (v := 0) d_Law_byText_129 rfl ?_
          refine V2_iastore (j := (depT wh k - 1)) d_Law_byText_130 (by decide) rfl (xixA (n := depT wh k - 1) (by subst ev24 ev23 ev22 ev6 ev1; exact nI_sub1 (by omega)) (by omega) (by decide)) (xixB (n := depT wh k - 1) (by subst ev24 ev23 ev22 ev6 ev1; exact nI_sub1 (by omega)) (by omega)) ?_
          refine V2_goto (tgt := 184) d_Law_byText_131 rfl ?_
          obtain ⟨v26, ev26⟩ : ∃ y : Int32, y = nI k + 1 := ⟨_, rfl⟩
          refine V2_iinc (i := 5) (v := v26) (l' := [some (.ref 11), some (.int a), some (.int b), some (.int c), some (.int (nI (depT wh k))), some (.int v26), some (.int v6)]) d_Law_byText_184 rfl (by rw [ev26]; rfl) (xst_i (Nat.le_of_ble_eq_true rfl) rfl rfl) ?_
          refine V2_goto (tgt := 6) d_Law_byText_187 rfl ?_
          have hn' : nI (depT wh k) = nI (depT wh (k + 1)) := by rw [depT_2 hw]
          have hk' : v26 = nI (k + 1) := by subst ev26 ev24 ev23 ev22 ev6 ev1; exact nI_1 _
          rw [hn', hk']
          refine V2.weak (l' := [some (.ref 11), some (.int a), some (.int b), some (.int c), some (.int (nI (depT wh (k + 1)))), some (.int (nI (k + 1))), none]) ?_ ⟨rfl, rfl, rfl, rfl, rfl, rfl, trivial⟩
          exact V2.to (ih (k + 1) (by omega) (by omega)) rfl rfl rfl (by rw [xp_xrw, runT_s, stepT_2 hw]; subst ev26 ev24 ev23 ev22 ev6 ev1; simp_all)
        · refine V2_iconst (v := 1) d_Law_byText_125 rfl ?_
          refine V2_goto (tgt := 130) d_Law_byText_126 rfl ?_
          refine V2_iastore (j := (depT wh k - 1)) d_Law_byText_130 (by decide) rfl (xixA (n := depT wh k - 1) (by subst ev24 ev23 ev22 ev6 ev1; exact nI_sub1 (by omega)) (by omega) (by decide)) (xixB (n := depT wh k - 1) (by subst ev24 ev23 ev22 ev6 ev1; exact nI_sub1 (by omega)) (by omega)) ?_
          refine V2_goto (tgt := 184) d_Law_byText_131 rfl ?_
          obtain ⟨v27, ev27⟩ : ∃ y : Int32, y = nI k + 1 := ⟨_, rfl⟩
          refine V2_iinc (i := 5) (v := v27) (l' := [some (.ref 11), some (.int a), some (.int b), some (.int c), some (.int (nI (depT wh k))), some (.int v27), some (.int v6)]) d_Law_byText_184 rfl (by rw [ev27]; rfl) (xst_i (Nat.le_of_ble_eq_true rfl) rfl rfl) ?_
          refine V2_goto (tgt := 6) d_Law_byText_187 rfl ?_
          have hn' : nI (depT wh k) = nI (depT wh (k + 1)) := by rw [depT_2 hw]
          have hk' : v27 = nI (k + 1) := by subst ev27 ev24 ev23 ev22 ev6 ev1; exact nI_1 _
          rw [hn', hk']
          refine V2.weak (l' := [some (.ref 11), some (.int a), some (.int b), some (.int c), some (.int (nI (depT wh (k + 1)))), some (.int (nI (k + 1))), none]) ?_ ⟨rfl, rfl, rfl, rfl, rfl, rfl, trivial⟩
          exact V2.to (ih (k + 1) (by omega) (by omega)) rfl rfl rfl (by rw [xp_xrw, runT_s, stepT_2 hw]; subst ev27 ev24 ev23 ev22 ev6 ev1; simp_all)
      · refine V2_iload (i := 6) d_Law_byText_34 rfl ?_
        refine V2_bipush (v := -3) d_Law_byText_36 rfl ?_
        have hsv : v6 = -vl k := by subst ev6 ev1; exact hck.trans (encT_3 hw)
        refine V2_icmp_lt (tgt := 82) d_Law_byText_38 rfl (fun c28 => ?_) (fun c28 => (by first | exact absurd (show v6 < -3 from by rw [hsv]; exact (isSign_neg hsg).1) c28 | exact absurd c28 (show v6 < -3 from by rw [hsv]; exact (isSign_neg hsg).1)))
        refine V2_iload (i := 6) d_Law_byText_82 rfl ?_
        refine V2_bipush (v := -33) d_Law_byText_84 rfl ?_
        refine V2_icmp_ne (tgt := 134) d_Law_byText_86 rfl (fun c29 => ?_) (fun c29 => (by first | exact absurd (show ¬ v6 = -33 from by rw [hsv]; exact (isSign_neg hsg).2.1) c29 | exact absurd c29 (show ¬ v6 = -33 from by rw [hsv]; exact (isSign_neg hsg).2.1)))
        refine V2_iload (i := 4) d_Law_byText_134 rfl ?_
        refine V2_iconst (v := 2) d_Law_byText_136 rfl ?_
        refine V2_icmp_lt (tgt := 184) d_Law_byText_137 rfl (fun c30 => (by first | exact absurd c30 (show ¬ nI (depT wh k) < 2 from nI_nlt (a := depT wh k) (b := 2) hd2 (by omega)) | exact absurd (show ¬ nI (depT wh k) < 2 from nI_nlt (a := depT wh k) (b := 2) hd2 (by omega)) c30)) (fun c30 => ?_)
        refine V2_iload (i := 4) d_Law_byText_140 rfl ?_
        refine V2_aload_n (i := 0) d_Law_byText_142 rfl rfl ?_
        refine V2_getr (a := 13) d_Law_byText_143 fl_Law_13 (by decide) rfl (by decide) rfl ?_
        refine V2_alen (t := 0) (v := 60) d_Law_byText_146 (by decide) rfl (by decide) rfl ?_
        refine V2_icmp_gt (tgt := 184) d_Law_byText_147 rfl (fun c31 => (by first | exact absurd c31 (show ¬ (60 : Int32) < nI (depT wh k) from nI_nlt (a := 60) (b := depT wh k) (by omega) (by decide)) | exact absurd (show ¬ (60 : Int32) < nI (depT wh k) from nI_nlt (a := 60) (b := depT wh k) (by omega) (by decide)) c31)) (fun c31 => ?_)
        obtain ⟨v32, ev32⟩ : ∃ y : Int32, y = nI (depT wh k) + -1 := ⟨_, rfl⟩
        refine V2_iinc (i := 4) (v := v32) (l' := [some (.ref 11), some (.int a), some (.int b), some (.int c), some (.int v32), some (.int (nI k)), some (.int v6)]) d_Law_byText_150 rfl (by rw [ev32]; rfl) (xst_i (Nat.le_of_ble_eq_true rfl) rfl rfl) ?_
        refine V2_aload_n (i := 0) d_Law_byText_153 rfl rfl ?_
        refine V2_getr (a := 13) d_Law_byText_154 fl_Law_13 (by decide) rfl (by decide) rfl ?_
        refine V2_iload (i := 4) d_Law_byText_157 rfl ?_
        refine V2_iconst (v := 1) d_Law_byText_159 rfl ?_
        refine V2_isub d_Law_byText_160 ?_
        refine V2_topi (fun v33 ev33 => ?_)
        refine V2_iload (i := 6) d_Law_byText_161 rfl ?_
        refine V2_ineg d_Law_byText_163 ?_
        refine V2_topi (fun v34 ev34 => ?_)
        refine V2_aload_n (i := 0) d_Law_byText_164 rfl rfl ?_
        refine V2_getr (a := 13) d_Law_byText_165 fl_Law_13 (by decide) rfl (by decide) rfl ?_
        refine V2_iload (i := 4) d_Law_byText_168 rfl ?_
        refine V2_iconst (v := 1) d_Law_byText_170 rfl ?_
        refine V2_isub d_Law_byText_171 ?_
        refine V2_topi (fun v35 ev35 => ?_)
        refine V2_ialoadJ (v := (runT (nmS a b c) wh vl (F 13) k) ((depT wh k - 2))) (depT wh k - 2) d_Law_byText_172 (by decide) rfl (xixA (n := depT wh k - 2) (by subst ev35 ev34 ev33 ev32 ev6 ev1; rw [nI_add_m1 (by omega), nI_sub1 (by omega)]; rfl) (by omega) (by decide)) (xixB (n := depT wh k - 2) (by subst ev35 ev34 ev33 ev32 ev6 ev1; rw [nI_add_m1 (by omega), nI_sub1 (by omega)]; rfl) (by omega)) rfl ?_
        refine V2_topi (fun v36 ev36 => ?_)
        refine V2_aload_n (i := 0) d_Law_byText_173 rfl rfl ?_
        refine V2_getr (a := 13) d_Law_byText_174 fl_Law_13 (by decide) rfl (by decide) rfl ?_
        refine V2_iload (i := 4) d_Law_byText_177 rfl ?_
        refine V2_ialoadJ (v := (runT (nmS a b c) wh vl (F 13) k) ((depT wh k - 1))) (depT wh k - 1) d_Law_byText_179 (by decide) rfl (xixA (n := depT wh k - 1) (by subst ev36 ev35 ev34 ev33 ev32 ev6 ev1; exact nI_add_m1 (by omega)) (by omega) (by decide)) (xixB (n := depT wh k - 1) (by subst ev36 ev35 ev34 ev33 ev32 ev6 ev1; exact nI_add_m1 (by omega)) (by omega)) rfl ?_
        refine V2_topi (fun v37 ev37 => ?_)
        refine V2_callS [.int v34, .int v36, .int v37] d_Law_byText_180 rfl rfl lk_Law_65 mo_Law_workedOut (Nat.le_of_ble_eq_true rfl) (Nat.le_of_ble_eq_true rfl) ?_
        have hcs : v34 = vl k := by rw [ev34, hsv, (isSign_neg hsg).2.2]
        rw [hcs]
        refine c_Law_workedOut hsg ?_
        refine V2_topi (fun v38 ev38 => ?_)
        refine V2_iastore (j := (depT wh k - 2)) d_Law_byText_183 (by decide) rfl (xixA (n := depT wh k - 2) (by subst ev38 ev37 ev36 ev35 ev34 ev33 ev32 ev6 ev1; rw [nI_add_m1 (by omega), nI_sub1 (by omega)]; rfl) (by omega) (by decide)) (xixB (n := depT wh k - 2) (by subst ev38 ev37 ev36 ev35 ev34 ev33 ev32 ev6 ev1; rw [nI_add_m1 (by omega), nI_sub1 (by omega)]; rfl) (by omega)) ?_
        obtain ⟨v39, ev39⟩ : ∃ y : Int32, y = nI k + 1 := ⟨_, rfl⟩
        refine V2_iinc (i := 5) (v := v39) (l' := [some (.ref 11), some (.int a), some (.int b), some (.int c), some (.int v32), some (.int v39), some (.int v6)]) d_Law_byText_184 rfl (by rw [ev39]; rfl) (xst_i (Nat.le_of_ble_eq_true rfl) rfl rfl) ?_
        refine V2_goto (tgt := 6) d_Law_byText_187 rfl ?_
        have hn' : v32 = nI (depT wh (k + 1)) := by rw [depT_3 hw]; subst ev39 ev38 ev37 ev36 ev35 ev34 ev33 ev32 ev6 ev1; exact nI_add_m1 (by omega)
        have hk' : v39 = nI (k + 1) := by subst ev39 ev38 ev37 ev36 ev35 ev34 ev33 ev32 ev6 ev1; exact nI_1 _
        rw [hn', hk']
        refine V2.weak (l' := [some (.ref 11), some (.int a), some (.int b), some (.int c), some (.int (nI (depT wh (k + 1)))), some (.int (nI (k + 1))), none]) ?_ ⟨rfl, rfl, rfl, rfl, rfl, rfl, trivial⟩
        exact V2.to (ih (k + 1) (by omega) (by omega)) rfl rfl rfl (by rw [xp_xrw, runT_s, stepT_3 hw]; subst ev39 ev38 ev37 ev36 ev35 ev34 ev33 ev32 ev6 ev1; rfl)
