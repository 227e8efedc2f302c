/-! texts that are worked out: the words, and both sides' rows of signs -/
def joinS (c x y : Int32) : Int32 :=
  if c = 43 then x + y else if c = 45 then x - y else if c = 42 then x * y else if c = 47 then (if y = 0 then 0 else x / y) else if c = 37 then (if y = 0 then 0 else x % y)
  else if c = 60 then (if x < y then 1 else 0) else if c = 62 then (if y < x then 1 else 0) else if c = 61 then (if x = y then 1 else 0)
  else if c = 38 then (if x = 0 then 0 else if y = 0 then 0 else 1) else (if x = 0 then (if y = 0 then 0 else 1) else 1)
def isSign (c : Int32) : Prop := c = 43 ∨ c = 45 ∨ c = 42 ∨ c = 47 ∨ c = 37 ∨ c = 60 ∨ c = 62 ∨ c = 61 ∨ c = 38 ∨ c = 124
def isName (use : Nat) (c : Int32) : Prop := c = 100 ∨ (if use = 0 then c = 105 ∨ c = 119 else c = 104 ∨ c = 110)
def nmS (a b c v : Int32) : Int32 := if v = 100 then b else if v = 105 ∨ v = 104 then a else c
def depT (wh : Nat → Int32) : Nat → Nat
  | 0 => 0
  | k + 1 => if wh k = 0 ∨ wh k = 1 then depT wh k + 1 else if wh k = 2 then depT wh k else depT wh k - 1
def okStep (use : Nat) (wh vl : Int32) (dep : Nat) : Prop := (wh = 0 ∧ 0 ≤ vl ∧ vl ≤ 9999) ∨ (wh = 1 ∧ isName use vl) ∨ (wh = 2 ∧ 1 ≤ dep) ∨ (wh = 3 ∧ 2 ≤ dep ∧ isSign vl)
def okText (use n : Nat) (wh vl : Nat → Int32) : Prop := n ≤ 60 ∧ (∀ k, k < n → okStep use (wh k) (vl k) (depT wh k)) ∧ 1 ≤ depT wh n
def stepT (nm : Int32 → Int32) (wh vl : Int32) (p : Nat → Int32) (d : Nat) : Nat → Int32 :=
  if wh = 0 then upd p d vl else if wh = 1 then upd p d (nm vl) else if wh = 2 then upd p (d - 1) (if p (d - 1) = 0 then 1 else 0) else upd p (d - 2) (joinS vl (p (d - 2)) (p (d - 1)))
def runT (nm : Int32 → Int32) (wh vl : Nat → Int32) (p0 : Nat → Int32) : Nat → (Nat → Int32)
  | 0 => p0
  | k + 1 => stepT nm (wh k) (vl k) (runT nm wh vl p0 k) (depT wh k)
def valT (nm : Int32 → Int32) (n : Nat) (wh vl : Nat → Int32) : Int32 := runT nm wh vl (fun _ => 0) n 0
theorem depT_le (wh : Nat → Int32) : ∀ k, depT wh k ≤ k
  | 0 => Nat.le_refl 0
  | k + 1 => by
    have := depT_le wh k
    have e : depT wh (k + 1) = if wh k = 0 ∨ wh k = 1 then depT wh k + 1 else if wh k = 2 then depT wh k else depT wh k - 1 := rfl
    rw [e]
    split
    · omega
    · split <;> omega
theorem runT_agree {nm : Int32 → Int32} {use n : Nat} {wh vl : Nat → Int32} (ok : ∀ k, k < n → okStep use (wh k) (vl k) (depT wh k)) (p q : Nat → Int32) : ∀ k, k ≤ n → ∀ j, j < depT wh k → runT nm wh vl p k j = runT nm wh vl q k j := by
  intro k
  induction k with
  | zero => intro _ j hj; exact absurd hj (Nat.not_lt_zero j)
  | succ k ih =>
    intro hk j hj
    have ih := ih (by omega)
    have hok := ok k (by omega)
    show stepT _ _ _ _ _ j = stepT _ _ _ _ _ j
    have hj' : j < (if wh k = 0 ∨ wh k = 1 then depT wh k + 1 else if wh k = 2 then depT wh k else depT wh k - 1) := hj
    rcases hok with ⟨h, -⟩ | ⟨h, -⟩ | ⟨h, h2⟩ | ⟨h, h2, -⟩
    · rw [if_pos (Or.inl h)] at hj'
      simp only [stepT, h, if_true, upd]
      split
      · rfl
      · exact ih j (by omega)
    · rw [if_pos (Or.inr h)] at hj'
      have h0 : ¬ (1 : Int32) = 0 := by decide
      simp only [stepT, h, h0, if_false, if_true, upd]
      split
      · rfl
      · exact ih j (by omega)
    · have h0 : ¬ (2 : Int32) = 0 := by decide
      have h1 : ¬ (2 : Int32) = 1 := by decide
      rw [h, if_neg (by simp [h0, h1]), if_pos rfl] at hj'
      simp only [stepT, h, h0, h1, if_false, if_true, upd]
      rw [ih (depT wh k - 1) (by omega)]
      split
      · rfl
      · exact ih j hj'
    · have h0 : ¬ (3 : Int32) = 0 := by decide
      have h1 : ¬ (3 : Int32) = 1 := by decide
      have h3 : ¬ (3 : Int32) = 2 := by decide
      rw [h, if_neg (by simp [h0, h1]), if_neg h3] at hj'
      simp only [stepT, h, h0, h1, h3, if_false, upd]
      rw [ih (depT wh k - 1) (by omega), ih (depT wh k - 2) (by omega)]
      split
      · rfl
      · exact ih j (by omega)
theorem runT_val {nm : Int32 → Int32} {use n : Nat} {wh vl : Nat → Int32} (ok : okText use n wh vl) (p : Nat → Int32) : runT nm wh vl p n 0 = valT nm n wh vl := runT_agree ok.2.1 p _ n (Nat.le_refl n) 0 (by have := ok.2.2; omega)
theorem ok_1 {use : Nat} {wh vl : Int32} {dep : Nat} (h : okStep use wh vl dep) (h1 : wh = 1) : isName use vl := by
  rcases h with ⟨h, -⟩ | ⟨-, h⟩ | ⟨h, -⟩ | ⟨h, -⟩
  · rw [h1] at h; exact absurd h (by decide)
  · exact h
  · rw [h1] at h; exact absurd h (by decide)
  · rw [h1] at h; exact absurd h (by decide)
theorem ok_2 {use : Nat} {wh vl : Int32} {dep : Nat} (h : okStep use wh vl dep) (h1 : wh = 2) : 1 ≤ dep := by
  rcases h with ⟨h, -⟩ | ⟨h, -⟩ | ⟨-, h⟩ | ⟨h, -⟩
  · rw [h1] at h; exact absurd h (by decide)
  · rw [h1] at h; exact absurd h (by decide)
  · exact h
  · rw [h1] at h; exact absurd h (by decide)
theorem ok_3 {use : Nat} {wh vl : Int32} {dep : Nat} (h : okStep use wh vl dep) (h0 : ¬ wh = 0) (h1 : ¬ wh = 1) (h2 : ¬ wh = 2) : wh = 3 ∧ 2 ≤ dep ∧ isSign vl := by
  rcases h with ⟨h, -⟩ | ⟨h, -⟩ | ⟨h, -⟩ | h
  · exact absurd h h0
  · exact absurd h h1
  · exact absurd h h2
  · exact h
theorem isName_lt {use : Nat} {c : Int32} (h : isName use c) : vp_in c 128 := by
  have key : ∀ c : Int32, (c = 100 ∨ c = 105 ∨ c = 119 ∨ c = 104 ∨ c = 110) → vp_in c 128 := by
    intro c hc
    rcases hc with rfl | rfl | rfl | rfl | rfl
    · exact xixA (n := 100) rfl (by decide) (by decide)
    · exact xixA (n := 105) rfl (by decide) (by decide)
    · exact xixA (n := 119) rfl (by decide) (by decide)
    · exact xixA (n := 104) rfl (by decide) (by decide)
    · exact xixA (n := 110) rfl (by decide) (by decide)
  refine key c ?_
  unfold isName at h
  by_cases hu : use = 0
  · rw [if_pos hu] at h
    rcases h with h | h | h
    · exact Or.inl h
    · exact Or.inr (Or.inl h)
    · exact Or.inr (Or.inr (Or.inl h))
  · rw [if_neg hu] at h
    rcases h with h | h | h
    · exact Or.inl h
    · exact Or.inr (Or.inr (Or.inr (Or.inl h)))
    · exact Or.inr (Or.inr (Or.inr (Or.inr h)))
theorem i32_div_m1 (x : Int32) : x / -1 = -x := by
  refine Int32.toInt_inj.mp ?_
  have e : (-1 : Int32).toInt = -1 := by decide
  rw [Int32.toInt_div, e, Int.tdiv_neg, Int.tdiv_one, Int32.toInt_neg]
theorem i32_mod_m1 (x : Int32) : x % -1 = 0 := by
  refine Int32.toInt_inj.mp ?_
  have e : (-1 : Int32).toInt = -1 := by decide
  have e0 : (0 : Int32).toInt = 0 := by decide
  rw [Int32.toInt_mod, e, e0, Int.tmod_neg, Int.tmod_one]
theorem c_R_joined {L : Nat} {xs : Nat → Int32} {d : Nat} {Q : Option Value → xF → Prop} {F : xF} {c x y : Int32}  (hQ : Q (some (.int (joinS c x y))) F) : V2 L xs d m_R_joined 0 (xEntry [.int c, .int x, .int y] 3) [] F Q := by
  refine V2.to (l' := [some (.int c), some (.int x), some (.int y)]) ?_ rfl rfl rfl rfl
  refine V2_iload_n (i := 0) d_R_joined_0 rfl rfl ?_
  by_cases c1_37 : c = 37
  · refine V2_tableIn (tgt := 154) (off := 153) d_R_joined_1 (by rw [c1_37]; decide) (by rw [c1_37]; decide) (by rw [c1_37]; decide) rfl ?_
    refine V2_iload_n (i := 2) d_R_joined_154 rfl rfl ?_
    refine V2_if_eq (tgt := 163) d_R_joined_155 rfl (fun c2 => ?_) (fun c2 => ?_)
    · refine V2_iconst (v := 0) d_R_joined_163 rfl ?_
      refine V2_goto (tgt := 170) d_R_joined_164 rfl ?_
      refine V2_ireturn d_R_joined_170 rfl ?_
      exact xQi hQ (by skip; simp_all [joinS, i32_div_m1, i32_mod_m1]) rfl
    · refine V2_iload_n (i := 2) d_R_joined_158 rfl rfl ?_
      refine V2_iconst (v := -1) d_R_joined_159 rfl ?_
      refine V2_icmp_ne (tgt := 167) d_R_joined_160 rfl (fun c3 => ?_) (fun c3 => ?_)
      · refine V2_iload_n (i := 1) d_R_joined_167 rfl rfl ?_
        refine V2_iload_n (i := 2) d_R_joined_168 rfl rfl ?_
        refine V2_iremM d_R_joined_169 (by assumption) ?_
        refine V2_topi (fun v4 ev4 => ?_)
        refine V2_ireturn d_R_joined_170 rfl ?_
        exact xQi hQ (by subst ev4; simp_all [joinS, i32_div_m1, i32_mod_m1]) rfl
      · refine V2_iconst (v := 0) d_R_joined_163 rfl ?_
        refine V2_goto (tgt := 170) d_R_joined_164 rfl ?_
        refine V2_ireturn d_R_joined_170 rfl ?_
        exact xQi hQ (by skip; simp_all [joinS, i32_div_m1, i32_mod_m1]) rfl
  by_cases c1_38 : c = 38
  · refine V2_tableIn (tgt := 204) (off := 203) d_R_joined_1 (by rw [c1_38]; decide) (by rw [c1_38]; decide) (by rw [c1_38]; decide) rfl ?_
    refine V2_iload_n (i := 1) d_R_joined_204 rfl rfl ?_
    refine V2_if_eq (tgt := 216) d_R_joined_205 rfl (fun c5 => ?_) (fun c5 => ?_)
    · refine V2_iconst (v := 0) d_R_joined_216 rfl ?_
      refine V2_ireturn d_R_joined_217 rfl ?_
      exact xQi hQ (by skip; simp_all [joinS, i32_div_m1, i32_mod_m1]) rfl
    · refine V2_iload_n (i := 2) d_R_joined_208 rfl rfl ?_
      refine V2_if_eq (tgt := 216) d_R_joined_209 rfl (fun c6 => ?_) (fun c6 => ?_)
      · refine V2_iconst (v := 0) d_R_joined_216 rfl ?_
        refine V2_ireturn d_R_joined_217 rfl ?_
        exact xQi hQ (by skip; simp_all [joinS, i32_div_m1, i32_mod_m1]) rfl
      · refine V2_iconst (v := 1) d_R_joined_212 rfl ?_
        refine V2_goto (tgt := 217) d_R_joined_213 rfl ?_
        refine V2_ireturn d_R_joined_217 rfl ?_
        exact xQi hQ (by skip; simp_all [joinS, i32_div_m1, i32_mod_m1]) rfl
  by_cases c1_39 : c = 39
  · refine V2_tableIn (tgt := 218) (off := 217) d_R_joined_1 (by rw [c1_39]; decide) (by rw [c1_39]; decide) (by rw [c1_39]; decide) rfl ?_
    refine V2_iload_n (i := 1) d_R_joined_218 rfl rfl ?_
    refine V2_if_ne (tgt := 226) d_R_joined_219 rfl (fun c7 => ?_) (fun c7 => ?_)
    · refine V2_iconst (v := 1) d_R_joined_226 rfl ?_
      refine V2_goto (tgt := 231) d_R_joined_227 rfl ?_
      refine V2_ireturn d_R_joined_231 rfl ?_
      exact xQi hQ (by skip; simp_all [joinS, i32_div_m1, i32_mod_m1]) rfl
    · refine V2_iload_n (i := 2) d_R_joined_222 rfl rfl ?_
      refine V2_if_eq (tgt := 230) d_R_joined_223 rfl (fun c8 => ?_) (fun c8 => ?_)
      · refine V2_iconst (v := 0) d_R_joined_230 rfl ?_
        refine V2_ireturn d_R_joined_231 rfl ?_
        exact xQi hQ (by skip; simp_all [joinS, i32_div_m1, i32_mod_m1]) rfl
      · refine V2_iconst (v := 1) d_R_joined_226 rfl ?_
        refine V2_goto (tgt := 231) d_R_joined_227 rfl ?_
        refine V2_ireturn d_R_joined_231 rfl ?_
        exact xQi hQ (by skip; simp_all [joinS, i32_div_m1, i32_mod_m1]) rfl
  by_cases c1_40 : c = 40
  · refine V2_tableIn (tgt := 218) (off := 217) d_R_joined_1 (by rw [c1_40]; decide) (by rw [c1_40]; decide) (by rw [c1_40]; decide) rfl ?_
    refine V2_iload_n (i := 1) d_R_joined_218 rfl rfl ?_
    refine V2_if_ne (tgt := 226) d_R_joined_219 rfl (fun c9 => ?_) (fun c9 => ?_)
    · refine V2_iconst (v := 1) d_R_joined_226 rfl ?_
      refine V2_goto (tgt := 231) d_R_joined_227 rfl ?_
      refine V2_ireturn d_R_joined_231 rfl ?_
      exact xQi hQ (by skip; simp_all [joinS, i32_div_m1, i32_mod_m1]) rfl
    · refine V2_iload_n (i := 2) d_R_joined_222 rfl rfl ?_
      refine V2_if_eq (tgt := 230) d_R_joined_223 rfl (fun c10 => ?_) (fun c10 => ?_)
      · refine V2_iconst (v := 0) d_R_joined_230 rfl ?_
        refine V2_ireturn d_R_joined_231 rfl ?_
        exact xQi hQ (by skip; simp_all [joinS, i32_div_m1, i32_mod_m1]) rfl
      · refine V2_iconst (v := 1) d_R_joined_226 rfl ?_
        refine V2_goto (tgt := 231) d_R_joined_227 rfl ?_
        refine V2_ireturn d_R_joined_231 rfl ?_
        exact xQi hQ (by skip; simp_all [joinS, i32_div_m1, i32_mod_m1]) rfl
  by_cases c1_41 : c = 41
  · refine V2_tableIn (tgt := 218) (off := 217) d_R_joined_1 (by rw [c1_41]; decide) (by rw [c1_41]; decide) (by rw [c1_41]; decide) rfl ?_
    refine V2_iload_n (i := 1) d_R_joined_218 rfl rfl ?_
    refine V2_if_ne (tgt := 226) d_R_joined_219 rfl (fun c11 => ?_) (fun c11 => ?_)
    · refine V2_iconst (v := 1) d_R_joined_226 rfl ?_
      refine V2_goto (tgt := 231) d_R_joined_227 rfl ?_
      refine V2_ireturn d_R_joined_231 rfl ?_
      exact xQi hQ (by skip; simp_all [joinS, i32_div_m1, i32_mod_m1]) rfl
    · refine V2_iload_n (i := 2) d_R_joined_222 rfl rfl ?_
      refine V2_if_eq (tgt := 230) d_R_joined_223 rfl (fun c12 => ?_) (fun c12 => ?_)
      · refine V2_iconst (v := 0) d_R_joined_230 rfl ?_
        refine V2_ireturn d_R_joined_231 rfl ?_
        exact xQi hQ (by skip; simp_all [joinS, i32_div_m1, i32_mod_m1]) rfl
      · refine V2_iconst (v := 1) d_R_joined_226 rfl ?_
        refine V2_goto (tgt := 231) d_R_joined_227 rfl ?_
        refine V2_ireturn d_R_joined_231 rfl ?_
        exact xQi hQ (by skip; simp_all [joinS, i32_div_m1, i32_mod_m1]) rfl
  by_cases c1_42 : c = 42
  · refine V2_tableIn (tgt := 128) (off := 127) d_R_joined_1 (by rw [c1_42]; decide) (by rw [c1_42]; decide) (by rw [c1_42]; decide) rfl ?_
    refine V2_iload_n (i := 1) d_R_joined_128 rfl rfl ?_
    refine V2_iload_n (i := 2) d_R_joined_129 rfl rfl ?_
    refine V2_imul d_R_joined_130 ?_
    refine V2_topi (fun v13 ev13 => ?_)
    refine V2_ireturn d_R_joined_131 rfl ?_
    exact xQi hQ (by subst ev13; simp_all [joinS, i32_div_m1, i32_mod_m1]) rfl
  by_cases c1_43 : c = 43
  · refine V2_tableIn (tgt := 120) (off := 119) d_R_joined_1 (by rw [c1_43]; decide) (by rw [c1_43]; decide) (by rw [c1_43]; decide) rfl ?_
    refine V2_iload_n (i := 1) d_R_joined_120 rfl rfl ?_
    refine V2_iload_n (i := 2) d_R_joined_121 rfl rfl ?_
    refine V2_iadd d_R_joined_122 ?_
    refine V2_topi (fun v14 ev14 => ?_)
    refine V2_ireturn d_R_joined_123 rfl ?_
    exact xQi hQ (by subst ev14; simp_all [joinS, i32_div_m1, i32_mod_m1]) rfl
  by_cases c1_44 : c = 44
  · refine V2_tableIn (tgt := 218) (off := 217) d_R_joined_1 (by rw [c1_44]; decide) (by rw [c1_44]; decide) (by rw [c1_44]; decide) rfl ?_
    refine V2_iload_n (i := 1) d_R_joined_218 rfl rfl ?_
    refine V2_if_ne (tgt := 226) d_R_joined_219 rfl (fun c15 => ?_) (fun c15 => ?_)
    · refine V2_iconst (v := 1) d_R_joined_226 rfl ?_
      refine V2_goto (tgt := 231) d_R_joined_227 rfl ?_
      refine V2_ireturn d_R_joined_231 rfl ?_
      exact xQi hQ (by skip; simp_all [joinS, i32_div_m1, i32_mod_m1]) rfl
    · refine V2_iload_n (i := 2) d_R_joined_222 rfl rfl ?_
      refine V2_if_eq (tgt := 230) d_R_joined_223 rfl (fun c16 => ?_) (fun c16 => ?_)
      · refine V2_iconst (v := 0) d_R_joined_230 rfl ?_
        refine V2_ireturn d_R_joined_231 rfl ?_
        exact xQi hQ (by skip; simp_all [joinS, i32_div_m1, i32_mod_m1]) rfl
      · refine V2_iconst (v := 1) d_R_joined_226 rfl ?_
        refine V2_goto (tgt := 231) d_R_joined_227 rfl ?_
        refine V2_ireturn d_R_joined_231 rfl ?_
        exact xQi hQ (by skip; simp_all [joinS, i32_div_m1, i32_mod_m1]) rfl
  by_cases c1_45 : c = 45
  · refine V2_tableIn (tgt := 124) (off := 123) d_R_joined_1 (by rw [c1_45]; decide) (by rw [c1_45]; decide) (by rw [c1_45]; decide) rfl ?_
    refine V2_iload_n (i := 1) d_R_joined_124 rfl rfl ?_
    refine V2_iload_n (i := 2) d_R_joined_125 rfl rfl ?_
    refine V2_isub d_R_joined_126 ?_
    refine V2_topi (fun v17 ev17 => ?_)
    refine V2_ireturn d_R_joined_127 rfl ?_
    exact xQi hQ (by subst ev17; simp_all [joinS, i32_div_m1, i32_mod_m1]) rfl
  by_cases c1_46 : c = 46
  · refine V2_tableIn (tgt := 218) (off := 217) d_R_joined_1 (by rw [c1_46]; decide) (by rw [c1_46]; decide) (by rw [c1_46]; decide) rfl ?_
    refine V2_iload_n (i := 1) d_R_joined_218 rfl rfl ?_
    refine V2_if_ne (tgt := 226) d_R_joined_219 rfl (fun c18 => ?_) (fun c18 => ?_)
    · refine V2_iconst (v := 1) d_R_joined_226 rfl ?_
      refine V2_goto (tgt := 231) d_R_joined_227 rfl ?_
      refine V2_ireturn d_R_joined_231 rfl ?_
      exact xQi hQ (by skip; simp_all [joinS, i32_div_m1, i32_mod_m1]) rfl
    · refine V2_iload_n (i := 2) d_R_joined_222 rfl rfl ?_
      refine V2_if_eq (tgt := 230) d_R_joined_223 rfl (fun c19 => ?_) (fun c19 => ?_)
      · refine V2_iconst (v := 0) d_R_joined_230 rfl ?_
        refine V2_ireturn d_R_joined_231 rfl ?_
        exact xQi hQ (by skip; simp_all [joinS, i32_div_m1, i32_mod_m1]) rfl
      · refine V2_iconst (v := 1) d_R_joined_226 rfl ?_
        refine V2_goto (tgt := 231) d_R_joined_227 rfl ?_
        refine V2_ireturn d_R_joined_231 rfl ?_
        exact xQi hQ (by skip; simp_all [joinS, i32_div_m1, i32_mod_m1]) rfl
  by_cases c1_47 : c = 47
  · refine V2_tableIn (tgt := 132) (off := 131) d_R_joined_1 (by rw [c1_47]; decide) (by rw [c1_47]; decide) (by rw [c1_47]; decide) rfl ?_
    refine V2_iload_n (i := 2) d_R_joined_132 rfl rfl ?_
    refine V2_if_ne (tgt := 140) d_R_joined_133 rfl (fun c20 => ?_) (fun c20 => ?_)
    · refine V2_iload_n (i := 2) d_R_joined_140 rfl rfl ?_
      refine V2_iconst (v := -1) d_R_joined_141 rfl ?_
      refine V2_icmp_ne (tgt := 150) d_R_joined_142 rfl (fun c21 => ?_) (fun c21 => ?_)
      · refine V2_iload_n (i := 1) d_R_joined_150 rfl rfl ?_
        refine V2_iload_n (i := 2) d_R_joined_151 rfl rfl ?_
        refine V2_idiv d_R_joined_152 (by assumption) ?_
        refine V2_topi (fun v22 ev22 => ?_)
        refine V2_ireturn d_R_joined_153 rfl ?_
        exact xQi hQ (by subst ev22; simp_all [joinS, i32_div_m1, i32_mod_m1]) rfl
      · refine V2_iload_n (i := 1) d_R_joined_145 rfl rfl ?_
        refine V2_ineg d_R_joined_146 ?_
        refine V2_topi (fun v23 ev23 => ?_)
        refine V2_goto (tgt := 153) d_R_joined_147 rfl ?_
        refine V2_ireturn d_R_joined_153 rfl ?_
        exact xQi hQ (by subst ev23; simp_all [joinS, i32_div_m1, i32_mod_m1]) rfl
    · refine V2_iconst (v := 0) d_R_joined_136 rfl ?_
      refine V2_goto (tgt := 153) d_R_joined_137 rfl ?_
      refine V2_ireturn d_R_joined_153 rfl ?_
      exact xQi hQ (by skip; simp_all [joinS, i32_div_m1, i32_mod_m1]) rfl
  by_cases c1_48 : c = 48
  · refine V2_tableIn (tgt := 218) (off := 217) d_R_joined_1 (by rw [c1_48]; decide) (by rw [c1_48]; decide) (by rw [c1_48]; decide) rfl ?_
    refine V2_iload_n (i := 1) d_R_joined_218 rfl rfl ?_
    refine V2_if_ne (tgt := 226) d_R_joined_219 rfl (fun c24 => ?_) (fun c24 => ?_)
    · refine V2_iconst (v := 1) d_R_joined_226 rfl ?_
      refine V2_goto (tgt := 231) d_R_joined_227 rfl ?_
      refine V2_ireturn d_R_joined_231 rfl ?_
      exact xQi hQ (by skip; simp_all [joinS, i32_div_m1, i32_mod_m1]) rfl
    · refine V2_iload_n (i := 2) d_R_joined_222 rfl rfl ?_
      refine V2_if_eq (tgt := 230) d_R_joined_223 rfl (fun c25 => ?_) (fun c25 => ?_)
      · refine V2_iconst (v := 0) d_R_joined_230 rfl ?_
        refine V2_ireturn d_R_joined_231 rfl ?_
        exact xQi hQ (by skip; simp_all [joinS, i32_div_m1, i32_mod_m1]) rfl
      · refine V2_iconst (v := 1) d_R_joined_226 rfl ?_
        refine V2_goto (tgt := 231) d_R_joined_227 rfl ?_
        refine V2_ireturn d_R_joined_231 rfl ?_
        exact xQi hQ (by skip; simp_all [joinS, i32_div_m1, i32_mod_m1]) rfl
  by_cases c1_49 : c = 49
  · refine V2_tableIn (tgt := 218) (off := 217) d_R_joined_1 (by rw [c1_49]; decide) (by rw [c1_49]; decide) (by rw [c1_49]; decide) rfl ?_
    refine V2_iload_n (i := 1) d_R_joined_218 rfl rfl ?_
    refine V2_if_ne (tgt := 226) d_R_joined_219 rfl (fun c26 => ?_) (fun c26 => ?_)
    · refine V2_iconst (v := 1) d_R_joined_226 rfl ?_
      refine V2_goto (tgt := 231) d_R_joined_227 rfl ?_
      refine V2_ireturn d_R_joined_231 rfl ?_
      exact xQi hQ (by skip; simp_all [joinS, i32_div_m1, i32_mod_m1]) rfl
    · refine V2_iload_n (i := 2) d_R_joined_222 rfl rfl ?_
      refine V2_if_eq (tgt := 230) d_R_joined_223 rfl (fun c27 => ?_) (fun c27 => ?_)
      · refine V2_iconst (v := 0) d_R_joined_230 rfl ?_
        refine V2_ireturn d_R_joined_231 rfl ?_
        exact xQi hQ (by skip; simp_all [joinS, i32_div_m1, i32_mod_m1]) rfl
      · refine V2_iconst (v := 1) d_R_joined_226 rfl ?_
        refine V2_goto (tgt := 231) d_R_joined_227 rfl ?_
        refine V2_ireturn d_R_joined_231 rfl ?_
        exact xQi hQ (by skip; simp_all [joinS, i32_div_m1, i32_mod_m1]) rfl
  by_cases c1_50 : c = 50
  · refine V2_tableIn (tgt := 218) (off := 217) d_R_joined_1 (by rw [c1_50]; decide) (by rw [c1_50]; decide) (by rw [c1_50]; decide) rfl ?_
    refine V2_iload_n (i := 1) d_R_joined_218 rfl rfl ?_
    refine V2_if_ne (tgt := 226) d_R_joined_219 rfl (fun c28 => ?_) (fun c28 => ?_)
    · refine V2_iconst (v := 1) d_R_joined_226 rfl ?_
      refine V2_goto (tgt := 231) d_R_joined_227 rfl ?_
      refine V2_ireturn d_R_joined_231 rfl ?_
      exact xQi hQ (by skip; simp_all [joinS, i32_div_m1, i32_mod_m1]) rfl
    · refine V2_iload_n (i := 2) d_R_joined_222 rfl rfl ?_
      refine V2_if_eq (tgt := 230) d_R_joined_223 rfl (fun c29 => ?_) (fun c29 => ?_)
      · refine V2_iconst (v := 0) d_R_joined_230 rfl ?_
        refine V2_ireturn d_R_joined_231 rfl ?_
        exact xQi hQ (by skip; simp_all [joinS, i32_div_m1, i32_mod_m1]) rfl
      · refine V2_iconst (v := 1) d_R_joined_226 rfl ?_
        refine V2_goto (tgt := 231) d_R_joined_227 rfl ?_
        refine V2_ireturn d_R_joined_231 rfl ?_
        exact xQi hQ (by skip; simp_all [joinS, i32_div_m1, i32_mod_m1]) rfl
  by_cases c1_51 : c = 51
  · refine V2_tableIn (tgt := 218) (off := 217) d_R_joined_1 (by rw [c1_51]; decide) (by rw [c1_51]; decide) (by rw [c1_51]; decide) rfl ?_
    refine V2_iload_n (i := 1) d_R_joined_218 rfl rfl ?_
    refine V2_if_ne (tgt := 226) d_R_joined_219 rfl (fun c30 => ?_) (fun c30 => ?_)
    · refine V2_iconst (v := 1) d_R_joined_226 rfl ?_
      refine V2_goto (tgt := 231) d_R_joined_227 rfl ?_
      refine V2_ireturn d_R_joined_231 rfl ?_
      exact xQi hQ (by skip; simp_all [joinS, i32_div_m1, i32_mod_m1]) rfl
    · refine V2_iload_n (i := 2) d_R_joined_222 rfl rfl ?_
      refine V2_if_eq (tgt := 230) d_R_joined_223 rfl (fun c31 => ?_) (fun c31 => ?_)
      · refine V2_iconst (v := 0) d_R_joined_230 rfl ?_
        refine V2_ireturn d_R_joined_231 rfl ?_
        exact xQi hQ (by skip; simp_all [joinS, i32_div_m1, i32_mod_m1]) rfl
      · refine V2_iconst (v := 1) d_R_joined_226 rfl ?_
        refine V2_goto (tgt := 231) d_R_joined_227 rfl ?_
        refine V2_ireturn d_R_joined_231 rfl ?_
        exact xQi hQ (by skip; simp_all [joinS, i32_div_m1, i32_mod_m1]) rfl
  by_cases c1_52 : c = 52
  · refine V2_tableIn (tgt := 218) (off := 217) d_R_joined_1 (by rw [c1_52]; decide) (by rw [c1_52]; decide) (by rw [c1_52]; decide) rfl ?_
    refine V2_iload_n (i := 1) d_R_joined_218 rfl rfl ?_
    refine V2_if_ne (tgt := 226) d_R_joined_219 rfl (fun c32 => ?_) (fun c32 => ?_)
    · refine V2_iconst (v := 1) d_R_joined_226 rfl ?_
      refine V2_goto (tgt := 231) d_R_joined_227 rfl ?_
      refine V2_ireturn d_R_joined_231 rfl ?_
      exact xQi hQ (by skip; simp_all [joinS, i32_div_m1, i32_mod_m1]) rfl
    · refine V2_iload_n (i := 2) d_R_joined_222 rfl rfl ?_
      refine V2_if_eq (tgt := 230) d_R_joined_223 rfl (fun c33 => ?_) (fun c33 => ?_)
      · refine V2_iconst (v := 0) d_R_joined_230 rfl ?_
        refine V2_ireturn d_R_joined_231 rfl ?_
        exact xQi hQ (by skip; simp_all [joinS, i32_div_m1, i32_mod_m1]) rfl
      · refine V2_iconst (v := 1) d_R_joined_226 rfl ?_
        refine V2_goto (tgt := 231) d_R_joined_227 rfl ?_
        refine V2_ireturn d_R_joined_231 rfl ?_
        exact xQi hQ (by skip; simp_all [joinS, i32_div_m1, i32_mod_m1]) rfl
  by_cases c1_53 : c = 53
  · refine V2_tableIn (tgt := 218) (off := 217) d_R_joined_1 (by rw [c1_53]; decide) (by rw [c1_53]; decide) (by rw [c1_53]; decide) rfl ?_
    refine V2_iload_n (i := 1) d_R_joined_218 rfl rfl ?_
    refine V2_if_ne (tgt := 226) d_R_joined_219 rfl (fun c34 => ?_) (fun c34 => ?_)
    · refine V2_iconst (v := 1) d_R_joined_226 rfl ?_
      refine V2_goto (tgt := 231) d_R_joined_227 rfl ?_
      refine V2_ireturn d_R_joined_231 rfl ?_
      exact xQi hQ (by skip; simp_all [joinS, i32_div_m1, i32_mod_m1]) rfl
    · refine V2_iload_n (i := 2) d_R_joined_222 rfl rfl ?_
      refine V2_if_eq (tgt := 230) d_R_joined_223 rfl (fun c35 => ?_) (fun c35 => ?_)
      · refine V2_iconst (v := 0) d_R_joined_230 rfl ?_
        refine V2_ireturn d_R_joined_231 rfl ?_
        exact xQi hQ (by skip; simp_all [joinS, i32_div_m1, i32_mod_m1]) rfl
      · refine V2_iconst (v := 1) d_R_joined_226 rfl ?_
        refine V2_goto (tgt := 231) d_R_joined_227 rfl ?_
        refine V2_ireturn d_R_joined_231 rfl ?_
        exact xQi hQ (by skip; simp_all [joinS, i32_div_m1, i32_mod_m1]) rfl
  by_cases c1_54 : c = 54
  · refine V2_tableIn (tgt := 218) (off := 217) d_R_joined_1 (by rw [c1_54]; decide) (by rw [c1_54]; decide) (by rw [c1_54]; decide) rfl ?_
    refine V2_iload_n (i := 1) d_R_joined_218 rfl rfl ?_
    refine V2_if_ne (tgt := 226) d_R_joined_219 rfl (fun c36 => ?_) (fun c36 => ?_)
    · refine V2_iconst (v := 1) d_R_joined_226 rfl ?_
      refine V2_goto (tgt := 231) d_R_joined_227 rfl ?_
      refine V2_ireturn d_R_joined_231 rfl ?_
      exact xQi hQ (by skip; simp_all [joinS, i32_div_m1, i32_mod_m1]) rfl
    · refine V2_iload_n (i := 2) d_R_joined_222 rfl rfl ?_
      refine V2_if_eq (tgt := 230) d_R_joined_223 rfl (fun c37 => ?_) (fun c37 => ?_)
      · refine V2_iconst (v := 0) d_R_joined_230 rfl ?_
        refine V2_ireturn d_R_joined_231 rfl ?_
        exact xQi hQ (by skip; simp_all [joinS, i32_div_m1, i32_mod_m1]) rfl
      · refine V2_iconst (v := 1) d_R_joined_226 rfl ?_
        refine V2_goto (tgt := 231) d_R_joined_227 rfl ?_
        refine V2_ireturn d_R_joined_231 rfl ?_
        exact xQi hQ (by skip; simp_all [joinS, i32_div_m1, i32_mod_m1]) rfl
  by_cases c1_55 : c = 55
  · refine V2_tableIn (tgt := 218) (off := 217) d_R_joined_1 (by rw [c1_55]; decide) (by rw [c1_55]; decide) (by rw [c1_55]; decide) rfl ?_
    refine V2_iload_n (i := 1) d_R_joined_218 rfl rfl ?_
    refine V2_if_ne (tgt := 226) d_R_joined_219 rfl (fun c38 => ?_) (fun c38 => ?_)
    · refine V2_iconst (v := 1) d_R_joined_226 rfl ?_
      refine V2_goto (tgt := 231) d_R_joined_227 rfl ?_
      refine V2_ireturn d_R_joined_231 rfl ?_
      exact xQi hQ (by skip; simp_all [joinS, i32_div_m1, i32_mod_m1]) rfl
    · refine V2_iload_n (i := 2) d_R_joined_222 rfl rfl ?_
      refine V2_if_eq (tgt := 230) d_R_joined_223 rfl (fun c39 => ?_) (fun c39 => ?_)
      · refine V2_iconst (v := 0) d_R_joined_230 rfl ?_
        refine V2_ireturn d_R_joined_231 rfl ?_
        exact xQi hQ (by skip; simp_all [joinS, i32_div_m1, i32_mod_m1]) rfl
      · refine V2_iconst (v := 1) d_R_joined_226 rfl ?_
        refine V2_goto (tgt := 231) d_R_joined_227 rfl ?_
        refine V2_ireturn d_R_joined_231 rfl ?_
        exact xQi hQ (by skip; simp_all [joinS, i32_div_m1, i32_mod_m1]) rfl
  by_cases c1_56 : c = 56
  · refine V2_tableIn (tgt := 218) (off := 217) d_R_joined_1 (by rw [c1_56]; decide) (by rw [c1_56]; decide) (by rw [c1_56]; decide) rfl ?_
    refine V2_iload_n (i := 1) d_R_joined_218 rfl rfl ?_
    refine V2_if_ne (tgt := 226) d_R_joined_219 rfl (fun c40 => ?_) (fun c40 => ?_)
    · refine V2_iconst (v := 1) d_R_joined_226 rfl ?_
      refine V2_goto (tgt := 231) d_R_joined_227 rfl ?_
      refine V2_ireturn d_R_joined_231 rfl ?_
      exact xQi hQ (by skip; simp_all [joinS, i32_div_m1, i32_mod_m1]) rfl
    · refine V2_iload_n (i := 2) d_R_joined_222 rfl rfl ?_
      refine V2_if_eq (tgt := 230) d_R_joined_223 rfl (fun c41 => ?_) (fun c41 => ?_)
      · refine V2_iconst (v := 0) d_R_joined_230 rfl ?_
        refine V2_ireturn d_R_joined_231 rfl ?_
        exact xQi hQ (by skip; simp_all [joinS, i32_div_m1, i32_mod_m1]) rfl
      · refine V2_iconst (v := 1) d_R_joined_226 rfl ?_
        refine V2_goto (tgt := 231) d_R_joined_227 rfl ?_
        refine V2_ireturn d_R_joined_231 rfl ?_
        exact xQi hQ (by skip; simp_all [joinS, i32_div_m1, i32_mod_m1]) rfl
  by_cases c1_57 : c = 57
  · refine V2_tableIn (tgt := 218) (off := 217) d_R_joined_1 (by rw [c1_57]; decide) (by rw [c1_57]; decide) (by rw [c1_57]; decide) rfl ?_
    refine V2_iload_n (i := 1) d_R_joined_218 rfl rfl ?_
    refine V2_if_ne (tgt := 226) d_R_joined_219 rfl (fun c42 => ?_) (fun c42 => ?_)
    · refine V2_iconst (v := 1) d_R_joined_226 rfl ?_
      refine V2_goto (tgt := 231) d_R_joined_227 rfl ?_
      refine V2_ireturn d_R_joined_231 rfl ?_
      exact xQi hQ (by skip; simp_all [joinS, i32_div_m1, i32_mod_m1]) rfl
    · refine V2_iload_n (i := 2) d_R_joined_222 rfl rfl ?_
      refine V2_if_eq (tgt := 230) d_R_joined_223 rfl (fun c43 => ?_) (fun c43 => ?_)
      · refine V2_iconst (v := 0) d_R_joined_230 rfl ?_
        refine V2_ireturn d_R_joined_231 rfl ?_
        exact xQi hQ (by skip; simp_all [joinS, i32_div_m1, i32_mod_m1]) rfl
      · refine V2_iconst (v := 1) d_R_joined_226 rfl ?_
        refine V2_goto (tgt := 231) d_R_joined_227 rfl ?_
        refine V2_ireturn d_R_joined_231 rfl ?_
        exact xQi hQ (by skip; simp_all [joinS, i32_div_m1, i32_mod_m1]) rfl
  by_cases c1_58 : c = 58
  · refine V2_tableIn (tgt := 218) (off := 217) d_R_joined_1 (by rw [c1_58]; decide) (by rw [c1_58]; decide) (by rw [c1_58]; decide) rfl ?_
    refine V2_iload_n (i := 1) d_R_joined_218 rfl rfl ?_
    refine V2_if_ne (tgt := 226) d_R_joined_219 rfl (fun c44 => ?_) (fun c44 => ?_)
    · refine V2_iconst (v := 1) d_R_joined_226 rfl ?_
      refine V2_goto (tgt := 231) d_R_joined_227 rfl ?_
      refine V2_ireturn d_R_joined_231 rfl ?_
      exact xQi hQ (by skip; simp_all [joinS, i32_div_m1, i32_mod_m1]) rfl
    · refine V2_iload_n (i := 2) d_R_joined_222 rfl rfl ?_
      refine V2_if_eq (tgt := 230) d_R_joined_223 rfl (fun c45 => ?_) (fun c45 => ?_)
      · refine V2_iconst (v := 0) d_R_joined_230 rfl ?_
        refine V2_ireturn d_R_joined_231 rfl ?_
        exact xQi hQ (by skip; simp_all [joinS, i32_div_m1, i32_mod_m1]) rfl
      · refine V2_iconst (v := 1) d_R_joined_226 rfl ?_
        refine V2_goto (tgt := 231) d_R_joined_227 rfl ?_
        refine V2_ireturn d_R_joined_231 rfl ?_
        exact xQi hQ (by skip; simp_all [joinS, i32_div_m1, i32_mod_m1]) rfl
  by_cases c1_59 : c = 59
  · refine V2_tableIn (tgt := 218) (off := 217) d_R_joined_1 (by rw [c1_59]; decide) (by rw [c1_59]; decide) (by rw [c1_59]; decide) rfl ?_
    refine V2_iload_n (i := 1) d_R_joined_218 rfl rfl ?_
    refine V2_if_ne (tgt := 226) d_R_joined_219 rfl (fun c46 => ?_) (fun c46 => ?_)
    · refine V2_iconst (v := 1) d_R_joined_226 rfl ?_
      refine V2_goto (tgt := 231) d_R_joined_227 rfl ?_
      refine V2_ireturn d_R_joined_231 rfl ?_
      exact xQi hQ (by skip; simp_all [joinS, i32_div_m1, i32_mod_m1]) rfl
    · refine V2_iload_n (i := 2) d_R_joined_222 rfl rfl ?_
      refine V2_if_eq (tgt := 230) d_R_joined_223 rfl (fun c47 => ?_) (fun c47 => ?_)
      · refine V2_iconst (v := 0) d_R_joined_230 rfl ?_
        refine V2_ireturn d_R_joined_231 rfl ?_
        exact xQi hQ (by skip; simp_all [joinS, i32_div_m1, i32_mod_m1]) rfl
      · refine V2_iconst (v := 1) d_R_joined_226 rfl ?_
        refine V2_goto (tgt := 231) d_R_joined_227 rfl ?_
        refine V2_ireturn d_R_joined_231 rfl ?_
        exact xQi hQ (by skip; simp_all [joinS, i32_div_m1, i32_mod_m1]) rfl
  by_cases c1_60 : c = 60
  · refine V2_tableIn (tgt := 171) (off := 170) d_R_joined_1 (by rw [c1_60]; decide) (by rw [c1_60]; decide) (by rw [c1_60]; decide) rfl ?_
    refine V2_iload_n (i := 1) d_R_joined_171 rfl rfl ?_
    refine V2_iload_n (i := 2) d_R_joined_172 rfl rfl ?_
    refine V2_icmp_ge (tgt := 180) d_R_joined_173 rfl (fun c48 => ?_) (fun c48 => ?_)
    · refine V2_iconst (v := 0) d_R_joined_180 rfl ?_
      refine V2_ireturn d_R_joined_181 rfl ?_
      exact xQi hQ (by skip; simp_all [joinS, i32_div_m1, i32_mod_m1]) rfl
    · refine V2_iconst (v := 1) d_R_joined_176 rfl ?_
      refine V2_goto (tgt := 181) d_R_joined_177 rfl ?_
      refine V2_ireturn d_R_joined_181 rfl ?_
      exact xQi hQ (by skip; simp_all [joinS, i32_div_m1, i32_mod_m1]) rfl
  by_cases c1_61 : c = 61
  · refine V2_tableIn (tgt := 193) (off := 192) d_R_joined_1 (by rw [c1_61]; decide) (by rw [c1_61]; decide) (by rw [c1_61]; decide) rfl ?_
    refine V2_iload_n (i := 1) d_R_joined_193 rfl rfl ?_
    refine V2_iload_n (i := 2) d_R_joined_194 rfl rfl ?_
    refine V2_icmp_ne (tgt := 202) d_R_joined_195 rfl (fun c49 => ?_) (fun c49 => ?_)
    · refine V2_iconst (v := 0) d_R_joined_202 rfl ?_
      refine V2_ireturn d_R_joined_203 rfl ?_
      exact xQi hQ (by skip; simp_all [joinS, i32_div_m1, i32_mod_m1]) rfl
    · refine V2_iconst (v := 1) d_R_joined_198 rfl ?_
      refine V2_goto (tgt := 203) d_R_joined_199 rfl ?_
      refine V2_ireturn d_R_joined_203 rfl ?_
      exact xQi hQ (by skip; simp_all [joinS, i32_div_m1, i32_mod_m1]) rfl
  by_cases c1_62 : c = 62
  · refine V2_tableIn (tgt := 182) (off := 181) d_R_joined_1 (by rw [c1_62]; decide) (by rw [c1_62]; decide) (by rw [c1_62]; decide) rfl ?_
    refine V2_iload_n (i := 1) d_R_joined_182 rfl rfl ?_
    refine V2_iload_n (i := 2) d_R_joined_183 rfl rfl ?_
    refine V2_icmp_le (tgt := 191) d_R_joined_184 rfl (fun c50 => ?_) (fun c50 => ?_)
    · refine V2_iconst (v := 0) d_R_joined_191 rfl ?_
      refine V2_ireturn d_R_joined_192 rfl ?_
      exact xQi hQ (by skip; simp_all [joinS, i32_div_m1, i32_mod_m1]) rfl
    · refine V2_iconst (v := 1) d_R_joined_187 rfl ?_
      refine V2_goto (tgt := 192) d_R_joined_188 rfl ?_
      refine V2_ireturn d_R_joined_192 rfl ?_
      exact xQi hQ (by skip; simp_all [joinS, i32_div_m1, i32_mod_m1]) rfl
  refine V2_tableOut (tgt := 218) d_R_joined_1 (by have := lv_neT (a := 37) c1_37 rfl; have := lv_neT (a := 38) c1_38 rfl; have := lv_neT (a := 39) c1_39 rfl; have := lv_neT (a := 40) c1_40 rfl; have := lv_neT (a := 41) c1_41 rfl; have := lv_neT (a := 42) c1_42 rfl; have := lv_neT (a := 43) c1_43 rfl; have := lv_neT (a := 44) c1_44 rfl; have := lv_neT (a := 45) c1_45 rfl; have := lv_neT (a := 46) c1_46 rfl; have := lv_neT (a := 47) c1_47 rfl; have := lv_neT (a := 48) c1_48 rfl; have := lv_neT (a := 49) c1_49 rfl; have := lv_neT (a := 50) c1_50 rfl; have := lv_neT (a := 51) c1_51 rfl; have := lv_neT (a := 52) c1_52 rfl; have := lv_neT (a := 53) c1_53 rfl; have := lv_neT (a := 54) c1_54 rfl; have := lv_neT (a := 55) c1_55 rfl; have := lv_neT (a := 56) c1_56 rfl; have := lv_neT (a := 57) c1_57 rfl; have := lv_neT (a := 58) c1_58 rfl; have := lv_neT (a := 59) c1_59 rfl; have := lv_neT (a := 60) c1_60 rfl; have := lv_neT (a := 61) c1_61 rfl; have := lv_neT (a := 62) c1_62 rfl; omega) rfl ?_
  refine V2_iload_n (i := 1) d_R_joined_218 rfl rfl ?_
  refine V2_if_ne (tgt := 226) d_R_joined_219 rfl (fun c51 => ?_) (fun c51 => ?_)
  · refine V2_iconst (v := 1) d_R_joined_226 rfl ?_
    refine V2_goto (tgt := 231) d_R_joined_227 rfl ?_
    refine V2_ireturn d_R_joined_231 rfl ?_
    exact xQi hQ (by skip; simp_all [joinS, i32_div_m1, i32_mod_m1]) rfl
  · refine V2_iload_n (i := 2) d_R_joined_222 rfl rfl ?_
    refine V2_if_eq (tgt := 230) d_R_joined_223 rfl (fun c52 => ?_) (fun c52 => ?_)
    · refine V2_iconst (v := 0) d_R_joined_230 rfl ?_
      refine V2_ireturn d_R_joined_231 rfl ?_
      exact xQi hQ (by skip; simp_all [joinS, i32_div_m1, i32_mod_m1]) rfl
    · refine V2_iconst (v := 1) d_R_joined_226 rfl ?_
      refine V2_goto (tgt := 231) d_R_joined_227 rfl ?_
      refine V2_ireturn d_R_joined_231 rfl ?_
      exact xQi hQ (by skip; simp_all [joinS, i32_div_m1, i32_mod_m1]) rfl
