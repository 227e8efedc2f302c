/-! texts read: what a row of bytes becomes, purely -/
/-- where the reading stands, and the steps so far -/
abbrev PS : Type := Nat × Nat × (Nat → Int32) × (Nat → Int32)
abbrev PS.at_ (s : PS) : Nat := s.1
abbrev PS.n (s : PS) : Nat := s.2.1
abbrev PS.wh (s : PS) : Nat → Int32 := s.2.2.1
abbrev PS.vl (s : PS) : Nat → Int32 := s.2.2.2
def PS.go (s : PS) : PS := ⟨s.at_ + 1, s.n, s.wh, s.vl⟩
def PS.to_ (s : PS) (a : Nat) : PS := ⟨a, s.n, s.wh, s.vl⟩
def PS.add (s : PS) (w v : Int32) : PS := ⟨s.at_, s.n + 1, upd s.wh s.n w, upd s.vl s.n v⟩
def PS.dep (s : PS) : Nat := depT s.wh s.n
/-- the byte at hand -/
def sgT (T : Nat → Int32) (N a : Nat) : Int32 := if a < N then T a else -1
abbrev dgT (c : Int32) : Prop := 48 ≤ c.toInt ∧ c.toInt ≤ 57
def nmT (use : Nat) (c : Int32) : Prop := isName use c
noncomputable def lvT (c : Int32) : Nat := if c = 124 then 0 else if c = 38 then 1 else if c = 60 ∨ c = 61 ∨ c = 62 then 2 else if c = 43 ∨ c = 45 then 3 else if c = 42 ∨ c = 47 ∨ c = 37 then 4 else 5
def andT (r : Bool × PS) (f : PS → Bool × PS) : Bool × PS := if r.1 = true then f r.2 else r
theorem andT_t {r : Bool × PS} {f : PS → Bool × PS} (h : r.1 = true) : andT r f = f r.2 := if_pos h
theorem andT_f {r : Bool × PS} {f : PS → Bool × PS} (h : r.1 = false) : andT r f = r := if_neg (by rw [h]; decide)
/-- a number's digits, four at most -/
noncomputable def numT (T : Nat → Int32) (N : Nat) : Nat → Nat → Int32 → Nat × Int32
  | 0, a, v => (a, v)
  | k + 1, a, v => if dgT (sgT T N a) then numT T N k (a + 1) (v * 10 + sgT T N a - 48) else (a, v)
noncomputable def lpT (T : Nat → Int32) (N : Nat) (p : PS → Bool × PS) (lev : Nat) : Nat → PS → Bool × PS
  | 0, s => (true, s)
  | f + 1, s => if lvT (sgT T N s.at_) = lev then andT (p s.go) (fun s' => lpT T N p lev f (s'.add 3 (sgT T N s.at_))) else (true, s)
noncomputable def lvS (T : Nat → Int32) (N : Nat) (lev most : Nat) (p : PS → Bool × PS) (s : PS) : Bool × PS := andT (p s) (lpT T N p lev most)
noncomputable def wholeT (T : Nat → Int32) (N : Nat) (p : PS → Bool × PS) : PS → Bool × PS := lvS T N 0 60 (lvS T N 1 60 (lvS T N 2 1 (lvS T N 3 60 (lvS T N 4 60 p))))
noncomputable def leafG (T : Nat → Int32) (N use : Nat) (o1 o2 : PS → Bool × PS) (s : PS) : Bool × PS :=
  if dgT (sgT T N s.at_) then (true, (s.to_ (numT T N 4 s.at_ 0).1).add 0 (numT T N 4 s.at_ 0).2)
  else if sgT T N s.at_ = 33 then o1 s else if sgT T N s.at_ = 40 then o2 s
  else @ite _ (nmT use (sgT T N s.at_)) (Classical.propDecidable _) (true, s.go.add 1 (sgT T N s.at_)) (false, s)
noncomputable def notT (p : PS → Bool × PS) (s : PS) : Bool × PS := andT (p s.go) (fun s' => (true, s'.add 2 0))
noncomputable def parT (T : Nat → Int32) (N : Nat) (p : PS → Bool × PS) (s : PS) : Bool × PS := andT (p s.go) (fun s' => if sgT T N s'.at_ = 41 then (true, s'.go) else (false, s'))
noncomputable def leafT (T : Nat → Int32) (N use : Nat) : Nat → PS → Bool × PS
  | 0 => leafG T N use (fun s => (false, s)) (fun s => (false, s))
  | r + 1 => leafG T N use (notT (leafT T N use r)) (parT T N (wholeT T N (leafT T N use r)))
/-! what a reading keeps -/
def okR (use : Nat) (s : PS) : Prop := ∀ k, k < s.n → okStep use (s.wh k) (s.vl k) (depT s.wh k)
def goodT (N use : Nat) (p : PS → Bool × PS) : Prop := ∀ s : PS, okR use s → s.at_ ≤ N → s.at_ ≤ (p s).2.at_ ∧ (p s).2.at_ ≤ N ∧ ((p s).1 = true → s.at_ < (p s).2.at_ ∧ (p s).2.n + s.at_ ≤ (p s).2.at_ + s.n ∧ okR use (p s).2 ∧ (p s).2.dep = s.dep + 1)
theorem depT_upd {wh : Nat → Int32} {n : Nat} {w : Int32} : ∀ k, k ≤ n → depT (upd wh n w) k = depT wh k := by
  intro k
  induction k with
  | zero => intro _; rfl
  | succ k ih =>
    intro hk
    show (if upd wh n w k = 0 ∨ upd wh n w k = 1 then depT (upd wh n w) k + 1 else if upd wh n w k = 2 then depT (upd wh n w) k else depT (upd wh n w) k - 1) = (if wh k = 0 ∨ wh k = 1 then depT wh k + 1 else if wh k = 2 then depT wh k else depT wh k - 1)
    rw [ih (by omega), upd_ne (by omega)]
theorem dep_add (s : PS) (w v : Int32) : (s.add w v).dep = if w = 0 ∨ w = 1 then s.dep + 1 else if w = 2 then s.dep else s.dep - 1 := by
  show (if upd s.wh s.n w s.n = 0 ∨ upd s.wh s.n w s.n = 1 then depT (upd s.wh s.n w) s.n + 1 else if upd s.wh s.n w s.n = 2 then depT (upd s.wh s.n w) s.n else depT (upd s.wh s.n w) s.n - 1) = _
  rw [depT_upd s.n (Nat.le_refl _), upd_same]
  rfl
theorem ok_add {use : Nat} {s : PS} {w v : Int32} (h : okR use s) (hs : okStep use w v s.dep) : okR use (s.add w v) := by
  intro k hk
  have hk' : k < s.n + 1 := hk
  show okStep use (upd s.wh s.n w k) (upd s.vl s.n v k) (depT (upd s.wh s.n w) k)
  rw [depT_upd k (by omega)]
  by_cases e : k = s.n
  · subst e
    rw [upd_same, upd_same]
    exact hs
  · rw [upd_ne e, upd_ne e]
    exact h k (by omega)
theorem lv_sign {c : Int32} (h : lvT c ≤ 4) : isSign c := by
  unfold lvT at h
  unfold isSign
  by_cases h1 : c = 124
  · simp [h1]
  by_cases h2 : c = 38
  · simp [h2]
  by_cases h3 : c = 60 ∨ c = 61 ∨ c = 62
  · rcases h3 with h3 | h3 | h3 <;> simp [h3]
  by_cases h4 : c = 43 ∨ c = 45
  · rcases h4 with h4 | h4 <;> simp [h4]
  by_cases h5 : c = 42 ∨ c = 47 ∨ c = 37
  · rcases h5 with h5 | h5 | h5 <;> simp [h5]
  rw [if_neg h1, if_neg h2, if_neg h3, if_neg h4, if_neg h5] at h
  omega
theorem sg_m1 {T : Nat → Int32} {N a : Nat} (h : N ≤ a) : sgT T N a = -1 := if_neg (by omega)
theorem sg_lt {T : Nat → Int32} {N a : Nat} {c : Int32} (h : sgT T N a = c) (hc : ¬ c = -1) : a < N := by
  rcases Nat.lt_or_ge a N with h1 | h1
  · exact h1
  · rw [sg_m1 h1] at h
    exact absurd h.symm hc
theorem lvT_lt {T : Nat → Int32} {N a l : Nat} (h : lvT (sgT T N a) = l) (hl : l ≤ 4) : a < N := by
  rcases Nat.lt_or_ge a N with h1 | h1
  · exact h1
  · rw [sg_m1 h1] at h
    have e : lvT (-1) = 5 := by simp [lvT]
    omega
theorem dg_lt {T : Nat → Int32} {N a : Nat} (h : dgT (sgT T N a)) : a < N := by
  rcases Nat.lt_or_ge a N with h1 | h1
  · exact h1
  · rw [sg_m1 h1] at h
    exact absurd h.1 (by decide)
theorem good_lp {T : Nat → Int32} {N use lev : Nat} {p : PS → Bool × PS} (hp : goodT N use p) (hl : lev ≤ 4) : ∀ f (s : PS), okR use s → s.at_ ≤ N → 1 ≤ s.dep → s.at_ ≤ (lpT T N p lev f s).2.at_ ∧ (lpT T N p lev f s).2.at_ ≤ N ∧ ((lpT T N p lev f s).1 = true → (lpT T N p lev f s).2.n + s.at_ ≤ (lpT T N p lev f s).2.at_ + s.n ∧ okR use (lpT T N p lev f s).2 ∧ (lpT T N p lev f s).2.dep = s.dep) := by
  intro f
  induction f with
  | zero => intro s h1 h2 h4; exact ⟨Nat.le_refl _, h2, fun _ => ⟨by show s.n + s.at_ ≤ s.at_ + s.n; omega, h1, rfl⟩⟩
  | succ f ih =>
    intro s h1 h2 h4
    unfold lpT
    by_cases hc : lvT (sgT T N s.at_) = lev
    · rw [if_pos hc]
      have hlt := lvT_lt hc hl
      have e1 : s.go.at_ = s.at_ + 1 := rfl
      have e2 : s.go.n = s.n := rfl
      obtain ⟨g1, g2, g3⟩ := hp s.go h1 (by omega)
      cases hb : (p s.go).1 with
      | false =>
        rw [andT_f hb]
        exact ⟨by omega, g2, fun h => absurd (hb.symm.trans h) (by decide)⟩
      | true =>
        rw [andT_t hb]
        obtain ⟨k1, k2, k3, k4⟩ := g3 hb
        have e3 : s.go.dep = s.dep := rfl
        have e4 := dep_add (p s.go).2 3 (sgT T N s.at_)
        rw [if_neg (by decide), if_neg (by decide)] at e4
        have e5 : ((p s.go).2.add 3 (sgT T N s.at_)).at_ = (p s.go).2.at_ := rfl
        have e6 : ((p s.go).2.add 3 (sgT T N s.at_)).n = (p s.go).2.n + 1 := rfl
        obtain ⟨j1, j2, j3⟩ := ih ((p s.go).2.add 3 (sgT T N s.at_)) (ok_add k3 (Or.inr (Or.inr (Or.inr ⟨rfl, by omega, lv_sign (by omega)⟩)))) (by omega) (by omega)
        exact ⟨by omega, j2, fun h => ⟨by have := (j3 h).1; omega, (j3 h).2.1, by have := (j3 h).2.2; omega⟩⟩
    · rw [if_neg hc]
      exact ⟨Nat.le_refl _, h2, fun _ => ⟨by show s.n + s.at_ ≤ s.at_ + s.n; omega, h1, rfl⟩⟩
theorem good_lv {T : Nat → Int32} {N use lev most : Nat} {p : PS → Bool × PS} (hp : goodT N use p) (hl : lev ≤ 4) : goodT N use (lvS T N lev most p) := by
  intro s h1 h2
  obtain ⟨g1, g2, g3⟩ := hp s h1 h2
  unfold lvS
  cases hb : (p s).1 with
  | false =>
    rw [andT_f hb]
    exact ⟨g1, g2, fun h => absurd (hb.symm.trans h) (by decide)⟩
  | true =>
    rw [andT_t hb]
    obtain ⟨k1, k2, k3, k4⟩ := g3 hb
    obtain ⟨j1, j2, j3⟩ := good_lp (T := T) hp hl most (p s).2 k3 g2 (by omega)
    exact ⟨by omega, j2, fun h => ⟨by omega, by have := (j3 h).1; omega, (j3 h).2.1, by have := (j3 h).2.2; omega⟩⟩
theorem good_whole {T : Nat → Int32} {N use : Nat} {p : PS → Bool × PS} (hp : goodT N use p) : goodT N use (wholeT T N p) :=
  good_lv (good_lv (good_lv (good_lv (good_lv hp (by decide)) (by decide)) (by decide)) (by decide)) (by decide)
theorem num_step {v c : Int32} {m : Int} (h0 : 0 ≤ v.toInt) (h1 : v.toInt ≤ m) (hm : m ≤ 999) (hc : dgT c) : 0 ≤ (v * 10 + c - 48).toInt ∧ (v * 10 + c - 48).toInt ≤ 10 * m + 9 := by
  have q10 : (10 : Int32).toInt = 10 := by decide
  have q48 : (48 : Int32).toInt = 48 := by decide
  obtain ⟨c0, c1⟩ := hc
  have e1 : (v * 10).toInt = v.toInt * 10 := by
    rw [Int32.toInt_mul, q10, Int.bmod_eq_of_le (by omega) (by omega)]
  have e2 : (v * 10 + c).toInt = v.toInt * 10 + c.toInt := by
    rw [toI_add (by omega) (by omega) (by omega) (by omega), e1]
  rw [toI_sub (by omega) (by omega) (by omega) (by omega), e2, q48]
  omega
theorem num_le {T : Nat → Int32} {N : Nat} : ∀ k a (v : Int32), a ≤ N → a ≤ (numT T N k a v).1 ∧ (numT T N k a v).1 ≤ N := by
  intro k
  induction k with
  | zero => intro a v h1; exact ⟨Nat.le_refl _, h1⟩
  | succ k ih =>
    intro a v h1
    unfold numT
    by_cases hd : dgT (sgT T N a)
    · rw [if_pos hd]
      have hlt := dg_lt hd
      have := ih (a + 1) (v * 10 + sgT T N a - 48) (by omega)
      omega
    · rw [if_neg hd]
      exact ⟨Nat.le_refl _, h1⟩
theorem num_lt {T : Nat → Int32} {N k a : Nat} {v : Int32} (h : dgT (sgT T N a)) : a < (numT T N (k + 1) a v).1 := by
  unfold numT
  rw [if_pos h]
  have hlt := dg_lt h
  have := (num_le (T := T) (N := N) k (a + 1) (v * 10 + sgT T N a - 48) (by omega)).1
  omega
theorem num_in {T : Nat → Int32} {N a : Nat} : 0 ≤ (numT T N 4 a 0).2.toInt ∧ (numT T N 4 a 0).2.toInt ≤ 9999 := by
  have step : ∀ (k a : Nat) (v : Int32) (m M : Int), 0 ≤ v.toInt → v.toInt ≤ m → m ≤ 999 → (∀ a' (v' : Int32), 0 ≤ v'.toInt → v'.toInt ≤ 10 * m + 9 → 0 ≤ (numT T N k a' v').2.toInt ∧ (numT T N k a' v').2.toInt ≤ M) → m ≤ M → 0 ≤ (numT T N (k + 1) a v).2.toInt ∧ (numT T N (k + 1) a v).2.toInt ≤ M := by
    intro k a v m M h0 h1 hm ih hM
    unfold numT
    by_cases hd : dgT (sgT T N a)
    · rw [if_pos hd]
      have := num_step h0 h1 hm hd
      exact ih _ _ this.1 this.2
    · rw [if_neg hd]
      exact ⟨h0, by show v.toInt ≤ M; omega⟩
  refine step 3 a 0 0 9999 (by decide) (by decide) (by decide) (fun a v h0 h1 => ?_) (by decide)
  refine step 2 a v 9 9999 h0 (by omega) (by decide) (fun a v h0 h1 => ?_) (by decide)
  refine step 1 a v 99 9999 h0 (by omega) (by decide) (fun a v h0 h1 => ?_) (by decide)
  refine step 0 a v 999 9999 h0 (by omega) (by decide) (fun a v h0 h1 => ?_) (by decide)
  exact ⟨h0, by show v.toInt ≤ 9999; omega⟩
theorem good_leaf {T : Nat → Int32} {N use : Nat} {o1 o2 : PS → Bool × PS} (h1 : ∀ s, okR use s → sgT T N s.at_ = 33 → s.at_ ≤ N → s.at_ ≤ (o1 s).2.at_ ∧ (o1 s).2.at_ ≤ N ∧ ((o1 s).1 = true → s.at_ < (o1 s).2.at_ ∧ (o1 s).2.n + s.at_ ≤ (o1 s).2.at_ + s.n ∧ okR use (o1 s).2 ∧ (o1 s).2.dep = s.dep + 1))
    (h2 : ∀ s, okR use s → sgT T N s.at_ = 40 → s.at_ ≤ N → s.at_ ≤ (o2 s).2.at_ ∧ (o2 s).2.at_ ≤ N ∧ ((o2 s).1 = true → s.at_ < (o2 s).2.at_ ∧ (o2 s).2.n + s.at_ ≤ (o2 s).2.at_ + s.n ∧ okR use (o2 s).2 ∧ (o2 s).2.dep = s.dep + 1)) : goodT N use (leafG T N use o1 o2) := by
  intro s hs ha
  unfold leafG
  by_cases c1 : dgT (sgT T N s.at_)
  · rw [if_pos c1]
    have hlt := dg_lt c1
    have g := num_le (T := T) (N := N) 4 s.at_ 0 ha
    have g2 : s.at_ < (numT T N 4 s.at_ 0).1 := num_lt (T := T) (N := N) (k := 3) (v := 0) c1
    have g3 := num_in (T := T) (N := N) (a := s.at_)
    have e4 := dep_add (s.to_ (numT T N 4 s.at_ 0).1) 0 (numT T N 4 s.at_ 0).2
    rw [if_pos (Or.inl rfl)] at e4
    refine ⟨g.1, g.2, fun _ => ⟨g2, ?_, ok_add (s := s.to_ _) hs (Or.inl ⟨rfl, ?_, ?_⟩), e4⟩⟩
    · show s.n + 1 + s.at_ ≤ (numT T N 4 s.at_ 0).1 + s.n
      omega
    · rw [toI_le]
      exact g3.1
    · rw [toI_le]
      exact g3.2
  rw [if_neg c1]
  by_cases c2 : sgT T N s.at_ = 33
  · rw [if_pos c2]
    exact h1 s hs c2 ha
  rw [if_neg c2]
  by_cases c3 : sgT T N s.at_ = 40
  · rw [if_pos c3]
    exact h2 s hs c3 ha
  rw [if_neg c3]
  by_cases c4 : nmT use (sgT T N s.at_)
  · rw [if_pos c4]
    have hlt : s.at_ < N := by
      rcases Nat.lt_or_ge s.at_ N with h | h
      · exact h
      · rw [sg_m1 h] at c4
        unfold nmT isName at c4
        split at c4 <;> simp at c4
    have e4 := dep_add s.go 1 (sgT T N s.at_)
    rw [if_pos (Or.inr rfl)] at e4
    refine ⟨Nat.le_succ _, hlt, fun _ => ⟨Nat.lt_succ_self _, ?_, ok_add (s := s.go) hs (Or.inr (Or.inl ⟨rfl, c4⟩)), e4⟩⟩
    show s.n + 1 + s.at_ ≤ s.at_ + 1 + s.n
    omega
  · rw [if_neg c4]
    exact ⟨Nat.le_refl _, ha, fun h => Bool.noConfusion h⟩
theorem good_T {T : Nat → Int32} {N use : Nat} : ∀ r, goodT N use (leafT T N use r) := by
  intro r
  induction r with
  | zero => exact good_leaf (fun s hs hc ha => ⟨Nat.le_refl _, ha, fun h => Bool.noConfusion h⟩) (fun s hs hc ha => ⟨Nat.le_refl _, ha, fun h => Bool.noConfusion h⟩)
  | succ r ih =>
    refine good_leaf (fun s hs hc ha => ?_) (fun s hs hc ha => ?_)
    · have hlt := sg_lt hc (by decide)
      have e1 : s.go.at_ = s.at_ + 1 := rfl
      have e2 : s.go.n = s.n := rfl
      have e3 : s.go.dep = s.dep := rfl
      obtain ⟨g1, g2, g3⟩ := ih s.go hs (by omega)
      unfold notT
      cases hb : (leafT T N use r s.go).1 with
      | false =>
        rw [andT_f hb]
        exact ⟨by omega, g2, fun h => absurd (hb.symm.trans h) (by decide)⟩
      | true =>
        rw [andT_t hb]
        obtain ⟨k1, k2, k3, k4⟩ := g3 hb
        have e4 := dep_add (leafT T N use r s.go).2 2 0
        rw [if_neg (by decide), if_pos rfl] at e4
        refine ⟨by show s.at_ ≤ (leafT T N use r s.go).2.at_; omega, g2, fun _ => ⟨by show s.at_ < (leafT T N use r s.go).2.at_; omega, ?_, ok_add k3 (Or.inr (Or.inr (Or.inl ⟨rfl, by omega⟩))), e4.trans (by omega)⟩⟩
        show (leafT T N use r s.go).2.n + 1 + s.at_ ≤ (leafT T N use r s.go).2.at_ + s.n
        omega
    · have hlt := sg_lt hc (by decide)
      have e1 : s.go.at_ = s.at_ + 1 := rfl
      have e2 : s.go.n = s.n := rfl
      have e3 : s.go.dep = s.dep := rfl
      obtain ⟨g1, g2, g3⟩ := good_whole (T := T) ih s.go hs (by omega)
      unfold parT
      cases hb : (wholeT T N (leafT T N use r) s.go).1 with
      | false =>
        rw [andT_f hb]
        exact ⟨by omega, g2, fun h => absurd (hb.symm.trans h) (by decide)⟩
      | true =>
        rw [andT_t hb]
        obtain ⟨k1, k2, k3, k4⟩ := g3 hb
        by_cases hp : sgT T N (wholeT T N (leafT T N use r) s.go).2.at_ = 41
        · rw [if_pos hp]
          have hl2 := sg_lt hp (by decide)
          refine ⟨by show s.at_ ≤ (wholeT T N (leafT T N use r) s.go).2.at_ + 1; omega, hl2, fun _ => ⟨by show s.at_ < (wholeT T N (leafT T N use r) s.go).2.at_ + 1; omega, ?_, k3, by rw [← e3]; exact k4⟩⟩
          show (wholeT T N (leafT T N use r) s.go).2.n + s.at_ ≤ (wholeT T N (leafT T N use r) s.go).2.at_ + 1 + s.n
          omega
        · rw [if_neg hp]
          exact ⟨by show s.at_ ≤ (wholeT T N (leafT T N use r) s.go).2.at_; omega, g2, fun h => Bool.noConfusion h⟩

/-! the class's Reader against it -/
def TPc (B : xF) (T : Nat → Int32) (N : Nat) : Prop := B 48 1 = nI N ∧ N ≤ 60 ∧ ∀ i, i < N → B 49 i = T i
def CR (B : xF) (use : Nat) (s : PS) (F : xF) : Prop := (∀ a, ¬ a = 47 → ¬ a = 50 → ¬ a = 51 → F a = B a) ∧ F 47 2 = nI use ∧ F 47 3 = nI s.at_ ∧ F 50 1 = nI s.n ∧ ∀ i, i < s.n → F 51 i = encT (s.wh i) (s.vl i)
def CRf (B : xF) (o : Nat) (s : PS) (F : xF) : Prop := (∀ a, ¬ a = 47 → ¬ a = 50 → ¬ a = 51 → F a = B a) ∧ F 47 3 = nI s.at_ ∧ ∃ m, m + o ≤ s.at_ ∧ F 50 1 = nI m
def RESc (B : xF) (use o : Nat) (x : Bool × PS) (r : Int32) (F : xF) : Prop := (r = 1 ∧ x.1 = true ∧ CR B use x.2 F) ∨ (r = 0 ∧ x.1 = false ∧ CRf B o x.2 F)
theorem cr_go {B F : xF} {use : Nat} {s : PS} (h : CR B use s F) : CR B use s.go (xp F 47 3 (F 47 3 + 1)) := by
  obtain ⟨h1, h2, h3, h4, h5⟩ := h
  refine ⟨fun a x y z => (xp_row_ne x).trans (h1 a x y z), ?_, ?_, ?_, ?_⟩
  · rw [xp_ne (Or.inr (by decide))]
    exact h2
  · rw [xp_same, h3, nI_1]
    rfl
  · rw [xp_row_ne (by decide)]
    exact h4
  · intro i hi
    rw [xp_row_ne (by decide)]
    exact h5 i hi
theorem cr_add {B F : xF} {use : Nat} {s : PS} {w v x : Int32} (h : CR B use s F) (e : x = encT w v) : CR B use (s.add w v) (xp (xp F 51 s.n x) 50 1 (nI (s.n + 1))) := by
  obtain ⟨h1, h2, h3, h4, h5⟩ := h
  refine ⟨fun a x y z => (xp_row_ne y).trans ((xp_row_ne z).trans (h1 a x y z)), ?_, ?_, ?_, ?_⟩
  · rw [xp_row_ne (by decide), xp_row_ne (by decide)]
    exact h2
  · rw [xp_row_ne (by decide), xp_row_ne (by decide)]
    exact h3
  · rw [xp_same]
    rfl
  · intro i hi
    have hi' : i < s.n + 1 := hi
    rw [xp_row_ne (by decide)]
    show _ = encT (upd s.wh s.n w i) (upd s.vl s.n v i)
    by_cases ei : i = s.n
    · subst ei
      rw [xp_same, upd_same, upd_same]
      exact e
    · rw [xp_ne (Or.inr ei), upd_ne ei, upd_ne ei]
      exact h5 i (by omega)
theorem cr_fail {B F : xF} {use o : Nat} {s : PS} (h : CR B use s F) (ho : s.n + o ≤ s.at_) : CRf B o s F := ⟨h.1, h.2.2.1, s.n, ho, h.2.2.2.1⟩
theorem crf_down {B F : xF} {o : Nat} {s : PS} (h : CRf B (o + 1) s F) : CRf B o s F := by
  obtain ⟨h1, h2, m, hm, h3⟩ := h
  exact ⟨h1, h2, m, by omega, h3⟩
theorem crf_add {B F : xF} {o m : Nat} {s : PS} {x : Int32} (h : CRf B (o + 1) s F) (hm : m + (o + 1) ≤ s.at_) : CRf B o s (xp (xp F 51 m x) 50 1 (nI (m + 1))) := by
  obtain ⟨h1, h2, h3⟩ := h
  refine ⟨fun a x y z => (xp_row_ne y).trans ((xp_row_ne z).trans (h1 a x y z)), ?_, m + 1, by omega, xp_same _ _ _ _⟩
  rw [xp_row_ne (by decide), xp_row_ne (by decide)]
  exact h2
theorem cr_48 {B F : xF} {use : Nat} {s : PS} (h : CR B use s F) : F 48 = B 48 := h.1 48 (by decide) (by decide) (by decide)
theorem cr_49 {B F : xF} {use : Nat} {s : PS} (h : CR B use s F) : F 49 = B 49 := h.1 49 (by decide) (by decide) (by decide)
/-- the number of a sign's level, as the class tells it -/
noncomputable def lvI (c : Int32) : Int32 := if lvT c = 5 then -1 else nI (lvT c)
theorem lvT_le (c : Int32) : lvT c ≤ 5 := by
  unfold lvT
  repeat' split
  all_goals omega
theorem lvI_eq {c : Int32} {l : Nat} (hl : l ≤ 4) : lvI c = nI l ↔ lvT c = l := by
  have h5 := lvT_le c
  have el := nI_toInt (n := l) (by omega)
  have e1 : (-1 : Int32).toInt = -1 := by decide
  unfold lvI
  constructor
  · intro h
    by_cases h9 : lvT c = 5
    · rw [if_pos h9, ← Int32.toInt_inj, el, e1] at h
      omega
    · rw [if_neg h9, ← Int32.toInt_inj, el, nI_toInt (by omega)] at h
      omega
  · intro h
    rw [if_neg (by omega), h]
def nmI (u c : Int32) : Int32 := if c = 100 then 2 else if u = 0 then (if c = 105 then 1 else if c = 119 then 3 else 0) else (if c = 104 then 1 else if c = 110 then 3 else 0)
theorem nmI_0 {use : Nat} {c : Int32} (hu : use ≤ 1) : nmI (nI use) c = 0 ↔ ¬ nmT use c := by
  unfold nmI nmT isName
  have h2 : ¬ (2 : Int32) = 0 := by decide
  have h1 : ¬ (1 : Int32) = 0 := by decide
  have h3 : ¬ (3 : Int32) = 0 := by decide
  by_cases e : use = 0
  · subst e
    have e0 : nI 0 = 0 := rfl
    by_cases a : c = 100 <;> by_cases b : c = 105 <;> by_cases d : c = 119 <;> simp [a, b, d, e0, h1, h2, h3]
  · have e1 : use = 1 := by omega
    subst e1
    have e0 : ¬ nI 1 = 0 := by decide
    by_cases a : c = 100 <;> by_cases b : c = 104 <;> by_cases d : c = 110 <;> simp [a, b, d, e0, h1, h2, h3]
theorem nmI_enc {use : Nat} {c : Int32} (hu : use ≤ 1) (h : nmT use c) : -nmI (nI use) c = encT 1 c := by
  rw [encT_1 rfl]
  unfold nmI
  unfold nmT isName at h
  by_cases e : use = 0
  · subst e
    rw [if_pos rfl] at h
    have e0 : nI 0 = 0 := rfl
    rcases h with rfl | rfl | rfl <;> decide
  · have e1 : use = 1 := by omega
    subst e1
    rw [if_neg (by decide)] at h
    rcases h with rfl | rfl | rfl <;> decide
theorem dg_xb {c : Int32} : (48 ≤ c ∧ c ≤ 57) ↔ dgT c := by
  unfold dgT
  rw [toI_le, toI_le]
  exact Iff.rfl
theorem c_Read_sign {L : Nat} {xs : Nat → Int32} {d : Nat} {Q : Option Value → xF → Prop} {F : xF} {T : Nat → Int32} {N a : Nat} (hT : F 48 1 = nI N) (hN : N ≤ 60) (hTi : ∀ i, i < N → F 49 i = T i) (ha : F 47 3 = nI a) (hl : a ≤ 60) (hQ : Q (some (.int (sgT T N a))) F) : V2 L xs (d + 2) m_Read_sign 0 (xEntry [.ref 47] 1) [] F Q := by
  refine V2.to (l' := [some (.ref 47)]) ?_ rfl rfl rfl rfl
  refine V2_aload_n (i := 0) d_Read_sign_0 rfl rfl ?_
  refine V2_getr (a := 48) d_Read_sign_1 fl_Read_14 (by decide) rfl (by decide) rfl ?_
  refine V2_aload_n (i := 0) d_Read_sign_4 rfl rfl ?_
  refine V2_get (v := F 47 3) d_Read_sign_5 fl_Read_27 (by decide) rfl (by decide) rfl rfl ?_
  refine V2_topi (fun v1 ev1 => ?_)
  refine V2_callV [.int v1] d_Read_sign_8 rfl rfl lk_Read_74 mo_Nums_has (by decide) rfl rfl rfl (Nat.le_of_ble_eq_true rfl) (Nat.le_of_ble_eq_true rfl) ?_
  refine c_Nums_has_48 ?_
  refine V2_topi (fun v2 ev2 => ?_)
  refine V2_if_eq (tgt := 28) d_Read_sign_11 rfl (fun c3 => ?_) (fun c3 => ?_)
  · refine V2_iconst (v := -1) d_Read_sign_28 rfl ?_
    refine V2_ireturn d_Read_sign_29 rfl ?_
    exact xQi hQ (by have h9 := c3; subst ev2 ev1; rw [xb_eq, hT, ha] at h9; exact (sg_m1 (Nat.not_lt.mp (fun hh => h9 ⟨nI_pos' (by omega), nI_lt hh (by omega)⟩))).symm) rfl
  · refine V2_aload_n (i := 0) d_Read_sign_14 rfl rfl ?_
    refine V2_getr (a := 48) d_Read_sign_15 fl_Read_14 (by decide) rfl (by decide) rfl ?_
    refine V2_aload_n (i := 0) d_Read_sign_18 rfl rfl ?_
    refine V2_get (v := F 47 3) d_Read_sign_19 fl_Read_27 (by decide) rfl (by decide) rfl rfl ?_
    refine V2_topi (fun v4 ev4 => ?_)
    refine V2_callV [.int v4] d_Read_sign_22 rfl rfl lk_Read_77 mo_Nums_at (by decide) rfl rfl rfl (Nat.le_of_ble_eq_true rfl) (Nat.le_of_ble_eq_true rfl) ?_
    have hlt : a < N := by
      have h9 := c3
      subst ev4 ev2 ev1
      rw [xb_eq, hT, ha] at h9
      exact Nat.not_le.mp (fun hh => h9 (fun h8 => absurd h8.2 (nI_nlt hh (by omega))))
    have eq9 : v4 = nI a := by
      subst ev4 ev2 ev1
      exact ha
    rw [eq9]
    refine c_Nums_at_48 hT hN hlt ?_
    refine V2_topi (fun v5 ev5 => ?_)
    refine V2_goto (tgt := 29) d_Read_sign_25 rfl ?_
    refine V2_ireturn d_Read_sign_29 rfl ?_
    exact xQi hQ (by subst ev5 ev4 ev2 ev1; rw [hTi a hlt]; exact (if_pos hlt).symm) rfl
theorem c_Read_isDigit {L : Nat} {xs : Nat → Int32} {d : Nat} {Q : Option Value → xF → Prop} {F : xF} {c : Int32}  (hQ : Q (some (.int (xb (48 ≤ c ∧ c ≤ 57)))) F) : V2 L xs d m_Read_isDigit 0 (xEntry [.int c] 1) [] F Q := by
  refine V2.to (l' := [some (.int c)]) ?_ rfl rfl rfl rfl
  refine V2_iload_n (i := 0) d_Read_isDigit_0 rfl rfl ?_
  refine V2_bipush (v := 48) d_Read_isDigit_1 rfl ?_
  refine V2_icmp_lt (tgt := 16) d_Read_isDigit_3 rfl (fun c1 => ?_) (fun c1 => ?_)
  · refine V2_iconst (v := 0) d_Read_isDigit_16 rfl ?_
    refine V2_zreturn d_Read_isDigit_17 rfl (by decide) ?_
    exact xQi hQ (by clear hQ; (try skip); (try simp only [xb_eq, xb_ne, Int32.lt_iff_toInt_lt, Int32.le_iff_toInt_le] at *); (try simp only [xb]); (repeat' split); all_goals first | rfl | omega | (exfalso; simp only [← Int32.toInt_inj] at *; omega)) rfl
  · refine V2_iload_n (i := 0) d_Read_isDigit_6 rfl rfl ?_
    refine V2_bipush (v := 57) d_Read_isDigit_7 rfl ?_
    refine V2_icmp_gt (tgt := 16) d_Read_isDigit_9 rfl (fun c2 => ?_) (fun c2 => ?_)
    · refine V2_iconst (v := 0) d_Read_isDigit_16 rfl ?_
      refine V2_zreturn d_Read_isDigit_17 rfl (by decide) ?_
      exact xQi hQ (by clear hQ; (try skip); (try simp only [xb_eq, xb_ne, Int32.lt_iff_toInt_lt, Int32.le_iff_toInt_le] at *); (try simp only [xb]); (repeat' split); all_goals first | rfl | omega | (exfalso; simp only [← Int32.toInt_inj] at *; omega)) rfl
    · refine V2_iconst (v := 1) d_Read_isDigit_12 rfl ?_
      refine V2_goto (tgt := 17) d_Read_isDigit_13 rfl ?_
      refine V2_zreturn d_Read_isDigit_17 rfl (by decide) ?_
      exact xQi hQ (by clear hQ; (try skip); (try simp only [xb_eq, xb_ne, Int32.lt_iff_toInt_lt, Int32.le_iff_toInt_le] at *); (try simp only [xb]); (repeat' split); all_goals first | rfl | omega | (exfalso; simp only [← Int32.toInt_inj] at *; omega)) rfl
theorem c_Read_levelOf {L : Nat} {xs : Nat → Int32} {d : Nat} {Q : Option Value → xF → Prop} {F : xF} {c : Int32}  (hQ : Q (some (.int (lvI c))) F) : V2 L xs d m_Read_levelOf 0 (xEntry [.int c] 1) [] F Q := by
  refine V2.to (l' := [some (.int c)]) ?_ rfl rfl rfl rfl
  refine V2_iload_n (i := 0) d_Read_levelOf_0 rfl rfl ?_
  by_cases c1_37 : c = 37
  · refine V2_lookup (tgt := 100) d_Read_levelOf_1 (by decide) (by rw [c1_37]; first | done | rfl | decide +kernel) rfl ?_
    refine V2_iconst (v := 4) d_Read_levelOf_100 rfl ?_
    refine V2_ireturn d_Read_levelOf_101 rfl ?_
    exact xQi hQ (by rw [c1_37]; rfl) rfl
  by_cases c1_38 : c = 38
  · refine V2_lookup (tgt := 94) d_Read_levelOf_1 (by decide) (by rw [c1_38]; first | done | rfl | decide +kernel) rfl ?_
    refine V2_iconst (v := 1) d_Read_levelOf_94 rfl ?_
    refine V2_ireturn d_Read_levelOf_95 rfl ?_
    exact xQi hQ (by rw [c1_38]; rfl) rfl
  by_cases c1_42 : c = 42
  · refine V2_lookup (tgt := 100) d_Read_levelOf_1 (by decide) (by rw [c1_42]; first | done | rfl | decide +kernel) rfl ?_
    refine V2_iconst (v := 4) d_Read_levelOf_100 rfl ?_
    refine V2_ireturn d_Read_levelOf_101 rfl ?_
    exact xQi hQ (by rw [c1_42]; rfl) rfl
  by_cases c1_43 : c = 43
  · refine V2_lookup (tgt := 98) d_Read_levelOf_1 (by decide) (by rw [c1_43]; first | done | rfl | decide +kernel) rfl ?_
    refine V2_iconst (v := 3) d_Read_levelOf_98 rfl ?_
    refine V2_ireturn d_Read_levelOf_99 rfl ?_
    exact xQi hQ (by rw [c1_43]; rfl) rfl
  by_cases c1_45 : c = 45
  · refine V2_lookup (tgt := 98) d_Read_levelOf_1 (by decide) (by rw [c1_45]; first | done | rfl | decide +kernel) rfl ?_
    refine V2_iconst (v := 3) d_Read_levelOf_98 rfl ?_
    refine V2_ireturn d_Read_levelOf_99 rfl ?_
    exact xQi hQ (by rw [c1_45]; rfl) rfl
  by_cases c1_47 : c = 47
  · refine V2_lookup (tgt := 100) d_Read_levelOf_1 (by decide) (by rw [c1_47]; first | done | rfl | decide +kernel) rfl ?_
    refine V2_iconst (v := 4) d_Read_levelOf_100 rfl ?_
    refine V2_ireturn d_Read_levelOf_101 rfl ?_
    exact xQi hQ (by rw [c1_47]; rfl) rfl
  by_cases c1_60 : c = 60
  · refine V2_lookup (tgt := 96) d_Read_levelOf_1 (by decide) (by rw [c1_60]; first | done | rfl | decide +kernel) rfl ?_
    refine V2_iconst (v := 2) d_Read_levelOf_96 rfl ?_
    refine V2_ireturn d_Read_levelOf_97 rfl ?_
    exact xQi hQ (by rw [c1_60]; rfl) rfl
  by_cases c1_61 : c = 61
  · refine V2_lookup (tgt := 96) d_Read_levelOf_1 (by decide) (by rw [c1_61]; first | done | rfl | decide +kernel) rfl ?_
    refine V2_iconst (v := 2) d_Read_levelOf_96 rfl ?_
    refine V2_ireturn d_Read_levelOf_97 rfl ?_
    exact xQi hQ (by rw [c1_61]; rfl) rfl
  by_cases c1_62 : c = 62
  · refine V2_lookup (tgt := 96) d_Read_levelOf_1 (by decide) (by rw [c1_62]; first | done | rfl | decide +kernel) rfl ?_
    refine V2_iconst (v := 2) d_Read_levelOf_96 rfl ?_
    refine V2_ireturn d_Read_levelOf_97 rfl ?_
    exact xQi hQ (by rw [c1_62]; rfl) rfl
  by_cases c1_124 : c = 124
  · refine V2_lookup (tgt := 92) d_Read_levelOf_1 (by decide) (by rw [c1_124]; first | done | rfl | decide +kernel) rfl ?_
    refine V2_iconst (v := 0) d_Read_levelOf_92 rfl ?_
    refine V2_ireturn d_Read_levelOf_93 rfl ?_
    exact xQi hQ (by rw [c1_124]; rfl) rfl
  refine V2_lookup (tgt := 102) (off := 101) d_Read_levelOf_1 (by decide) (by show Op.lookupswitch.offset [(37, 99), (38, 93), (42, 99), (43, 97), (45, 97), (47, 99), (60, 95), (61, 95), (62, 95), (124, 91)] 101 _ = _; rw [lv_osw (a := 37) c1_37 rfl, lv_osw (a := 38) c1_38 rfl, lv_osw (a := 42) c1_42 rfl, lv_osw (a := 43) c1_43 rfl, lv_osw (a := 45) c1_45 rfl, lv_osw (a := 47) c1_47 rfl, lv_osw (a := 60) c1_60 rfl, lv_osw (a := 61) c1_61 rfl, lv_osw (a := 62) c1_62 rfl, lv_osw (a := 124) c1_124 rfl]; rfl) rfl ?_
  refine V2_iconst (v := -1) d_Read_levelOf_102 rfl ?_
  refine V2_ireturn d_Read_levelOf_103 rfl ?_
  exact xQi hQ (by simp_all [lvI, lvT]) rfl
theorem c_Read_nameOf {L : Nat} {xs : Nat → Int32} {d : Nat} {Q : Option Value → xF → Prop} {F : xF} {c : Int32}  (hQ : Q (some (.int (nmI (F 47 2) c))) F) : V2 L xs d m_Read_nameOf 0 (xEntry [.ref 47, .int c] 2) [] F Q := by
  refine V2.to (l' := [some (.ref 47), some (.int c)]) ?_ rfl rfl rfl rfl
  refine V2_iload_n (i := 1) d_Read_nameOf_0 rfl rfl ?_
  by_cases c1_100 : c = 100
  · refine V2_lookup (tgt := 104) d_Read_nameOf_1 (by decide) (by rw [c1_100]; first | done | rfl | decide +kernel) rfl ?_
    refine V2_iconst (v := 2) d_Read_nameOf_104 rfl ?_
    refine V2_ireturn d_Read_nameOf_105 rfl ?_
    exact xQi hQ (by skip; simp_all [nmI]) rfl
  by_cases c1_104 : c = 104
  · refine V2_lookup (tgt := 78) d_Read_nameOf_1 (by decide) (by rw [c1_104]; first | done | rfl | decide +kernel) rfl ?_
    refine V2_aload_n (i := 0) d_Read_nameOf_78 rfl rfl ?_
    refine V2_get (v := F 47 2) d_Read_nameOf_79 fl_Read_23 (by decide) rfl (by decide) rfl rfl ?_
    refine V2_topi (fun v2 ev2 => ?_)
    refine V2_if_ne (tgt := 89) d_Read_nameOf_82 rfl (fun c3 => ?_) (fun c3 => ?_)
    · refine V2_iconst (v := 1) d_Read_nameOf_89 rfl ?_
      refine V2_ireturn d_Read_nameOf_90 rfl ?_
      exact xQi hQ (by subst ev2; simp_all [nmI]) rfl
    · refine V2_iconst (v := 0) d_Read_nameOf_85 rfl ?_
      refine V2_goto (tgt := 90) d_Read_nameOf_86 rfl ?_
      refine V2_ireturn d_Read_nameOf_90 rfl ?_
      exact xQi hQ (by subst ev2; simp_all [nmI]) rfl
  by_cases c1_105 : c = 105
  · refine V2_lookup (tgt := 52) d_Read_nameOf_1 (by decide) (by rw [c1_105]; first | done | rfl | decide +kernel) rfl ?_
    refine V2_aload_n (i := 0) d_Read_nameOf_52 rfl rfl ?_
    refine V2_get (v := F 47 2) d_Read_nameOf_53 fl_Read_23 (by decide) rfl (by decide) rfl rfl ?_
    refine V2_topi (fun v4 ev4 => ?_)
    refine V2_if_ne (tgt := 63) d_Read_nameOf_56 rfl (fun c5 => ?_) (fun c5 => ?_)
    · refine V2_iconst (v := 0) d_Read_nameOf_63 rfl ?_
      refine V2_ireturn d_Read_nameOf_64 rfl ?_
      exact xQi hQ (by subst ev4; simp_all [nmI]) rfl
    · refine V2_iconst (v := 1) d_Read_nameOf_59 rfl ?_
      refine V2_goto (tgt := 64) d_Read_nameOf_60 rfl ?_
      refine V2_ireturn d_Read_nameOf_64 rfl ?_
      exact xQi hQ (by subst ev4; simp_all [nmI]) rfl
  by_cases c1_110 : c = 110
  · refine V2_lookup (tgt := 91) d_Read_nameOf_1 (by decide) (by rw [c1_110]; first | done | rfl | decide +kernel) rfl ?_
    refine V2_aload_n (i := 0) d_Read_nameOf_91 rfl rfl ?_
    refine V2_get (v := F 47 2) d_Read_nameOf_92 fl_Read_23 (by decide) rfl (by decide) rfl rfl ?_
    refine V2_topi (fun v6 ev6 => ?_)
    refine V2_if_ne (tgt := 102) d_Read_nameOf_95 rfl (fun c7 => ?_) (fun c7 => ?_)
    · refine V2_iconst (v := 3) d_Read_nameOf_102 rfl ?_
      refine V2_ireturn d_Read_nameOf_103 rfl ?_
      exact xQi hQ (by subst ev6; simp_all [nmI]) rfl
    · refine V2_iconst (v := 0) d_Read_nameOf_98 rfl ?_
      refine V2_goto (tgt := 103) d_Read_nameOf_99 rfl ?_
      refine V2_ireturn d_Read_nameOf_103 rfl ?_
      exact xQi hQ (by subst ev6; simp_all [nmI]) rfl
  by_cases c1_119 : c = 119
  · refine V2_lookup (tgt := 65) d_Read_nameOf_1 (by decide) (by rw [c1_119]; first | done | rfl | decide +kernel) rfl ?_
    refine V2_aload_n (i := 0) d_Read_nameOf_65 rfl rfl ?_
    refine V2_get (v := F 47 2) d_Read_nameOf_66 fl_Read_23 (by decide) rfl (by decide) rfl rfl ?_
    refine V2_topi (fun v8 ev8 => ?_)
    refine V2_if_ne (tgt := 76) d_Read_nameOf_69 rfl (fun c9 => ?_) (fun c9 => ?_)
    · refine V2_iconst (v := 0) d_Read_nameOf_76 rfl ?_
      refine V2_ireturn d_Read_nameOf_77 rfl ?_
      exact xQi hQ (by subst ev8; simp_all [nmI]) rfl
    · refine V2_iconst (v := 3) d_Read_nameOf_72 rfl ?_
      refine V2_goto (tgt := 77) d_Read_nameOf_73 rfl ?_
      refine V2_ireturn d_Read_nameOf_77 rfl ?_
      exact xQi hQ (by subst ev8; simp_all [nmI]) rfl
  refine V2_lookup (tgt := 106) (off := 105) d_Read_nameOf_1 (by decide) (by show Op.lookupswitch.offset [(100, 103), (104, 77), (105, 51), (110, 90), (119, 64)] 105 _ = _; rw [lv_osw (a := 100) c1_100 rfl, lv_osw (a := 104) c1_104 rfl, lv_osw (a := 105) c1_105 rfl, lv_osw (a := 110) c1_110 rfl, lv_osw (a := 119) c1_119 rfl]; rfl) rfl ?_
  refine V2_iconst (v := 0) d_Read_nameOf_106 rfl ?_
  refine V2_ireturn d_Read_nameOf_107 rfl ?_
  exact xQi hQ (by skip; simp_all [nmI]) rfl
theorem c_Read_number_loop {L : Nat} {xs : Nat → Int32} {d : Nat} {Q : Option Value → xF → Prop} {B : xF} {T : Nat → Int32} {N use : Nat} {s : PS} {fin : Nat × Int32} (hB : TPc B T N) (hs : s.n < 60) (hQ : ∀ G, CR B use ((s.to_ fin.1).add 0 fin.2) G → Q none G) : ∀ (n : Nat) (m k a : Nat) (v : Int32) (G : xF), CR B use (s.to_ a) G → a ≤ N → k + m = 4 → numT T N m a v = fin → m < n → V2 L xs (d + 3) m_Read_readNumber 4 [some (.ref 47), some (.int v), some (.int (nI k))] [] G Q := by
  intro n
  induction n with
  | zero => exact fun m k a v G g1 g2 g3 g4 h2 => absurd h2 (by omega)
  | succ n ih =>
    intro m k a v G g1 g2 g3 g4 h2
    have ea : (s.to_ a).at_ = a := rfl
    obtain ⟨hB1, hB2, hB3⟩ := hB
    have hB : TPc B T N := ⟨hB1, hB2, hB3⟩
    refine V2_iload_n (i := 2) d_Read_readNumber_4 rfl rfl ?_
    refine V2_iconst (v := 4) d_Read_readNumber_5 rfl ?_
    refine V2_icmp_ge (tgt := 48) d_Read_readNumber_6 rfl (fun c1 => ?_) (fun c1 => ?_)
    · refine V2_aload_n (i := 0) d_Read_readNumber_48 rfl rfl ?_
      refine V2_getr (a := 50) d_Read_readNumber_49 fl_Read_20 (by decide) rfl (by decide) rfl ?_
      refine V2_iload_n (i := 1) d_Read_readNumber_52 rfl rfl ?_
      refine V2_callV [.int v] d_Read_readNumber_53 rfl rfl lk_Read_59 mo_Nums_add (by decide) rfl rfl rfl (Nat.le_of_ble_eq_true rfl) (Nat.le_of_ble_eq_true rfl) ?_
      have hf : numT T N m a v = (a, v) := by
        have h9 := c1
        have hm0 : m = 0 := by
          have := (nI_leI (a := 4) (by omega) (by omega)).mp h9
          omega
        subst hm0
        rfl
      have g5 : fin = (a, v) := g4.symm.trans hf
      subst g5
      refine c_Nums_add_50 (P := s.n) g1.2.2.2.1 (by omega) ?_
      exact V2_return d_Read_readNumber_56 rfl (hQ _ (cr_add g1 (encT_0 rfl).symm))
    · refine V2_aload_n (i := 0) d_Read_readNumber_9 rfl rfl ?_
      refine V2_callV [] d_Read_readNumber_10 rfl rfl lk_Read_52 mo_Read_sign (by decide) rfl rfl rfl (Nat.le_of_ble_eq_true rfl) (Nat.le_of_ble_eq_true rfl) ?_
      refine c_Read_sign (T := T) (N := N) (a := (s.to_ a).at_) ((congrFun (cr_48 g1) 1).trans hB.1) hB.2.1 (fun i hi => (congrFun (cr_49 g1) i).trans (hB.2.2 i hi)) (g1).2.2.1 (by omega) ?_
      refine V2_topi (fun v2 ev2 => ?_)
      refine V2_callS [.int v2] d_Read_readNumber_13 rfl rfl lk_Read_62 mo_Read_isDigit (Nat.le_of_ble_eq_true rfl) (Nat.le_of_ble_eq_true rfl) ?_
      refine c_Read_isDigit ?_
      refine V2_topi (fun v3 ev3 => ?_)
      refine V2_if_eq (tgt := 48) d_Read_readNumber_16 rfl (fun c4 => ?_) (fun c4 => ?_)
      · refine V2_aload_n (i := 0) d_Read_readNumber_48 rfl rfl ?_
        refine V2_getr (a := 50) d_Read_readNumber_49 fl_Read_20 (by decide) rfl (by decide) rfl ?_
        refine V2_iload_n (i := 1) d_Read_readNumber_52 rfl rfl ?_
        refine V2_callV [.int v] d_Read_readNumber_53 rfl rfl lk_Read_59 mo_Nums_add (by decide) rfl rfl rfl (Nat.le_of_ble_eq_true rfl) (Nat.le_of_ble_eq_true rfl) ?_
        have hf : numT T N m a v = (a, v) := by
          have h9 := c4
          obtain ⟨m1, rfl⟩ : ∃ m1, m = m1 + 1 := ⟨m - 1, by
            have h8 : ¬ (4 : Nat) ≤ k := fun hh => c1 ((nI_leI (a := 4) (by omega) (by omega)).mpr hh)
            omega⟩
          unfold numT
          refine if_neg (fun hh => ?_)
          subst ev3 ev2
          rw [xb_eq] at h9
          exact h9 (dg_xb.mpr hh)
        have g5 : fin = (a, v) := g4.symm.trans hf
        subst g5
        refine c_Nums_add_50 (P := s.n) g1.2.2.2.1 (by omega) ?_
        exact V2_return d_Read_readNumber_56 rfl (hQ _ (cr_add g1 (encT_0 rfl).symm))
      · have hk : ¬ (4 : Nat) ≤ k := fun hh => c1 ((nI_leI (a := 4) (by omega) (by omega)).mpr hh)
        obtain ⟨m, rfl⟩ : ∃ m1, m = m1 + 1 := ⟨m - 1, by omega⟩
        have hd : dgT (sgT T N a) := by
          have h9 := c4
          subst ev3 ev2
          rw [← dg_xb]
          exact Decidable.not_not.mp (fun hh => h9 (xb_eq.mpr hh))
        unfold numT at g4
        rw [if_pos hd] at g4
        refine V2_iload_n (i := 1) d_Read_readNumber_19 rfl rfl ?_
        refine V2_bipush (v := 10) d_Read_readNumber_20 rfl ?_
        refine V2_imul d_Read_readNumber_22 ?_
        refine V2_topi (fun v5 ev5 => ?_)
        refine V2_aload_n (i := 0) d_Read_readNumber_23 rfl rfl ?_
        refine V2_callV [] d_Read_readNumber_24 rfl rfl lk_Read_52 mo_Read_sign (by decide) rfl rfl rfl (Nat.le_of_ble_eq_true rfl) (Nat.le_of_ble_eq_true rfl) ?_
        refine c_Read_sign (T := T) (N := N) (a := (s.to_ a).at_) ((congrFun (cr_48 g1) 1).trans hB.1) hB.2.1 (fun i hi => (congrFun (cr_49 g1) i).trans (hB.2.2 i hi)) (g1).2.2.1 (by omega) ?_
        refine V2_topi (fun v6 ev6 => ?_)
        refine V2_iadd d_Read_readNumber_27 ?_
        refine V2_topi (fun v7 ev7 => ?_)
        refine V2_bipush (v := 48) d_Read_readNumber_28 rfl ?_
        refine V2_isub d_Read_readNumber_30 ?_
        refine V2_topi (fun v8 ev8 => ?_)
        refine V2_istore_n (i := 1) (l' := [some (.ref 47), some (.int v8), some (.int (nI k))]) d_Read_readNumber_31 rfl (xst_r (Nat.le_of_ble_eq_true rfl) rfl rfl) ?_
        refine V2_aload_n (i := 0) d_Read_readNumber_32 rfl rfl ?_
        refine V2_dup d_Read_readNumber_33 rfl ?_
        refine V2_get (v := G 47 3) d_Read_readNumber_34 fl_Read_27 (by decide) rfl (by decide) rfl rfl ?_
        refine V2_topi (fun v9 ev9 => ?_)
        refine V2_iconst (v := 1) d_Read_readNumber_37 rfl ?_
        refine V2_iadd d_Read_readNumber_38 ?_
        refine V2_topi (fun v10 ev10 => ?_)
        refine V2_put d_Read_readNumber_39 fl_Read_27 (by decide) rfl (by decide) rfl ?_
        obtain ⟨v11, ev11⟩ : ∃ y : Int32, y = nI k + 1 := ⟨_, rfl⟩
        refine V2_iinc (i := 2) (v := v11) (l' := [some (.ref 47), some (.int v8), some (.int v11)]) d_Read_readNumber_42 rfl (by rw [ev11]; rfl) (xst_i (Nat.le_of_ble_eq_true rfl) rfl rfl) ?_
        refine V2_goto (tgt := 4) d_Read_readNumber_45 rfl ?_
        have cr9 := cr_go g1
        refine V2.to (ih m (k + 1) (a + 1) (v * 10 + sgT T N a - 48) _ cr9 (by have := dg_lt hd; omega) (by omega) ?_ (by omega)) rfl ?_ rfl ?_
        · exact g4
        · rw [ev11, nI_1]
          subst ev11 ev10 ev9 ev8 ev7 ev6 ev5 ev3 ev2
          rfl
        · subst ev11 ev10 ev9 ev8 ev7 ev6 ev5 ev3 ev2
          rfl
theorem c_Read_number {L : Nat} {xs : Nat → Int32} {d : Nat} {Q : Option Value → xF → Prop} {F B : xF} {T : Nat → Int32} {N use : Nat} {s : PS} (hB : TPc B T N) (hs : s.n < 60) (hc : CR B use s F) (ha : s.at_ ≤ N) (hQ : ∀ G, CR B use ((s.to_ (numT T N 4 s.at_ 0).1).add 0 (numT T N 4 s.at_ 0).2) G → Q none G) : V2 L xs (d + 3) m_Read_readNumber 0 (xEntry [.ref 47] 3) [] F Q := by
  refine V2.to (l' := [some (.ref 47), none, none]) ?_ rfl rfl rfl rfl
  refine V2_iconst (v := 0) d_Read_readNumber_0 rfl ?_
  refine V2_istore_n (i := 1) (l' := [some (.ref 47), some (.int (0 : Int32)), none]) d_Read_readNumber_1 rfl (xst_r (Nat.le_of_ble_eq_true rfl) rfl rfl) ?_
  refine V2_iconst (v := 0) d_Read_readNumber_2 rfl ?_
  refine V2_istore_n (i := 2) (l' := [some (.ref 47), some (.int (0 : Int32)), some (.int (0 : Int32))]) d_Read_readNumber_3 rfl (xst_i (Nat.le_of_ble_eq_true rfl) rfl rfl) ?_
  exact V2.to (c_Read_number_loop hB hs hQ 5 4 0 s.at_ 0 F hc ha rfl rfl (by omega)) rfl rfl rfl rfl
