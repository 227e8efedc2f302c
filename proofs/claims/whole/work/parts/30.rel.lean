/-! THE RELATION: the class's places against the model's rows (66 its row s, 67 what it keeps, 69 errors, 73 trace, 74 .. 76 sheets; 65 its own ints) -/
/-- the car's part apart: world w's people, laws, tape, waiting numbers, z -/
def relPw (F : xF) (w : Nat) (S : Nat → Int32) : Prop := F (w + 2) 2 = S 11 ∧ F (w + 2) 2 = S 11 ∧ ∀ p, p < (S 11).toNatClampNeg → F (w + 4) p = S (12 + 2 * p) ∧ F (w + 6) p = S (12 + 2 * p + 1)
def relTape (F : xF) (w : Nat) (S : Nat → Int32) : Prop := F (w + 13) 1 = S 9 ∧ ∀ i, i < (S 9).toNatClampNeg → F (w + 14) i = S (274 + i)
def relWait (F : xF) (w : Nat) (S : Nat → Int32) : Prop := F (w + 15) 1 = S 10 ∧ ∀ i, i < (S 10).toNatClampNeg → F (w + 16) i = S (334 + i)
def relW (F : xF) (w : Nat) (S : Nat → Int32) : Prop :=
  relCr (F (w + 1)) S ∧ relPw F w S ∧ relL F (w + 7) 0 S ∧ relL F (w + 10) 1 S ∧ relTape F w S ∧ relWait F w S ∧ F w 6 = S 8
/-- what a row s is, always -/
def invP (S : Nat → Int32) : Prop := ∃ P : Nat, P ≤ 6 ∧ S 11 = nI P ∧ ∀ p, p < P → (0 ≤ (S (12 + 2 * p)).toInt ∧ (S (12 + 2 * p)).toInt ≤ 6) ∧ (0 ≤ (S (12 + 2 * p + 1)).toInt ∧ (S (12 + 2 * p + 1)).toInt ≤ 9)
def invTape (S : Nat → Int32) : Prop := ∃ T : Nat, T ≤ 60 ∧ S 9 = nI T ∧ ∀ i, i < T → 0 ≤ (S (274 + i)).toInt ∧ (S (274 + i)).toInt ≤ 255
def invWait (S : Nat → Int32) : Prop := ∃ T : Nat, T ≤ 24 ∧ S 10 = nI T
def invS (S : Nat → Int32) : Prop := invC S ∧ (0 ≤ (S 7).toInt ∧ (S 7).toInt ≤ 9999) ∧ invP S ∧ okT 0 S ∧ okT 1 S ∧ invTape S ∧ invWait S
/-- numbers of a sheet: the class keeps the lowest bits as they are, the model with their sign -/
def eqBits (bits a b : Int32) : Prop := if bits = 8 then a = b &&& 255 ∧ b = (b <<< 24) >>> 24 else if bits = 16 then a = b &&& 65535 ∧ b = (b <<< 16) >>> 16 else a = b
def relSheet (F G : xF) (t : Nat) : Prop := F (57 + 2 * t) 1 = G 74 t ∧ F (57 + 2 * t) 2 = G 75 t ∧ ∀ i, i < (G 75 t).toNatClampNeg → eqBits (G 74 t) (F (58 + 2 * t) i) (G 76 (24 * t + i))
def invSheet (G : xF) (t : Nat) : Prop := (G 74 t = 0 ∨ G 74 t = 8 ∨ G 74 t = 16 ∨ G 74 t = 32) ∧ ∃ n : Nat, n ≤ 24 ∧ G 75 t = nI n
/-- the class's places in F against the model's rows in G -/
def relC (F G : xF) : Prop :=
  relW F 1 (G 66) ∧ ((F (18 + 7) 0 = nI 0 ∧ F (18 + 10) 0 = nI 1) ∧ (¬ G 65 3 = 0 → relW F 18 (G 67))) ∧ (∀ k, k < 7 → F 56 k = G 69 k) ∧ F 0 8 = G 65 3 ∧
  F 53 1 = G 65 15 ∧ (∀ i, i < (G 65 15).toNatClampNeg → F 54 i = G 73 i) ∧ ∀ t, t < 4 → relSheet F G t
def invM (G : xF) : Prop :=
  invS (G 66) ∧ (¬ G 65 3 = 0 → invS (G 67)) ∧ G 65 5 = 63 ∧ (∃ n : Nat, n ≤ 30 ∧ G 65 15 = nI n) ∧ ∀ t, t < 4 → invSheet G t
def Rel (F : xF) : Prop := relC F F ∧ invM F
/-- behind the class's call: its places stand against what the model's rows will be -/
def Mid (F F1 G : xF) : Prop := (∀ k, 65 ≤ k → F1 k = F k) ∧ relC F1 G
/-- two heaps that hold the same rows -/
theorem relC_cl {F F' G : xF} (h : relC F G) (he : ∀ k, k < 65 → F' k = F k) : relC F' G := by
  have e : ∀ {a : Nat}, a < 65 → F' a = F a := fun ha => he _ ha
  unfold relC relW relPw relTape relWait relL relSheet at *
  obtain ⟨h1, h2, h3, h4, h5, h6, h7⟩ := h
  refine ⟨?_, ?_, ?_, ?_, ?_, ?_, ?_⟩
  · rw [e (a := 1 + 1) (by decide), e (a := 1 + 2) (by decide), e (a := 1 + 4) (by decide), e (a := 1 + 6) (by decide), e (a := 1 + 7) (by decide), e (a := 1 + 7 + 1) (by decide), e (a := 1 + 10) (by decide), e (a := 1 + 10 + 1) (by decide), e (a := 1 + 13) (by decide), e (a := 1 + 14) (by decide), e (a := 1 + 15) (by decide), e (a := 1 + 16) (by decide), e (a := 1) (by decide)]
    exact h1
  · rw [e (a := 18 + 1) (by decide), e (a := 18 + 2) (by decide), e (a := 18 + 4) (by decide), e (a := 18 + 6) (by decide), e (a := 18 + 7) (by decide), e (a := 18 + 7 + 1) (by decide), e (a := 18 + 10) (by decide), e (a := 18 + 10 + 1) (by decide), e (a := 18 + 13) (by decide), e (a := 18 + 14) (by decide), e (a := 18 + 15) (by decide), e (a := 18 + 16) (by decide), e (a := 18) (by decide)]
    exact h2
  · intro k hk
    rw [e (by decide)]
    exact h3 k hk
  · rw [e (by decide)]
    exact h4
  · rw [e (by decide)]
    exact h5
  · intro i hi
    rw [e (by decide)]
    exact h6 i hi
  · intro t ht
    rw [e (a := 57 + 2 * t) (by omega), e (a := 58 + 2 * t) (by omega)]
    exact h7 t ht
theorem relC_mo {F G G' : xF} (h : relC F G) (he : ∀ k, k = 65 ∨ k = 66 ∨ k = 67 ∨ k = 69 ∨ k = 73 ∨ k = 74 ∨ k = 75 ∨ k = 76 → G' k = G k) : relC F G' := by
  unfold relC relSheet at *
  rw [he 65 (by omega), he 66 (by omega), he 67 (by omega), he 69 (by omega), he 73 (by omega), he 74 (by omega), he 75 (by omega), he 76 (by omega)]
  exact h
theorem invM_mo {G G' : xF} (h : invM G) (he : ∀ k, k = 65 ∨ k = 66 ∨ k = 67 ∨ k = 74 ∨ k = 75 → G' k = G k) : invM G' := by
  unfold invM invSheet at *
  rw [he 65 (by omega), he 66 (by omega), he 67 (by omega), he 74 (by omega), he 75 (by omega)]
  exact h
