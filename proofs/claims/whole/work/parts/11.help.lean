/-! small helpers of the walks -/
section X4
variable {L : Nat} {xs : Nat → Int32} {d : Nat} {M : xM} {pc : Nat} {l : xL} {st : List Value} {F : xF} {Q : Option Value → xF → Prop}
theorem V2_topi {x : Int32} (k : ∀ y : Int32, y = x → V2 L xs d M pc l (.int y :: st) F Q) : V2 L xs d M pc l (.int x :: st) F Q := k x rfl
theorem V2_topl {x : Int64} (k : ∀ y : Int64, y = x → V2 L xs d M pc l (.long y :: st) F Q) : V2 L xs d M pc l (.long x :: st) F Q := k x rfl
theorem V2_topF (k : ∀ F' : xF, F' = F → V2 L xs d M pc l st F' Q) : V2 L xs d M pc l st F Q := k F rfl
theorem V2_iremM {x y : Int32} (hd : decode M.2.1 pc = .ok (.irem, 1)) (hne : ¬ y = 0) (k : V2 L xs d M (pc + 1) l (.int (x % y) :: st) F Q) : V2 L xs d M pc l (.int y :: .int x :: st) F Q := V2_irem hd hne (by rw [irem_eq_mod]; exact k)
theorem V2_ialoadJ {k len : Nat} {i v : Int32} (j : Nat) (hd : decode M.2.1 pc = .ok (.iaload, 1)) (hk : k < 78) (ho : xkinds.getD k (0, 0) = (100, len)) (hin : vp_in i len) (hj : i.toNatClampNeg = j) (hv : F k j = v)
    (kk : V2 L xs d M (pc + 1) l (.int v :: st) F Q) : V2 L xs d M pc l (.int i :: .ref k :: st) F Q := V2_iaload hd hk ho hin (by rw [hj]; exact hv) kk
theorem xst_z {l l' : xL} {v : Value} (hi : 0 < l.length) (hl : l' = l.set 0 (some v)) : xst l 0 v l' := ⟨hi, fun _ _ => Or.inr rfl, hl⟩
theorem xst_0 {l l' : xL} {i : Nat} {v : Value} (hi : i < l.length) (hu : l[i - 1]? = some none) (hl : l' = l.set i (some v)) : xst l i v l' := ⟨hi, fun w hw => (by rw [hu] at hw; cases hw), hl⟩
theorem xst_i {l l' : xL} {i : Nat} {v : Value} {x : Int32} (hi : i < l.length) (hu : l[i - 1]? = some (some (.int x))) (hl : l' = l.set i (some v)) : xst l i v l' := ⟨hi, fun w hw => (by rw [hu] at hw; cases hw; exact Or.inl rfl), hl⟩
theorem xst_r {l l' : xL} {i : Nat} {v : Value} {x : Nat} (hi : i < l.length) (hu : l[i - 1]? = some (some (.ref x))) (hl : l' = l.set i (some v)) : xst l i v l' := ⟨hi, fun w hw => (by rw [hu] at hw; cases hw; exact Or.inl rfl), hl⟩
theorem xst_n {l l' : xL} {i : Nat} {v : Value} (hi : i < l.length) (hu : l[i - 1]? = some (some .null)) (hl : l' = l.set i (some v)) : xst l i v l' := ⟨hi, fun w hw => (by rw [hu] at hw; cases hw; exact Or.inl rfl), hl⟩
end X4
theorem xin_of {i n : Int32} {k : Nat} (h1 : ¬ i < 0) (h2 : ¬ n ≤ i) (hn : n.toInt = k) : vp_in i k := by
  rw [vp_in_iff]
  have e0 : (0 : Int32).toInt = 0 := by decide
  rw [Int32.lt_iff_toInt_lt, e0] at h1
  rw [Int32.le_iff_toInt_le, hn] at h2
  omega
theorem xixA {x : Int32} {n len : Nat} (h : x = nI n) (hn : n < len) (hl : len ≤ 1000) : vp_in x len := by
  subst h
  exact vp_in_nI hn (by omega)
theorem xixB {x : Int32} {n : Nat} (h : x = nI n) (hn : n < 1000) : x.toNatClampNeg = n := by
  subst h
  exact nI_clamp (by omega)
/-- locals that know less -/
def xsub : xL → xL → Prop
  | [], [] => True
  | none :: a, _ :: b => xsub a b
  | some v :: a, o :: b => o = some v ∧ xsub a b
  | _, _ => False
theorem xsub_len : ∀ {a b : xL}, xsub a b → a.length = b.length
  | [], [], _ => rfl
  | none :: a, _ :: b, h => by
    have := xsub_len (a := a) (b := b) h
    simp [this]
  | some v :: a, o :: b, h => by
    have := xsub_len (a := a) (b := b) h.2
    simp [this]
theorem xsub_at : ∀ {a b : xL}, xsub a b → ∀ (i : Nat) (v : Value), a[i]? = some (some v) → b[i]? = some (some v)
  | [], [], _, i, v, h => by simp at h
  | none :: a, _ :: b, h, 0, v, hi => by simp at hi
  | none :: a, _ :: b, h, i + 1, v, hi => by
    have := xsub_at (a := a) (b := b) h i v (by simpa using hi)
    simpa using this
  | some w :: a, o :: b, h, 0, v, hi => by
    have e : w = v := by simpa using hi
    rw [h.1, e]
    rfl
  | some w :: a, o :: b, h, i + 1, v, hi => by
    have := xsub_at (a := a) (b := b) h.2 i v (by simpa using hi)
    simpa using this
theorem xsub_yl : ∀ {a b : xL}, xsub a b → xsub (yl a) (yl b)
  | [], [], _ => trivial
  | none :: a, _ :: b, h => xsub_yl (a := a) (b := b) h
  | some v :: a, o :: b, h => ⟨by rw [h.1]; rfl, xsub_yl (a := a) (b := b) h.2⟩
theorem V2.weak {L : Nat} {xs : Nat → Int32} {d : Nat} {M : xM} {pc : Nat} {l l' : xL} {st : List Value} {F : xF} {Q : Option Value → xF → Prop} (k : V2 L xs d M pc l' st F Q) (h0 : xsub l' l) : V2 L xs d M pc l st F Q := by
  intro G p la e R s m args below meth c Z n0 w0 hF hret H locs ls hH hl hn hw hls
  have h := xsub_yl h0
  exact k G p la e R s m args below meth c Z n0 w0 hF hret H locs ls hH hl hn hw ⟨hls.1, hls.2.1, (xsub_len h).trans hls.2.2.1, fun i v hi => hls.2.2.2 i v (xsub_at h i v hi)⟩
theorem xp_xrw (F : xF) (k j : Nat) (x : Int32) (r : Nat → Int32) : xp (xrw F k r) k j x = xrw F k (upd r j x) := by
  funext a b
  unfold xp xrw upd
  by_cases ha : a = k <;> simp [ha]
theorem xrw_xrw (F : xF) (k : Nat) (r q : Nat → Int32) : xrw (xrw F k r) k q = xrw F k q := by
  funext a b
  unfold xrw
  by_cases ha : a = k <;> simp [ha]
theorem xrw_self (F : xF) (k : Nat) : xrw F k (F k) = F := by
  funext a b
  unfold xrw
  by_cases ha : a = k <;> simp [ha]
theorem xQi {Q : Option Value → xF → Prop} {a b : Int32} {F F' : xF} (h : Q (some (.int a)) F) (e1 : b = a) (e2 : F' = F) : Q (some (.int b)) F' := by rw [e1, e2]; exact h
theorem xQv {Q : Option Value → xF → Prop} {F F' : xF} (h : Q none F) (e2 : F' = F) : Q none F' := by rw [e2]; exact h
theorem xp_self (F : xF) (k j : Nat) : xp F k j (F k j) = F := by
  funext a b
  unfold xp
  by_cases ha : a = k
  · by_cases hb : b = j
    · simp [ha, hb]
    · simp [ha, hb]
  · simp [ha]
theorem xp_same (F : xF) (k j : Nat) (x : Int32) : xp F k j x k j = x := by simp [xp]
theorem xp_ne {F : xF} {k j a b : Nat} {x : Int32} (h : a ≠ k ∨ b ≠ j) : xp F k j x a b = F a b := by
  unfold xp
  by_cases ha : a = k
  · rw [if_pos ha, if_neg (by rcases h with h | h; exact absurd ha h; exact h)]
  · rw [if_neg ha]
theorem xrw_same (F : xF) (k : Nat) (r : Nat → Int32) : xrw F k r k = r := by funext b; simp [xrw]
theorem xrw_ne {F : xF} {k a : Nat} {r : Nat → Int32} (h : a ≠ k) : xrw F k r a = F a := by funext b; simp [xrw, h]
theorem xp_xp (F : xF) (k j : Nat) (x y : Int32) : xp (xp F k j x) k j y = xp F k j y := by
  funext a b
  unfold xp
  by_cases ha : a = k <;> by_cases hb : b = j <;> simp [ha, hb]
