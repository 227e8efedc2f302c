/-! THE LOGIC: places instead of addresses, one judgement V for a frame in the midst of its method -/
/-- a heap of places: how many places and slots have been made; a place's kind (a class's number and how many fields; 100: ints, 101: Sheets, 102: Cars, 103: ints that nobody writes; and how many) ; what stands there -/
abbrev xH : Type := (Nat × Nat) × (Nat → Nat × Nat) × (Nat → Nat → Value)
/-- where the places lie: the first address, the tables' numbers, the array classes, the addresses of what nobody writes -/
abbrev xG : Type := Nat × va_G × (Nat → ClassId) × (Nat → Nat)
abbrev xL : Type := List (Option Value)
def xad (G : xG) (k : Nat) : Nat := if k < 1000000 then G.1 + k else G.2.2.2 (k - 1000000)
def xcv (G : xG) (v : Value) : Value := match v with
  | .ref k => .ref (xad G k)
  | w => w
def xi (v : Value) : Int32 := match v with
  | .int x => x
  | _ => 0
def xrf (G : xG) (v : Value) : Option Nat := match v with
  | .ref k => some (xad G k)
  | _ => none
def xEnt (G : xG) (h : xH) (k : Nat) : va_E :=
  if (h.2.1 k).1 = 100 then .inl (G.2.2.1 0, (h.2.1 k).2, .inl (fun j => xi (h.2.2 k j)))
  else if (h.2.1 k).1 = 101 then .inl (G.2.2.1 1, (h.2.1 k).2, .inr (.inr (.inr (.inr (fun j => xrf G (h.2.2 k j))))))
  else if (h.2.1 k).1 = 102 then .inl (G.2.2.1 2, (h.2.1 k).2, .inr (.inr (.inr (.inr (fun j => xrf G (h.2.2 k j))))))
  else .inr ((h.2.1 k).1, (List.range (h.2.1 k).2).map (fun j => xcv G (h.2.2 k j)))
def xWs (G : xG) (h : xH) : va_W := (List.range h.1.1).map (fun k => (G.1 + k, xEnt G h k))
def xtys (G : xG) : List (ClassId × FieldType) := [(G.2.2.1 0, .int), (G.2.2.1 1, .object "PastTheRim$Sheet"), (G.2.2.1 2, .object "PastTheRim$Car")]
def xA (G : xG) : Nat → Prop := fun q => G.1 ≤ q
def xRO (G : xG) (h : xH) (s : State) (H : Heap) : Prop :=
  (∀ i L, h.2.1 (1000000 + i) = (103, L) → va_T .int (G.2.2.2 i) L (fun j => .int (xi (h.2.2 (1000000 + i) j))) (xA G) s H) ∧
  va_Z "PastTheRim$Kinds" "ABOVE" "[I" (.ref (G.2.2.2 1)) (xA G) s H ∧ va_Z "PastTheRim$Voices" "BODIES" "[I" (.ref (G.2.2.2 2)) (xA G) s H
def xHp (G : xG) (s : State) (h : xH) (H : Heap) : Prop :=
  va_P G.2.1 xcl (xWs G h) H ∧ H.size = G.1 + h.1.1 ∧ h.1.1 ≤ 1000000 ∧ xRO G h s H
def xN (s : State) : Prop := ∀ w ∈ lw_tbl, xnest w = true → w.before #[] s = true
def xKK (G : xG) (s : State) : Prop := va_K G.2.1 xcl (xtys G) s ∧ xN s
def xLs (G : xG) (n : Nat) (l : xL) (ls : Array Slot) : Prop := ls.size = n ∧ lv_wf ls ∧ l.length = n ∧ ∀ (i : Nat) (v : Value), l[i]? = some (some v) → ls[i]? = some (.val (xcv G v))
def xFix (G : xG) (d nM wM : Nat) (M : xM) (p : Program) (s : State) (m : MethodId) (args : Array Value) (meth : Method) (c : Code) (R : Room) (n0 w0 : Nat) : Prop :=
  p.tables.exec = Jvm.exec ∧ c.code = M.2.1 ∧ c.maxLocals = M.2.2.1 ∧ meth.sig.returnType = M.2.2.2 ∧ s.vm.findClass M.1.cls = some m.cls ∧ (∀ w ∈ xTbl, w.before args s = true) ∧ meth.locks = false ∧ (M.1.name = "<init>" → meth.name = "<init>") ∧ xKK G s ∧
  d ≤ R.frames ∧ 64 * d ≤ R.locals ∧ nM ≤ n0 + R.cells ∧ wM ≤ w0 + R.slots
def xRet (M : xM) (pc : Nat) (r : Option Value) : Prop :=
  (∃ (v : Int32) (ty : FieldType), r = some (.int v) ∧ decode M.2.1 pc = .ok (.ireturn, 1) ∧ M.2.2.2 = some ty ∧ narrow ty (.int v) = .int v) ∨
  (∃ (v : Value) (ty : FieldType), r = some v ∧ (v = .null ∨ ∃ a, v = .ref a) ∧ decode M.2.1 pc = .ok (.areturn, 1) ∧ M.2.2.2 = some ty ∧ ((∃ n, ty = .object n) ∨ ∃ t, ty = .array t)) ∨
  (r = none ∧ decode M.2.1 pc = .ok (.return_, 1) ∧ M.2.2.2 = none)
/-- a frame of M at pc, with locals l and operands st, over the heap h, ends with Q -/
def V (d nM wM : Nat) (M : xM) (pc : Nat) (l : xL) (st : List Value) (h : xH) (Q : Option Value → xH → Prop) : Prop :=
  ∀ (G : xG) (p : Program) (la : Launch) (e : Env) (R : Room) (s : State) (m : MethodId) (args : Array Value) (below : List Frame) (meth : Method) (c : Code) (Z : State → Prop) (n0 w0 : Nat),
  xFix G d nM wM M p s m args meth c R n0 w0 →
  (∀ (r : Option Value) (h' : xH) (H' : Heap) (locs' : List Loc) (pc' : Nat) (ls' : Array Slot), Q r h' → xRet M pc' r → xHp G s h' H' → (∀ q ∈ locs', G.1 ≤ q.base) → n0 ≤ h'.1.1 → w0 ≤ h'.1.2 →
    W p la e R s m args below meth c H' locs' (h'.1.1 - n0) (h'.1.2 - w0) Z (F0 m pc' ls' ((r.map (xcv G)).toList))) →
  ∀ (H : Heap) (locs : List Loc) (ls : Array Slot), xHp G s h H → (∀ q ∈ locs, G.1 ≤ q.base) → n0 ≤ h.1.1 → w0 ≤ h.1.2 → xLs G M.2.2.1 l ls →
    W p la e R s m args below meth c H locs (h.1.1 - n0) (h.1.2 - w0) Z (F0 m pc ls (st.map (xcv G)))

/-! what a frame's parts say -/
section XP
theorem xLs.at {G : xG} {n : Nat} {l : xL} {ls : Array Slot} (h : xLs G n l ls) {i : Nat} {v : Value} (hi : l[i]? = some (some v)) : ls[i]? = some (.val (xcv G v)) := h.2.2.2 i v hi
def xAs (G : xG) (l : xL) : List (Nat × Value) := (List.range l.length).filterMap (fun i => (l[i]?).bind (fun o => o.map (fun v => (i, xcv G v))))
theorem xAs_mem {G : xG} {l : xL} {q : Nat × Value} : q ∈ xAs G l ↔ ∃ v, l[q.1]? = some (some v) ∧ q.2 = xcv G v := by
  unfold xAs
  rw [List.mem_filterMap]
  constructor
  · rintro ⟨i, hi, h⟩
    cases hl : l[i]? with
    | none => rw [hl] at h; cases h
    | some o =>
      cases o with
      | none => rw [hl] at h; cases h
      | some v =>
        rw [hl] at h
        cases h
        exact ⟨v, hl, rfl⟩
  · rintro ⟨v, h1, h2⟩
    refine ⟨q.1, List.mem_range.mpr (List.getElem?_eq_some_iff.mp h1).1, ?_⟩
    rw [h1]
    show some (q.1, xcv G v) = some q
    rw [← h2]
theorem xLs.has {G : xG} {n : Nat} {l : xL} {ls : Array Slot} (h : xLs G n l ls) : lv_has ls n (xAs G l) := by
  refine ⟨h.1, h.2.1, fun q hq => ?_⟩
  obtain ⟨v, h1, h2⟩ := xAs_mem.mp hq
  rw [h2]
  exact h.2.2.2 _ _ h1
theorem xLs.lt {G : xG} {n : Nat} {l : xL} {ls : Array Slot} (h : xLs G n l ls) {i : Nat} (hi : i < l.length) : i < n := by rw [← h.2.2.1]; exact hi
/-- storing a word: the place ahead holds no long -/
def xst (l : xL) (i : Nat) (v : Value) (l' : xL) : Prop := i < l.length ∧ (∀ w, l[i - 1]? = some (some w) → w.category = 1 ∨ i = 0) ∧ l' = l.set i (some v)
theorem xcv_cat {G : xG} {v : Value} : (xcv G v).category = v.category := by cases v <;> rfl
theorem xLs.store {G : xG} {n : Nat} {l l' : xL} {i : Nat} {v : Value} {ls ls' : Array Slot} (h : xLs G n l ls) (hst : xst l i v l') (h' : lv_has ls' n ((i, xcv G v) :: (xAs G l).filter (fun q => !(q.1 == i) && !(q.1 + 1 == i && q.2.category == 2)))) : xLs G n l' ls' := by
  obtain ⟨hi, hc, rfl⟩ := hst
  refine ⟨h'.1, h'.2.1, by rw [List.length_set]; exact h.2.2.1, fun j w hj => ?_⟩
  by_cases hji : j = i
  · subst hji
    rw [List.getElem?_set_self hi] at hj
    cases hj
    exact h'.2.2 (j, xcv G v) List.mem_cons_self
  · rw [List.getElem?_set_ne (Ne.symm hji)] at hj
    refine h'.2.2 (j, xcv G w) (List.mem_cons_of_mem _ (List.mem_filter.mpr ⟨xAs_mem.mpr ⟨w, hj, rfl⟩, ?_⟩))
    have h1 : (j == i) = false := by simpa using hji
    by_cases h2 : j + 1 = i
    · have h3 : l[i - 1]? = some (some w) := by rw [show i - 1 = j by omega]; exact hj
      have h4 : (xcv G w).category = 1 := by
        rw [xcv_cat]
        rcases hc w h3 with h | h
        · exact h
        · omega
      simp [h1, h4]
    · have h2' : (j + 1 == i) = false := by simpa using h2
      simp [h1, h2']
theorem xWs_at {G : xG} {h : xH} {k : Nat} (hk : k < h.1.1) : (xWs G h)[k]? = some (G.1 + k, xEnt G h k) := by
  unfold xWs
  simp [hk]
theorem xWs_len {G : xG} {h : xH} : (xWs G h).length = h.1.1 := by simp [xWs]
theorem xWs_D {G : xG} {h : xH} : va_D (xA G) (xWs G h) := by
  refine ⟨fun i j p q hi hj hpq => ?_, fun k q hk => ?_⟩
  · have h1 : i < h.1.1 := by have := (List.getElem?_eq_some_iff.mp hi).1; rwa [xWs_len] at this
    have h2 : j < h.1.1 := by have := (List.getElem?_eq_some_iff.mp hj).1; rwa [xWs_len] at this
    rw [xWs_at h1] at hi
    rw [xWs_at h2] at hj
    cases hi
    cases hj
    have : G.1 + i = G.1 + j := hpq
    omega
  · have h1 : k < h.1.1 := by have := (List.getElem?_eq_some_iff.mp hk).1; rwa [xWs_len] at this
    rw [xWs_at h1] at hk
    cases hk
    exact Nat.le_add_right _ _
theorem xad_lt {G : xG} {k : Nat} (h : k < 1000000) : xad G k = G.1 + k := if_pos h
theorem xWs_set {G : xG} {h h' : xH} {k : Nat} (h1 : h'.1.1 = h.1.1) (h2 : ∀ a, a ≠ k → xEnt G h' a = xEnt G h a) (hk : k < h.1.1) : (xWs G h).set k (G.1 + k, xEnt G h' k) = xWs G h' := by
  apply List.ext_getElem?
  intro a
  by_cases ha : a < h.1.1
  · by_cases hak : a = k
    · subst hak
      rw [List.getElem?_set_self (by rw [xWs_len]; exact ha), xWs_at (by rw [h1]; exact ha)]
    · rw [List.getElem?_set_ne (Ne.symm hak), xWs_at ha, xWs_at (by rw [h1]; exact ha), h2 a hak]
  · rw [List.getElem?_eq_none (by rw [List.length_set, xWs_len]; omega), List.getElem?_eq_none (by rw [xWs_len, h1]; omega)]
def xup (f : Nat → Nat → Value) (k j : Nat) (v : Value) : Nat → Nat → Value := fun a b => if a = k then (if b = j then v else f a b) else f a b
def xrow (f : Nat → Nat → Value) (k : Nat) (r : Nat → Value) : Nat → Nat → Value := fun a => if a = k then r else f a
theorem xEnt_ne {G : xG} {n : Nat × Nat} {K : Nat → Nat × Nat} {f f' : Nat → Nat → Value} {a : Nat} (h : f' a = f a) : xEnt G (n, K, f') a = xEnt G (n, K, f) a := by
  unfold xEnt
  show (if (K a).1 = 100 then _ else _) = (if (K a).1 = 100 then _ else _)
  simp only [h]
theorem xRO_put {G : xG} {n n' : Nat × Nat} {K : Nat → Nat × Nat} {f f' : Nat → Nat → Value} {s : State} {H H' : Heap} (h : xRO G (n, K, f) s H) (hf : ∀ a, 1000000 ≤ a → f' a = f a) (hH : ∀ q, q < G.1 → H'[q]? = H[q]?) : xRO G (n', K, f') s H' := by
  obtain ⟨h1, h2, h3⟩ := h
  refine ⟨fun i L hi => ?_, h2.kept (fun q _ hq => hH q (Nat.not_le.mp hq)), h3.kept (fun q _ hq => hH q (Nat.not_le.mp hq))⟩
  have g1 := h1 i L hi
  show va_T .int _ L (fun j => .int (xi (f' (1000000 + i) j))) _ s H'
  rw [hf _ (Nat.le_add_right _ _)]
  exact g1.kept (fun q _ hq => hH q (Nat.not_le.mp hq))
theorem xLocs {G : xG} {locs L : List Loc} (h : ∀ q ∈ locs, G.1 ≤ q.base) (h2 : ∀ q ∈ L, G.1 ≤ q.base) : ∀ q ∈ locs ++ L, G.1 ≤ q.base := fun q hq => (List.mem_append.mp hq).elim (h q) (h2 q)
theorem xSv {G : xG} {H : Heap} {locs : List Loc} (h : ∀ q ∈ locs, G.1 ≤ q.base) : va_S (xA G) H H locs := ⟨Nat.le_refl _, fun _ _ _ => rfl, h⟩
theorem xcats {G : xG} {st : List Value} : ((st.map (xcv G)).map fun v => v.category).sum = (st.map fun v => v.category).sum := by
  rw [List.map_map]
  congr 1
  exact List.map_congr_left fun v _ => xcv_cat
end XP
