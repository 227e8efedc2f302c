/-! THE WORLD BEHIND THE CONSTRUCTORS (printed by wip/whole/gen5.py): which place is what never changes; only ints do. The places have numbers of the proof's own (yn, yo: to the heap's numbers, and back) -/
def xkinds : List (Nat × Nat) := [(9, 9), (8, 7), (0, 8), (3, 3), (99, 0), (100, 6), (99, 0), (100, 6), (1, 5), (100, 60), (100, 60), (1, 5), (100, 60), (100, 60), (2, 2), (100, 60), (2, 2), (100, 24), (8, 7), (0, 8), (3, 3), (99, 0), (100, 6), (99, 0), (100, 6), (1, 5), (100, 60), (100, 60), (1, 5), (100, 60), (100, 60), (2, 2), (100, 60), (2, 2), (100, 24), (0, 8), (5, 9), (102, 5), (2, 2), (100, 3), (100, 4), (100, 4), (0, 8), (0, 8), (0, 8), (0, 8), (0, 8), (4, 4), (2, 2), (100, 60), (2, 2), (100, 60), (7, 6), (2, 2), (100, 30), (101, 4), (100, 7), (6, 3), (100, 24), (6, 3), (100, 24), (6, 3), (100, 24), (6, 3), (100, 24), (10, 23), (100, 358), (100, 358), (100, 24), (100, 7), (100, 124), (100, 128), (100, 64), (100, 30), (100, 4), (100, 4), (100, 96), (100, 24)]
def xkindsN : List (Nat × Nat) := [(9, 9), (8, 7), (0, 8), (3, 3), (100, 6), (100, 6), (1, 5), (100, 60), (100, 60), (1, 5), (100, 60), (100, 60), (2, 2), (100, 60), (2, 2), (100, 24), (8, 7), (0, 8), (3, 3), (100, 6), (100, 6), (1, 5), (100, 60), (100, 60), (1, 5), (100, 60), (100, 60), (2, 2), (100, 60), (2, 2), (100, 24), (0, 8), (5, 9), (102, 5), (2, 2), (100, 3), (100, 4), (100, 4), (0, 8), (0, 8), (0, 8), (0, 8), (0, 8), (4, 4), (2, 2), (100, 60), (2, 2), (100, 60), (7, 6), (2, 2), (100, 30), (101, 4), (100, 7), (6, 3), (100, 24), (6, 3), (100, 24), (6, 3), (100, 24), (6, 3), (100, 24), (10, 23), (100, 358), (100, 358), (100, 24), (100, 7), (100, 124), (100, 128), (100, 64), (100, 30), (100, 4), (100, 4), (100, 96), (100, 24)]
def xrefs : List (List (Option Nat)) := [[some 1, some 18, some 35, some 36, some 47, some 52, some 55, some 56, none], [some 2, some 3, some 8, some 11, some 14, some 16, none], [none, none, none, none, none, none, none, none], [some 5, some 7, none], [], [], [], [], [none, some 9, some 10, none, none], [], [], [none, some 12, some 13, none, none], [], [], [some 15, none], [], [some 17, none], [], [some 19, some 20, some 25, some 28, some 31, some 33, none], [none, none, none, none, none, none, none, none], [some 22, some 24, none], [], [], [], [], [none, some 26, some 27, none, none], [], [], [none, some 29, some 30, none, none], [], [], [some 32, none], [], [some 34, none], [], [none, none, none, none, none, none, none, none], [some 37, some 38, some 40, some 41, none, none, none, none, none], [some 42, some 43, some 44, some 45, some 46], [some 39, none], [], [], [], [none, none, none, none, none, none, none, none], [none, none, none, none, none, none, none, none], [none, none, none, none, none, none, none, none], [none, none, none, none, none, none, none, none], [none, none, none, none, none, none, none, none], [some 48, some 50, none, none], [some 49, none], [], [some 51, none], [], [some 53, none, none, none, none, none], [some 54, none], [], [some 57, some 59, some 61, some 63], [], [some 58, none, none], [], [some 60, none, none], [], [some 62, none, none], [], [some 64, none, none], [], [some 66, some 67, some 68, none, some 69, none, none, none, none, none, some 70, some 71, some 72, none, none, none, some 73, none, none, some 74, some 75, some 76, some 77], [], [], [], [], [], [], [], [], [], [], [], []]
def xrefsN : List (List (Option Nat)) := [[some 1, some 16, some 31, some 32, some 43, some 48, some 51, some 52, none], [some 2, some 3, some 6, some 9, some 12, some 14, none], [none, none, none, none, none, none, none, none], [some 4, some 5, none], [], [], [none, some 7, some 8, none, none], [], [], [none, some 10, some 11, none, none], [], [], [some 13, none], [], [some 15, none], [], [some 17, some 18, some 21, some 24, some 27, some 29, none], [none, none, none, none, none, none, none, none], [some 19, some 20, none], [], [], [none, some 22, some 23, none, none], [], [], [none, some 25, some 26, none, none], [], [], [some 28, none], [], [some 30, none], [], [none, none, none, none, none, none, none, none], [some 33, some 34, some 36, some 37, none, none, none, none, none], [some 38, some 39, some 40, some 41, some 42], [some 35, none], [], [], [], [none, none, none, none, none, none, none, none], [none, none, none, none, none, none, none, none], [none, none, none, none, none, none, none, none], [none, none, none, none, none, none, none, none], [none, none, none, none, none, none, none, none], [some 44, some 46, none, none], [some 45, none], [], [some 47, none], [], [some 49, none, none, none, none, none], [some 50, none], [], [some 53, some 55, some 57, some 59], [], [some 54, none, none], [], [some 56, none, none], [], [some 58, none, none], [], [some 60, none, none], [], [some 62, some 63, some 64, none, some 65, none, none, none, none, none, some 66, some 67, some 68, none, none, none, some 69, none, none, some 70, some 71, some 72, some 73], [], [], [], [], [], [], [], [], [], [], [], []]
def ynl : List Nat := [0, 1, 2, 3, 0, 4, 0, 5, 6, 7, 8, 9, 10, 11, 12, 13, 14, 15, 16, 17, 18, 0, 19, 0, 20, 21, 22, 23, 24, 25, 26, 27, 28, 29, 30, 31, 32, 33, 34, 35, 36, 37, 38, 39, 40, 41, 42, 43, 44, 45, 46, 47, 48, 49, 50, 51, 52, 53, 54, 55, 56, 57, 58, 59, 60, 61, 62, 63, 64, 65, 66, 67, 68, 69, 70, 71, 72, 73]
def yol : List Nat := [0, 1, 2, 3, 5, 7, 8, 9, 10, 11, 12, 13, 14, 15, 16, 17, 18, 19, 20, 22, 24, 25, 26, 27, 28, 29, 30, 31, 32, 33, 34, 35, 36, 37, 38, 39, 40, 41, 42, 43, 44, 45, 46, 47, 48, 49, 50, 51, 52, 53, 54, 55, 56, 57, 58, 59, 60, 61, 62, 63, 64, 65, 66, 67, 68, 69, 70, 71, 72, 73, 74, 75, 76, 77]
def yn (k : Nat) : Nat := if k < 78 then ynl.getD k 0 else k
def yo (k : Nat) : Nat := yol.getD k 0
def yv (v : Value) : Value := match v with
  | .ref k => .ref (yn k)
  | w => w
def yl (l : xL) : xL := l.map (fun o => o.map yv)
def xK0 (L : Nat) (k : Nat) : Nat × Nat := if k < 74 then xkindsN.getD k (0, 0) else if k = 1000000 then (103, L) else if k = 1000001 then (103, 7) else if k = 1000002 then (103, 28) else (0, 0)
/-- the reference that stands at a place for ever, if one does -/
def xsk (k j : Nat) : Option Nat := ((xrefs.getD k []).getD j none)
def xskN (k j : Nat) : Option Nat := ((xrefsN.getD k []).getD j none)
def xABOVE (j : Nat) : Int32 := [-1, 0, 0, 0, 1, 2, 0].getD j 0
def xBODIES (j : Nat) : Int32 := [10, 11, 12, 13, 20, 0, 0, 21, 0, 30, 0, 0, 0, 0, 40, 0, 50, 0, 51, 0, 0, 60, 0, 0, 70, 71, 0, 0].getD j 0
abbrev xF : Type := Nat → Nat → Int32
def xVF (xs : Nat → Int32) (F : xF) (k j : Nat) : Value :=
  if k < 74 then (match xskN k j with
    | some a => .ref a
    | none => .int (F (yo k) j))
  else if k = 1000000 then .int (xs j) else if k = 1000001 then .int (xABOVE j) else if k = 1000002 then .int (xBODIES j) else .null
def xHF (L : Nat) (xs : Nat → Int32) (F : xF) : xH := ((74, 2349), xK0 L, xVF xs F)
/-- what a method leaves, in the proof's numbers -/
def yQ (L : Nat) (xs : Nat → Int32) (Q : Option Value → xF → Prop) : Option Value → xH → Prop := fun r h => ∃ r' F', r = r'.map yv ∧ h = xHF L xs F' ∧ Q r' F'
/-- V over the world behind the constructors; what is asked of the law's script is fixed -/
def V2 (L : Nat) (xs : Nat → Int32) (d : Nat) (M : xM) (pc : Nat) (l : xL) (st : List Value) (F : xF) (Q : Option Value → xF → Prop) : Prop :=
  V d 74 2349 M pc (yl l) (st.map yv) (xHF L xs F) (yQ L xs Q)
/-- one place written -/
def xp (F : xF) (k j : Nat) (x : Int32) : xF := fun a b => if a = k then (if b = j then x else F a b) else F a b
/-- one row written -/
def xrw (F : xF) (k : Nat) (r : Nat → Int32) : xF := fun a b => if a = k then r b else F a b
theorem yK : ∀ k, k < 78 → (xkinds.getD k (0, 0)).1 ≠ 99 → yn k < 74 ∧ xkindsN.getD (yn k) (0, 0) = xkinds.getD k (0, 0) ∧ yo (yn k) = k ∧ xrefsN.getD (yn k) [] = (xrefs.getD k []).map (Option.map yn) := by decide +kernel
theorem yO : ∀ a, a < 74 → yn (yo a) = a := by decide +kernel
theorem y100 : ∀ k, k < 78 → (xkinds.getD k (0, 0)).1 = 100 → xrefs.getD k [] = [] := by decide +kernel
theorem yN100 : ∀ k, k < 74 → (xkindsN.getD k (0, 0)).1 = 100 → xrefsN.getD k [] = [] := by decide +kernel
theorem ysk {k : Nat} (hk : k < 78) (hne : (xkinds.getD k (0, 0)).1 ≠ 99) (j : Nat) : xskN (yn k) j = (xsk k j).map yn := by
  unfold xskN xsk
  rw [(yK k hk hne).2.2.2]
  generalize xrefs.getD k [] = r
  rw [List.getD_eq_getElem?_getD, List.getD_eq_getElem?_getD, List.getElem?_map]
  cases r[j]? <;> rfl
theorem yk {L k ci sz : Nat} (hk : k < 78) (ho : xkinds.getD k (0, 0) = (ci, sz)) (hc : ¬ ci = 99) : yn k < 74 ∧ xK0 L (yn k) = (ci, sz) := by
  have h := yK k hk (by rw [ho]; exact hc)
  refine ⟨h.1, ?_⟩
  unfold xK0
  rw [if_pos h.1, h.2.1]
  exact ho
theorem yv_cat {v : Value} : (yv v).category = v.category := by cases v <;> rfl
theorem ycats {st : List Value} : ((st.map yv).map fun v => v.category).sum = (st.map fun v => v.category).sum := by
  rw [List.map_map]
  congr 1
  exact List.map_congr_left fun v _ => yv_cat
theorem yl_at {l : xL} {i : Nat} {v : Value} (h : l[i]? = some (some v)) : (yl l)[i]? = some (some (yv v)) := by
  unfold yl
  rw [List.getElem?_map, h]
  rfl
theorem yl_st {l l' : xL} {i : Nat} {v : Value} (h : xst l i v l') : xst (yl l) i (yv v) (yl l') := by
  obtain ⟨hi, hc, rfl⟩ := h
  refine ⟨by unfold yl; rw [List.length_map]; exact hi, fun w hw => ?_, ?_⟩
  · unfold yl at hw
    rw [List.getElem?_map] at hw
    cases hl : l[i - 1]? with
    | none => rw [hl] at hw; cases hw
    | some o =>
      rw [hl] at hw
      cases o with
      | none => cases hw
      | some u =>
        have e : yv u = w := Option.some.inj (Option.some.inj hw)
        rcases hc u hl with h | h
        · exact Or.inl (by rw [← e, yv_cat]; exact h)
        · exact Or.inr h
  · unfold yl
    rw [List.map_set]
    rfl
theorem yl_app {a b : xL} : yl (a ++ b) = yl a ++ yl b := List.map_append
theorem yl_len {a : xL} : (yl a).length = a.length := List.length_map _
theorem yFlat (as : List Value) : xFlat (as.map yv) = yl (xFlat as) := by
  induction as with
  | nil => rfl
  | cons v t ih =>
    have h1 : xFlat (v :: t) = (if v.category = 2 then [some v, none] else [some v]) ++ xFlat t := rfl
    have h2 : xFlat ((v :: t).map yv) = (if (yv v).category = 2 then [some (yv v), none] else [some (yv v)]) ++ xFlat (t.map yv) := rfl
    rw [h1, h2, ih, yv_cat, yl_app]
    by_cases h : v.category = 2
    · rw [if_pos h, if_pos h]
      rfl
    · rw [if_neg h, if_neg h]
      rfl
theorem yFlat_len (as : List Value) : (xFlat (as.map yv)).length = (xFlat as).length := by rw [yFlat, yl_len]
theorem yEntry (as : List Value) (n : Nat) : xEntry (as.map yv) n = yl (xEntry as n) := by
  unfold xEntry
  rw [yFlat, yl_app, yl_len]
  refine congrArg (fun z => yl (xFlat as) ++ z) ?_
  show _ = List.map _ (List.replicate _ none)
  rw [List.map_replicate]
  rfl
theorem xsk_int {k len j : Nat} (h : xkinds.getD k (0, 0) = (100, len)) (hk : k < 78) : xsk k j = none := by
  unfold xsk
  rw [y100 k hk (by rw [h])]
  rfl
theorem xskN_int {L k len j : Nat} (h : xK0 L k = (100, len)) (hk : k < 74) : xskN k j = none := by
  unfold xK0 at h
  rw [if_pos hk] at h
  unfold xskN
  rw [yN100 k hk (by rw [h])]
  rfl
theorem xFld_ne {c : String} {idx ci j : Nat} {fin : Bool} {ty : FieldType} (hf : xFld c idx ci j fin ty) : ¬ ci = 99 := by
  obtain ⟨q, hq, -⟩ := hf
  have := xcl_lt hq
  omega
section X2
variable {L : Nat} {xs : Nat → Int32} {d : Nat} {M : xM} {pc : Nat} {l : xL} {st : List Value} {F : xF} {Q : Option Value → xF → Prop}
theorem xVF_int {k j : Nat} (hk : k < 78) (hne : (xkinds.getD k (0, 0)).1 ≠ 99) (h : xsk k j = none) : xVF xs F (yn k) j = .int (F k j) := by
  have a := yK k hk hne
  unfold xVF
  rw [if_pos a.1, ysk hk hne, h, a.2.2.1]
  rfl
theorem xVF_ref {k j a : Nat} (hk : k < 78) (hne : (xkinds.getD k (0, 0)).1 ≠ 99) (h : xsk k j = some a) : xVF xs F (yn k) j = .ref (yn a) := by
  have a := yK k hk hne
  unfold xVF
  rw [if_pos a.1, ysk hk hne, h]
  rfl
theorem xVF_put {k j : Nat} {x : Int32} (hk : k < 78) (hne : (xkinds.getD k (0, 0)).1 ≠ 99) (h : xsk k j = none) : xup (xVF xs F) (yn k) j (.int x) = xVF xs (xp F k j x) := by
  have y := yK k hk hne
  funext a b
  unfold xup xVF xp
  by_cases ha : a = yn k
  · subst ha
    rw [if_pos rfl, if_pos y.1, if_pos y.1, y.2.2.1]
    by_cases hb : b = j
    · subst hb
      rw [if_pos rfl, ysk hk hne, h]
      simp
    · rw [if_neg hb]
      cases xskN (yn k) b <;> simp [hb]
  · rw [if_neg ha]
    by_cases hl : a < 74
    · have hq : ¬ yo a = k := fun e => ha (by rw [← e, yO a hl])
      rw [if_pos hl, if_pos hl]
      cases xskN a b <;> simp [hq]
    · rw [if_neg hl, if_neg hl]
theorem xVF_row {k : Nat} {r : Nat → Int32} (hk : k < 78) (hne : (xkinds.getD k (0, 0)).1 ≠ 99) (h : ∀ j, xsk k j = none) : xrow (xVF xs F) (yn k) (fun j => .int (r j)) = xVF xs (xrw F k r) := by
  have y := yK k hk hne
  funext a b
  unfold xrow xVF xrw
  by_cases ha : a = yn k
  · subst ha
    rw [if_pos rfl, if_pos y.1, ysk hk hne, h b, y.2.2.1]
    simp
  · rw [if_neg ha]
    by_cases hl : a < 74
    · have hq : ¬ yo a = k := fun e => ha (by rw [← e, yO a hl])
      rw [if_pos hl, if_pos hl]
      cases xskN a b <;> simp [hq]
    · rw [if_neg hl, if_neg hl]
theorem yne {k ci sz : Nat} (ho : xkinds.getD k (0, 0) = (ci, sz)) (hc : ¬ ci = 99) : (xkinds.getD k (0, 0)).1 ≠ 99 := by
  rw [ho]
  exact hc
theorem V2_get {idx ci j k sz : Nat} {fin : Bool} {ty : FieldType} {v : Int32} (hd : decode M.2.1 pc = .ok (.getfield idx, 3)) (hf : xFld M.1.cls idx ci j fin ty) (hk : k < 78) (ho : xkinds.getD k (0, 0) = (ci, sz)) (hj : j < sz) (hs : xsk k j = none) (hv : F k j = v)
    (kk : V2 L xs d M (pc + 3) l (.int v :: st) F Q) : V2 L xs d M pc l (.ref k :: st) F Q := by
  have a := yk (L := L) hk ho (xFld_ne hf)
  refine V_get (k := yn k) (f := xVF xs F) hd hf a.1 a.2 hj ?_
  rw [xVF_int hk (yne ho (xFld_ne hf)) hs, hv]
  exact kk
theorem V2_getr {idx ci j k sz a : Nat} {fin : Bool} {ty : FieldType} (hd : decode M.2.1 pc = .ok (.getfield idx, 3)) (hf : xFld M.1.cls idx ci j fin ty) (hk : k < 78) (ho : xkinds.getD k (0, 0) = (ci, sz)) (hj : j < sz) (hs : xsk k j = some a)
    (kk : V2 L xs d M (pc + 3) l (.ref a :: st) F Q) : V2 L xs d M pc l (.ref k :: st) F Q := by
  have b := yk (L := L) hk ho (xFld_ne hf)
  refine V_get (k := yn k) (f := xVF xs F) hd hf b.1 b.2 hj ?_
  rw [xVF_ref hk (yne ho (xFld_ne hf)) hs]
  exact kk
theorem V2_put {idx ci j k sz : Nat} {x : Int32} (hd : decode M.2.1 pc = .ok (.putfield idx, 3)) (hf : xFld M.1.cls idx ci j false .int) (hk : k < 78) (ho : xkinds.getD k (0, 0) = (ci, sz)) (hj : j < sz) (hs : xsk k j = none)
    (kk : V2 L xs d M (pc + 3) l st (xp F k j x) Q) : V2 L xs d M pc l (.int x :: .ref k :: st) F Q := by
  have a := yk (L := L) hk ho (xFld_ne hf)
  refine V_put (k := yn k) (f := xVF xs F) (v := .int x) hd hf a.1 a.2 hj rfl rfl ?_
  rw [xVF_put hk (yne ho (xFld_ne hf)) hs]
  exact kk
/-- a truth value -/
def xb (P : Prop) [Decidable P] : Int32 := if P then 1 else 0
theorem xb_eq {P : Prop} [Decidable P] : xb P = 0 ↔ ¬ P := by unfold xb; by_cases h : P <;> simp [h]
theorem xb_ne {P : Prop} [Decidable P] : ¬ xb P = 0 ↔ P := by unfold xb; by_cases h : P <;> simp [h]
theorem xb_1 {P : Prop} [Decidable P] (h : P) : xb P = 1 := if_pos h
theorem xb_0 {P : Prop} [Decidable P] (h : ¬ P) : xb P = 0 := if_neg h
theorem xb_01 {P : Prop} [Decidable P] : xb P = 0 ∨ xb P = 1 := by unfold xb; by_cases h : P <;> simp [h]
theorem V2_putz {idx ci j k sz : Nat} {x : Int32} (hd : decode M.2.1 pc = .ok (.putfield idx, 3)) (hf : xFld M.1.cls idx ci j false .boolean) (hk : k < 78) (ho : xkinds.getD k (0, 0) = (ci, sz)) (hj : j < sz) (hs : xsk k j = none) (hx : x = 0 ∨ x = 1)
    (kk : V2 L xs d M (pc + 3) l st (xp F k j x) Q) : V2 L xs d M pc l (.int x :: .ref k :: st) F Q := by
  have a := yk (L := L) hk ho (xFld_ne hf)
  refine V_put (k := yn k) (f := xVF xs F) (v := .int x) hd hf a.1 a.2 hj (by rcases hx with rfl | rfl <;> rfl) (by rcases hx with rfl | rfl <;> rfl) ?_
  rw [xVF_put hk (yne ho (xFld_ne hf)) hs]
  exact kk
theorem V2_iaload {k len : Nat} {i v : Int32} (hd : decode M.2.1 pc = .ok (.iaload, 1)) (hk : k < 78) (ho : xkinds.getD k (0, 0) = (100, len)) (hin : vp_in i len) (hv : F k i.toNatClampNeg = v)
    (kk : V2 L xs d M (pc + 1) l (.int v :: st) F Q) : V2 L xs d M pc l (.int i :: .ref k :: st) F Q := by
  have a := yk (L := L) hk ho (by decide)
  refine V_iaload (k := yn k) (f := xVF xs F) hd a.1 a.2 hin ?_
  rw [xVF_int hk (yne ho (by decide)) (xsk_int ho hk)]
  show V d 74 2349 M (pc + 1) (yl l) (.int (F k i.toNatClampNeg) :: st.map yv) (xHF L xs F) _
  rw [hv]
  exact kk
theorem V2_iastore {k len j : Nat} {i x : Int32} (hd : decode M.2.1 pc = .ok (.iastore, 1)) (hk : k < 78) (ho : xkinds.getD k (0, 0) = (100, len)) (hin : vp_in i len) (hj : i.toNatClampNeg = j)
    (kk : V2 L xs d M (pc + 1) l st (xp F k j x) Q) : V2 L xs d M pc l (.int x :: .int i :: .ref k :: st) F Q := by
  subst hj
  have a := yk (L := L) hk ho (by decide)
  refine V_iastore (k := yn k) (f := xVF xs F) hd a.1 a.2 hin ?_
  rw [xVF_put hk (yne ho (by decide)) (xsk_int ho hk)]
  exact kk
theorem V2_script {i : Int32} (hd : decode M.2.1 pc = .ok (.iaload, 1)) (hin : vp_in i L)
    (kk : V2 L xs d M (pc + 1) l (.int (xs i.toNatClampNeg) :: st) F Q) : V2 L xs d M pc l (.int i :: .ref 1000000 :: st) F Q :=
  V_ialoadR (a := 0) (f := xVF xs F) hd rfl hin kk
theorem V2_scriptlen (hd : decode M.2.1 pc = .ok (.arraylength, 1))
    (kk : V2 L xs d M (pc + 1) l (.int (Int32.ofNat L) :: st) F Q) : V2 L xs d M pc l (.ref 1000000 :: st) F Q :=
  V_alenR (a := 0) (f := xVF xs F) hd rfl kk
theorem V2_above {i : Int32} {v : Int32} (hd : decode M.2.1 pc = .ok (.iaload, 1)) (hin : vp_in i 7) (hv : xABOVE i.toNatClampNeg = v)
    (kk : V2 L xs d M (pc + 1) l (.int v :: st) F Q) : V2 L xs d M pc l (.int i :: .ref 1000001 :: st) F Q := by
  subst hv
  exact V_ialoadR (a := 1) (f := xVF xs F) hd rfl hin kk
theorem V2_bodies {i : Int32} {v : Int32} (hd : decode M.2.1 pc = .ok (.iaload, 1)) (hin : vp_in i 28) (hv : xBODIES i.toNatClampNeg = v)
    (kk : V2 L xs d M (pc + 1) l (.int v :: st) F Q) : V2 L xs d M pc l (.int i :: .ref 1000002 :: st) F Q := by
  subst hv
  exact V_ialoadR (a := 2) (f := xVF xs F) hd rfl hin kk
theorem V2_abovelen (hd : decode M.2.1 pc = .ok (.arraylength, 1)) (kk : V2 L xs d M (pc + 1) l (.int 7 :: st) F Q) : V2 L xs d M pc l (.ref 1000001 :: st) F Q := V_alenR (a := 1) (f := xVF xs F) hd rfl kk
theorem V2_bodieslen (hd : decode M.2.1 pc = .ok (.arraylength, 1)) (kk : V2 L xs d M (pc + 1) l (.int 28 :: st) F Q) : V2 L xs d M pc l (.ref 1000002 :: st) F Q := V_alenR (a := 2) (f := xVF xs F) hd rfl kk
theorem V2_alen {k len t : Nat} {v : Int32} (hd : decode M.2.1 pc = .ok (.arraylength, 1)) (hk : k < 78) (ho : xkinds.getD k (0, 0) = (100 + t, len)) (ht : t < 3) (hv : Int32.ofNat len = v)
    (kk : V2 L xs d M (pc + 1) l (.int v :: st) F Q) : V2 L xs d M pc l (.ref k :: st) F Q := by
  subst hv
  have a := yk (L := L) hk ho (by omega)
  exact V_alen (k := yn k) (f := xVF xs F) hd a.1 a.2 ht kk
theorem V2_aaload {k len t a : Nat} {i : Int32} (hd : decode M.2.1 pc = .ok (.aaload, 1)) (hk : k < 78) (ho : xkinds.getD k (0, 0) = (101 + t, len)) (ht : t < 2) (hin : vp_in i len) (hs : xsk k i.toNatClampNeg = some a)
    (kk : V2 L xs d M (pc + 1) l (.ref a :: st) F Q) : V2 L xs d M pc l (.int i :: .ref k :: st) F Q := by
  have b := yk (L := L) hk ho (by omega)
  exact V_aaload (k := yn k) (f := xVF xs F) (v := .ref (yn a)) hd b.1 b.2 ht hin (xVF_ref hk (yne ho (by omega)) hs) (Or.inr ⟨_, rfl⟩) kk
theorem V2_getsA {idx : Nat} (hd : decode M.2.1 pc = .ok (.getstatic idx, 3)) (hc : Cond.fieldLink M.1.cls idx "PastTheRim$Kinds" "ABOVE" "[I" ∈ lw_tbl) (kk : V2 L xs d M (pc + 3) l (.ref 1000001 :: st) F Q) : V2 L xs d M pc l st F Q := V_getsA hd hc kk
theorem V2_getsB {idx : Nat} (hd : decode M.2.1 pc = .ok (.getstatic idx, 3)) (hc : Cond.fieldLink M.1.cls idx "PastTheRim$Voices" "BODIES" "[I" ∈ lw_tbl) (kk : V2 L xs d M (pc + 3) l (.ref 1000002 :: st) F Q) : V2 L xs d M pc l st F Q := V_getsB hd hc kk
theorem V2_ireturn {v : Int32} (hd : decode M.2.1 pc = .ok (.ireturn, 1)) (hr : M.2.2.2 = some .int) (hq : Q (some (.int v)) F) : V2 L xs d M pc l (.int v :: []) F Q := V_ireturn hd hr rfl ⟨some (.int v), F, rfl, rfl, hq⟩
theorem V2_zreturn {v : Int32} (hd : decode M.2.1 pc = .ok (.ireturn, 1)) (hr : M.2.2.2 = some .boolean) (hv : v = 0 ∨ v = 1) (hq : Q (some (.int v)) F) : V2 L xs d M pc l (.int v :: []) F Q := V_ireturn hd hr (by rcases hv with rfl | rfl <;> rfl) ⟨some (.int v), F, rfl, rfl, hq⟩
theorem V2_areturn {a : Nat} {ty : FieldType} (hd : decode M.2.1 pc = .ok (.areturn, 1)) (hr : M.2.2.2 = some ty) (ht : (∃ n, ty = .object n) ∨ ∃ t, ty = .array t) (hq : Q (some (.ref a)) F) : V2 L xs d M pc l (.ref a :: []) F Q := V_areturn (v := .ref (yn a)) hd hr ht (Or.inr ⟨_, rfl⟩) ⟨some (.ref a), F, rfl, rfl, hq⟩
theorem V2_areturnN {ty : FieldType} (hd : decode M.2.1 pc = .ok (.areturn, 1)) (hr : M.2.2.2 = some ty) (ht : (∃ n, ty = .object n) ∨ ∃ t, ty = .array t) (hq : Q (some .null) F) : V2 L xs d M pc l (.null :: []) F Q := V_areturn (v := .null) hd hr ht (Or.inl rfl) ⟨some .null, F, rfl, rfl, hq⟩
theorem V2_return (hd : decode M.2.1 pc = .ok (.return_, 1)) (hr : M.2.2.2 = none) (hq : Q none F) : V2 L xs d M pc l [] F Q := V_return hd hr ⟨none, F, rfl, rfl, hq⟩
theorem yback {k : Nat} {r : Option Value} {h' : xH} (q : yQ L xs (fun r F' => V2 L xs (d + 1) M k l (r.toList ++ st) F' Q) r h') : V (d + 1) 74 2349 M k (yl l) (r.toList ++ st.map yv) h' (yQ L xs Q) := by
  obtain ⟨r', F', e1, e2, hq⟩ := q
  have hs : r.toList ++ st.map yv = (r'.toList ++ st).map yv := by
    rw [e1]
    cases r' <;> rfl
  rw [hs, e2]
  exact hq
theorem ysize {Q' : Option Value → xF → Prop} {r : Option Value} {h' : xH} (q : yQ L xs Q' r h') : h'.1 = (74, 2349) := by
  obtain ⟨r', F', e1, e2, hq⟩ := q
  rw [e2]
  rfl
/-- a call: the rest stands where the callee's end is told -/
theorem V2_callV {M' : xM} {st0 : List Value} {idx b ci k : Nat} {q : vw_C} (As : List Value) (hd : decode M.2.1 pc = .ok (.invokevirtual idx, 3)) (hst : st0 = As.reverse ++ .ref b :: st) (hk : As.length = k) (hlk : xLk M.1.cls idx M') (hM : xVir M' k)
    (hb : b < 78) (ho : (xkinds.getD b (0, 0)).1 = ci) (hci : xcl[ci]? = some q) (hcn : M'.1.cls = q.1) (hlen : (xFlat (.ref b :: As)).length ≤ M'.2.2.1) (hcat : (st.map fun v => v.category).sum ≤ 8)
    (hV : V2 L xs d M' 0 (xEntry (.ref b :: As) M'.2.2.1) [] F (fun r F' => V2 L xs (d + 1) M (pc + 3) l (r.toList ++ st) F' Q)) : V2 L xs (d + 1) M pc l st0 F Q := by
  have h11 := xcl_lt hci
  have a := yk (L := L) (ci := ci) (sz := (xkinds.getD b (0, 0)).2) hb (by rw [← ho]) (by omega)
  subst hst
  refine V_callV (st := st.map yv) (h := xHF L xs F) (b := yn b) (ci := ci) (Q' := yQ L xs (fun r F' => V2 L xs (d + 1) M (pc + 3) l (r.toList ++ st) F' Q)) (As.map yv) hd ?_ (by rw [List.length_map]; exact hk) hlk hM a.1 ?_ hci hcn ?_ ?_ (Nat.le_refl 74) (Nat.le_refl 2349) (Nat.le_refl 74) (Nat.le_refl 2349) ?_ (fun r h' q => ysize q) (fun r h' q => yback q)
  · show (As.reverse ++ .ref b :: st).map yv = _
    rw [List.map_append, List.map_reverse]
    rfl
  · show (xK0 L (yn b)).1 = ci
    rw [a.2]
  · exact Nat.le_trans (Nat.le_of_eq (yFlat_len (.ref b :: As))) hlen
  · rw [ycats]
    exact hcat
  · show V d 74 2349 M' 0 (xEntry ((.ref b :: As).map yv) M'.2.2.1) [] (xHF L xs F) _
    rw [yEntry]
    exact hV
theorem V2_callS {M' : xM} {st0 : List Value} {idx k : Nat} (As : List Value) (hd : decode M.2.1 pc = .ok (.invokestatic idx, 3)) (hst : st0 = As.reverse ++ st) (hk : As.length = k) (hlk : xLk M.1.cls idx M') (hM : xSta M' k)
    (hlen : (xFlat As).length ≤ M'.2.2.1) (hcat : (st.map fun v => v.category).sum ≤ 8)
    (hV : V2 L xs d M' 0 (xEntry As M'.2.2.1) [] F (fun r F' => V2 L xs (d + 1) M (pc + 3) l (r.toList ++ st) F' Q)) : V2 L xs (d + 1) M pc l st0 F Q := by
  subst hst
  refine V_callS (st := st.map yv) (h := xHF L xs F) (Q' := yQ L xs (fun r F' => V2 L xs (d + 1) M (pc + 3) l (r.toList ++ st) F' Q)) (As.map yv) hd ?_ (by rw [List.length_map]; exact hk) hlk hM ?_ ?_ (Nat.le_refl 74) (Nat.le_refl 2349) (Nat.le_refl 74) (Nat.le_refl 2349) ?_ (fun r h' q => ysize q) (fun r h' q => yback q)
  · show (As.reverse ++ st).map yv = _
    rw [List.map_append, List.map_reverse]
  · exact Nat.le_trans (Nat.le_of_eq (yFlat_len As)) hlen
  · rw [ycats]
    exact hcat
  · rw [yEntry]
    exact hV
theorem V2_mmax {idx : Nat} {x y : Int32} (hd : decode M.2.1 pc = .ok (.invokestatic idx, 3)) (hlk : Cond.methodLink M.1.cls idx Lib.Math.max.name ∈ lw_tbl) (hcat : (st.map fun v => v.category).sum ≤ 8)
    (kk : V2 L xs (d + 1) M (pc + 3) l (.int (if x < y then y else x) :: st) F Q) : V2 L xs (d + 1) M pc l (.int y :: .int x :: st) F Q := V_mmax hd hlk (by rw [ycats]; exact hcat) (Nat.le_refl 74) (Nat.le_refl 2349) kk
theorem V2_mmin {idx : Nat} {x y : Int32} (hd : decode M.2.1 pc = .ok (.invokestatic idx, 3)) (hlk : Cond.methodLink M.1.cls idx Lib.Math.min.name ∈ lw_tbl) (hcat : (st.map fun v => v.category).sum ≤ 8)
    (kk : V2 L xs (d + 1) M (pc + 3) l (.int (if y < x then y else x) :: st) F Q) : V2 L xs (d + 1) M pc l (.int y :: .int x :: st) F Q := V_mmin hd hlk (by rw [ycats]; exact hcat) (Nat.le_refl 74) (Nat.le_refl 2349) kk
theorem V2_copy {idx a0 a n0' n1' : Nat} {sp dp k : Int32} (hd : decode M.2.1 pc = .ok (.invokestatic idx, 3)) (hlk : Cond.methodLink M.1.cls idx arraycopyName ∈ lw_tbl) (ha0 : a0 < 78) (ha : a < 78) (ho0 : xkinds.getD a0 (0, 0) = (100, n0')) (ho1 : xkinds.getD a (0, 0) = (100, n1')) (h1 : ¬ sp < 0) (h2 : ¬ dp < 0) (h3 : ¬ k < 0)
    (h4 : sp.toNatClampNeg + k.toNatClampNeg ≤ n0') (h5 : dp.toNatClampNeg + k.toNatClampNeg ≤ n1') (hcat : (st.map fun v => v.category).sum ≤ 8)
    (kk : V2 L xs (d + 1) M (pc + 3) l st (xrw F a (va_cpy (F a0) (F a) sp.toNatClampNeg dp.toNatClampNeg k.toNatClampNeg)) Q) : V2 L xs (d + 1) M pc l (.int k :: .int dp :: .ref a :: .int sp :: .ref a0 :: st) F Q := by
  have b0 := yk (L := L) ha0 ho0 (by decide)
  have b1 := yk (L := L) ha ho1 (by decide)
  refine V_copy (a0 := yn a0) (a := yn a) (f := xVF xs F) hd hlk b0.1 b1.1 b0.2 b1.2 h1 h2 h3 h4 h5 (by rw [ycats]; exact hcat) ?_
  have e0 : (fun j => xi (xVF xs F (yn a0) j)) = F a0 := by funext j; rw [xVF_int ha0 (yne ho0 (by decide)) (xsk_int ho0 ha0)]; rfl
  have e1 : (fun j => xi (xVF xs F (yn a) j)) = F a := by funext j; rw [xVF_int ha (yne ho1 (by decide)) (xsk_int ho1 ha)]; rfl
  rw [e0, e1, xVF_row ha (yne ho1 (by decide)) (fun j => xsk_int ho1 ha)]
  exact kk
theorem V2.to {pc' : Nat} {l' : xL} {st' : List Value} {F' : xF} (k : V2 L xs d M pc' l' st' F' Q) (h1 : pc = pc') (h2 : l = l') (h3 : st = st') (h4 : F = F') : V2 L xs d M pc l st F Q := by subst h1 h2 h3 h4; exact k
theorem V2.mono {Q' : Option Value → xF → Prop} (k : V2 L xs d M pc l st F Q) (hq : ∀ r F', Q r F' → Q' r F') : V2 L xs d M pc l st F Q' := V.mono k (fun _ _ ⟨r', F', e0, e, h⟩ => ⟨r', F', e0, e, hq _ _ h⟩)
end X2
section X3
variable {L : Nat} {xs : Nat → Int32} {d : Nat} {M : xM} {pc : Nat} {l : xL} {st : List Value} {F : xF} {Q : Option Value → xF → Prop}
theorem V2_iconst {n : Int} {v : Int32} (hd : decode M.2.1 pc = .ok (.iconst n, 1)) (hv : Int32.ofInt n = v) (k : V2 L xs d M (pc + 1) l (.int v :: st) F Q) : V2 L xs d M pc l (st) F Q := V_iconst hd hv k
theorem V2_bipush {n : Int} {v : Int32} (hd : decode M.2.1 pc = .ok (.bipush n, 2)) (hv : (Int8.ofInt n).toInt32 = v) (k : V2 L xs d M (pc + 2) l (.int v :: st) F Q) : V2 L xs d M pc l (st) F Q := V_bipush hd hv k
theorem V2_sipush {n : Int} {v : Int32} (hd : decode M.2.1 pc = .ok (.sipush n, 3)) (hv : (Int16.ofInt n).toInt32 = v) (k : V2 L xs d M (pc + 3) l (.int v :: st) F Q) : V2 L xs d M pc l (st) F Q := V_sipush hd hv k
theorem V2_null (hd : decode M.2.1 pc = .ok (.aconst_null, 1)) (k : V2 L xs d M (pc + 1) l (.null :: st) F Q) : V2 L xs d M pc l (st) F Q := V_null hd k
theorem V2_iload_n {j : Fin 4} {i : Nat} {x : Int32} (hd : decode M.2.1 pc = .ok (.iload_n j, 1)) (hi : (j : Nat) = i) (hl0 : l[i]? = some (some (.int x))) (k : V2 L xs d M (pc + 1) l (.int x :: st) F Q) : V2 L xs d M pc l (st) F Q := V_iload_n hd hi (yl_at hl0) k
theorem V2_iload {i : Nat} {x : Int32} (hd : decode M.2.1 pc = .ok (.iload i, 2)) (hl0 : l[i]? = some (some (.int x))) (k : V2 L xs d M (pc + 2) l (.int x :: st) F Q) : V2 L xs d M pc l (st) F Q := V_iload hd (yl_at hl0) k
theorem V2_lload_n {j : Fin 4} {i : Nat} {x : Int64} (hd : decode M.2.1 pc = .ok (.lload_n j, 1)) (hi : (j : Nat) = i) (hl0 : l[i]? = some (some (.long x))) (k : V2 L xs d M (pc + 1) l (.long x :: st) F Q) : V2 L xs d M pc l (st) F Q := V_lload_n hd hi (yl_at hl0) k
theorem V2_lload {i : Nat} {x : Int64} (hd : decode M.2.1 pc = .ok (.lload i, 2)) (hl0 : l[i]? = some (some (.long x))) (k : V2 L xs d M (pc + 2) l (.long x :: st) F Q) : V2 L xs d M pc l (st) F Q := V_lload hd (yl_at hl0) k
theorem V2_aload_n {j : Fin 4} {i : Nat} {x : Nat} (hd : decode M.2.1 pc = .ok (.aload_n j, 1)) (hi : (j : Nat) = i) (hl0 : l[i]? = some (some (.ref x))) (k : V2 L xs d M (pc + 1) l (.ref x :: st) F Q) : V2 L xs d M pc l (st) F Q := V_aload_n hd hi (yl_at hl0) k
theorem V2_aload {i : Nat} {x : Nat} (hd : decode M.2.1 pc = .ok (.aload i, 2)) (hl0 : l[i]? = some (some (.ref x))) (k : V2 L xs d M (pc + 2) l (.ref x :: st) F Q) : V2 L xs d M pc l (st) F Q := V_aload hd (yl_at hl0) k
theorem V2_aload_nN {j : Fin 4} {i : Nat} (hd : decode M.2.1 pc = .ok (.aload_n j, 1)) (hi : (j : Nat) = i) (hl0 : l[i]? = some (some (.null))) (k : V2 L xs d M (pc + 1) l (.null :: st) F Q) : V2 L xs d M pc l (st) F Q := V_aload_nN hd hi (yl_at hl0) k
theorem V2_aloadN {i : Nat} (hd : decode M.2.1 pc = .ok (.aload i, 2)) (hl0 : l[i]? = some (some (.null))) (k : V2 L xs d M (pc + 2) l (.null :: st) F Q) : V2 L xs d M pc l (st) F Q := V_aloadN hd (yl_at hl0) k
theorem V2_istore_n {j : Fin 4} {i : Nat} {x : Int32} {l' : xL} (hd : decode M.2.1 pc = .ok (.istore_n j, 1)) (hi : (j : Nat) = i) (hs : xst l i (.int x) l') (k : V2 L xs d M (pc + 1) l' (st) F Q) : V2 L xs d M pc l (.int x :: st) F Q := V_istore_n hd hi (yl_st hs) k
theorem V2_istore {i : Nat} {x : Int32} {l' : xL} (hd : decode M.2.1 pc = .ok (.istore i, 2)) (hs : xst l i (.int x) l') (k : V2 L xs d M (pc + 2) l' (st) F Q) : V2 L xs d M pc l (.int x :: st) F Q := V_istore hd (yl_st hs) k
theorem V2_astore_n {j : Fin 4} {i : Nat} {x : Nat} {l' : xL} (hd : decode M.2.1 pc = .ok (.astore_n j, 1)) (hi : (j : Nat) = i) (hs : xst l i (.ref x) l') (k : V2 L xs d M (pc + 1) l' (st) F Q) : V2 L xs d M pc l (.ref x :: st) F Q := V_astore_n hd hi (yl_st hs) k
theorem V2_astore {i : Nat} {x : Nat} {l' : xL} (hd : decode M.2.1 pc = .ok (.astore i, 2)) (hs : xst l i (.ref x) l') (k : V2 L xs d M (pc + 2) l' (st) F Q) : V2 L xs d M pc l (.ref x :: st) F Q := V_astore hd (yl_st hs) k
theorem V2_astore_nN {j : Fin 4} {i : Nat} {l' : xL} (hd : decode M.2.1 pc = .ok (.astore_n j, 1)) (hi : (j : Nat) = i) (hs : xst l i (.null) l') (k : V2 L xs d M (pc + 1) l' (st) F Q) : V2 L xs d M pc l (.null :: st) F Q := V_astore_nN hd hi (yl_st hs) k
theorem V2_astoreN {i : Nat} {l' : xL} (hd : decode M.2.1 pc = .ok (.astore i, 2)) (hs : xst l i (.null) l') (k : V2 L xs d M (pc + 2) l' (st) F Q) : V2 L xs d M pc l (.null :: st) F Q := V_astoreN hd (yl_st hs) k
theorem V2_iinc {i : Nat} {n : Int} {x v : Int32} {l' : xL} (hd : decode M.2.1 pc = .ok (.iinc i n, 3)) (hl0 : l[i]? = some (some (.int x))) (hv : x + Int32.ofInt n = v) (hs : xst l i (.int v) l') (k : V2 L xs d M (pc + 3) l' (st) F Q) : V2 L xs d M pc l (st) F Q := V_iinc hd (yl_at hl0) hv (yl_st hs) k
theorem V2_iadd {x y : Int32} (hd : decode M.2.1 pc = .ok (.iadd, 1)) (k : V2 L xs d M (pc + 1) l (.int (x + y) :: st) F Q) : V2 L xs d M pc l (.int y :: .int x :: st) F Q := V_iadd hd k
theorem V2_isub {x y : Int32} (hd : decode M.2.1 pc = .ok (.isub, 1)) (k : V2 L xs d M (pc + 1) l (.int (x - y) :: st) F Q) : V2 L xs d M pc l (.int y :: .int x :: st) F Q := V_isub hd k
theorem V2_imul {x y : Int32} (hd : decode M.2.1 pc = .ok (.imul, 1)) (k : V2 L xs d M (pc + 1) l (.int (x * y) :: st) F Q) : V2 L xs d M pc l (.int y :: .int x :: st) F Q := V_imul hd k
theorem V2_iand {x y : Int32} (hd : decode M.2.1 pc = .ok (.iand, 1)) (k : V2 L xs d M (pc + 1) l (.int (x &&& y) :: st) F Q) : V2 L xs d M pc l (.int y :: .int x :: st) F Q := V_iand hd k
theorem V2_ior {x y : Int32} (hd : decode M.2.1 pc = .ok (.ior, 1)) (k : V2 L xs d M (pc + 1) l (.int (x ||| y) :: st) F Q) : V2 L xs d M pc l (.int y :: .int x :: st) F Q := V_ior hd k
theorem V2_ixor {x y : Int32} (hd : decode M.2.1 pc = .ok (.ixor, 1)) (k : V2 L xs d M (pc + 1) l (.int (x ^^^ y) :: st) F Q) : V2 L xs d M pc l (.int y :: .int x :: st) F Q := V_ixor hd k
theorem V2_ishl {x y : Int32} (hd : decode M.2.1 pc = .ok (.ishl, 1)) (k : V2 L xs d M (pc + 1) l (.int (x <<< (y &&& 31)) :: st) F Q) : V2 L xs d M pc l (.int y :: .int x :: st) F Q := V_ishl hd k
theorem V2_ishr {x y : Int32} (hd : decode M.2.1 pc = .ok (.ishr, 1)) (k : V2 L xs d M (pc + 1) l (.int (x >>> (y &&& 31)) :: st) F Q) : V2 L xs d M pc l (.int y :: .int x :: st) F Q := V_ishr hd k
theorem V2_iushr {x y : Int32} (hd : decode M.2.1 pc = .ok (.iushr, 1)) (k : V2 L xs d M (pc + 1) l (.int ((x.toUInt32 >>> (y.toUInt32 &&& Int32.toUInt32 31)).toInt32) :: st) F Q) : V2 L xs d M pc l (.int y :: .int x :: st) F Q := V_iushr hd k
theorem V2_idiv {x y : Int32} (hd : decode M.2.1 pc = .ok (.idiv, 1)) (hne : ¬ y = 0) (k : V2 L xs d M (pc + 1) l (.int (x / y) :: st) F Q) : V2 L xs d M pc l (.int y :: .int x :: st) F Q := V_idiv hd hne k
theorem V2_irem {x y : Int32} (hd : decode M.2.1 pc = .ok (.irem, 1)) (hne : ¬ y = 0) (k : V2 L xs d M (pc + 1) l (.int (x - x / y * y) :: st) F Q) : V2 L xs d M pc l (.int y :: .int x :: st) F Q := V_irem hd hne k
theorem V2_ineg {x : Int32} (hd : decode M.2.1 pc = .ok (.ineg, 1)) (k : V2 L xs d M (pc + 1) l (.int (-x) :: st) F Q) : V2 L xs d M pc l (.int x :: st) F Q := V_ineg hd k
theorem V2_land {x y : Int64} (hd : decode M.2.1 pc = .ok (.land, 1)) (k : V2 L xs d M (pc + 1) l (.long (x &&& y) :: st) F Q) : V2 L xs d M pc l (.long y :: .long x :: st) F Q := V_land hd k
theorem V2_lor {x y : Int64} (hd : decode M.2.1 pc = .ok (.lor, 1)) (k : V2 L xs d M (pc + 1) l (.long (x ||| y) :: st) F Q) : V2 L xs d M pc l (.long y :: .long x :: st) F Q := V_lor hd k
theorem V2_lushr {x : Int64} {y : Int32} (hd : decode M.2.1 pc = .ok (.lushr, 1)) (k : V2 L xs d M (pc + 1) l (.long ((x.toUInt64 >>> (y.toInt64.toUInt64 &&& Int64.toUInt64 63)).toInt64) :: st) F Q) : V2 L xs d M pc l (.int y :: .long x :: st) F Q := V_lushr hd k
theorem V2_lshl {x : Int64} {y : Int32} (hd : decode M.2.1 pc = .ok (.lshl, 1)) (k : V2 L xs d M (pc + 1) l (.long (x <<< (y.toInt64 &&& 63)) :: st) F Q) : V2 L xs d M pc l (.int y :: .long x :: st) F Q := V_lshl hd k
theorem V2_lshr {x : Int64} {y : Int32} (hd : decode M.2.1 pc = .ok (.lshr, 1)) (k : V2 L xs d M (pc + 1) l (.long (x >>> (y.toInt64 &&& 63)) :: st) F Q) : V2 L xs d M pc l (.int y :: .long x :: st) F Q := V_lshr hd k
theorem V2_i2l {x : Int32} (hd : decode M.2.1 pc = .ok (.i2l, 1)) (k : V2 L xs d M (pc + 1) l (.long x.toInt64 :: st) F Q) : V2 L xs d M pc l (.int x :: st) F Q := V_i2l hd k
theorem V2_l2i {x : Int64} (hd : decode M.2.1 pc = .ok (.l2i, 1)) (k : V2 L xs d M (pc + 1) l (.int x.toInt32 :: st) F Q) : V2 L xs d M pc l (.long x :: st) F Q := V_l2i hd k
theorem V2_dup {v : Value} (hd : decode M.2.1 pc = .ok (.dup, 1)) (hv : v.category = 1) (k : V2 L xs d M (pc + 1) l (v :: v :: st) F Q) : V2 L xs d M pc l (v :: st) F Q := V_dup hd (yv_cat.trans hv) k
theorem V2_pop {v : Value} (hd : decode M.2.1 pc = .ok (.pop, 1)) (hv : v.category = 1) (k : V2 L xs d M (pc + 1) l (st) F Q) : V2 L xs d M pc l (v :: st) F Q := V_pop hd (yv_cat.trans hv) k
theorem V2_dup2 {v w : Value} (hd : decode M.2.1 pc = .ok (.dup2, 1)) (hv : v.category = 1) (hw0 : w.category = 1) (k : V2 L xs d M (pc + 1) l (v :: w :: v :: w :: st) F Q) : V2 L xs d M pc l (v :: w :: st) F Q := V_dup2 hd (yv_cat.trans hv) (yv_cat.trans hw0) k
theorem V2_if_eq {x : Int32} {off : Int} {tgt : Nat} (hd : decode M.2.1 pc = .ok (.ifCond .eq off, 3)) (ht : (pc : Int) + off = (tgt : Int)) (kt : x = 0 → V2 L xs d M tgt l st F Q) (kf : ¬ x = 0 → V2 L xs d M (pc + 3) l st F Q) : V2 L xs d M pc l (.int x :: st) F Q := V_if_eq hd ht kt kf
theorem V2_icmp_eq {x y : Int32} {off : Int} {tgt : Nat} (hd : decode M.2.1 pc = .ok (.if_icmp .eq off, 3)) (ht : (pc : Int) + off = (tgt : Int)) (kt : x = y → V2 L xs d M tgt l st F Q) (kf : ¬ x = y → V2 L xs d M (pc + 3) l st F Q) : V2 L xs d M pc l (.int y :: .int x :: st) F Q := V_icmp_eq hd ht kt kf
theorem V2_if_ne {x : Int32} {off : Int} {tgt : Nat} (hd : decode M.2.1 pc = .ok (.ifCond .ne off, 3)) (ht : (pc : Int) + off = (tgt : Int)) (kt : ¬ x = 0 → V2 L xs d M tgt l st F Q) (kf : x = 0 → V2 L xs d M (pc + 3) l st F Q) : V2 L xs d M pc l (.int x :: st) F Q := V_if_ne hd ht kt kf
theorem V2_icmp_ne {x y : Int32} {off : Int} {tgt : Nat} (hd : decode M.2.1 pc = .ok (.if_icmp .ne off, 3)) (ht : (pc : Int) + off = (tgt : Int)) (kt : ¬ x = y → V2 L xs d M tgt l st F Q) (kf : x = y → V2 L xs d M (pc + 3) l st F Q) : V2 L xs d M pc l (.int y :: .int x :: st) F Q := V_icmp_ne hd ht kt kf
theorem V2_if_lt {x : Int32} {off : Int} {tgt : Nat} (hd : decode M.2.1 pc = .ok (.ifCond .lt off, 3)) (ht : (pc : Int) + off = (tgt : Int)) (kt : x < 0 → V2 L xs d M tgt l st F Q) (kf : ¬ x < 0 → V2 L xs d M (pc + 3) l st F Q) : V2 L xs d M pc l (.int x :: st) F Q := V_if_lt hd ht kt kf
theorem V2_icmp_lt {x y : Int32} {off : Int} {tgt : Nat} (hd : decode M.2.1 pc = .ok (.if_icmp .lt off, 3)) (ht : (pc : Int) + off = (tgt : Int)) (kt : x < y → V2 L xs d M tgt l st F Q) (kf : ¬ x < y → V2 L xs d M (pc + 3) l st F Q) : V2 L xs d M pc l (.int y :: .int x :: st) F Q := V_icmp_lt hd ht kt kf
theorem V2_if_ge {x : Int32} {off : Int} {tgt : Nat} (hd : decode M.2.1 pc = .ok (.ifCond .ge off, 3)) (ht : (pc : Int) + off = (tgt : Int)) (kt : 0 ≤ x → V2 L xs d M tgt l st F Q) (kf : ¬ 0 ≤ x → V2 L xs d M (pc + 3) l st F Q) : V2 L xs d M pc l (.int x :: st) F Q := V_if_ge hd ht kt kf
theorem V2_icmp_ge {x y : Int32} {off : Int} {tgt : Nat} (hd : decode M.2.1 pc = .ok (.if_icmp .ge off, 3)) (ht : (pc : Int) + off = (tgt : Int)) (kt : y ≤ x → V2 L xs d M tgt l st F Q) (kf : ¬ y ≤ x → V2 L xs d M (pc + 3) l st F Q) : V2 L xs d M pc l (.int y :: .int x :: st) F Q := V_icmp_ge hd ht kt kf
theorem V2_if_gt {x : Int32} {off : Int} {tgt : Nat} (hd : decode M.2.1 pc = .ok (.ifCond .gt off, 3)) (ht : (pc : Int) + off = (tgt : Int)) (kt : 0 < x → V2 L xs d M tgt l st F Q) (kf : ¬ 0 < x → V2 L xs d M (pc + 3) l st F Q) : V2 L xs d M pc l (.int x :: st) F Q := V_if_gt hd ht kt kf
theorem V2_icmp_gt {x y : Int32} {off : Int} {tgt : Nat} (hd : decode M.2.1 pc = .ok (.if_icmp .gt off, 3)) (ht : (pc : Int) + off = (tgt : Int)) (kt : y < x → V2 L xs d M tgt l st F Q) (kf : ¬ y < x → V2 L xs d M (pc + 3) l st F Q) : V2 L xs d M pc l (.int y :: .int x :: st) F Q := V_icmp_gt hd ht kt kf
theorem V2_if_le {x : Int32} {off : Int} {tgt : Nat} (hd : decode M.2.1 pc = .ok (.ifCond .le off, 3)) (ht : (pc : Int) + off = (tgt : Int)) (kt : x ≤ 0 → V2 L xs d M tgt l st F Q) (kf : ¬ x ≤ 0 → V2 L xs d M (pc + 3) l st F Q) : V2 L xs d M pc l (.int x :: st) F Q := V_if_le hd ht kt kf
theorem V2_icmp_le {x y : Int32} {off : Int} {tgt : Nat} (hd : decode M.2.1 pc = .ok (.if_icmp .le off, 3)) (ht : (pc : Int) + off = (tgt : Int)) (kt : x ≤ y → V2 L xs d M tgt l st F Q) (kf : ¬ x ≤ y → V2 L xs d M (pc + 3) l st F Q) : V2 L xs d M pc l (.int y :: .int x :: st) F Q := V_icmp_le hd ht kt kf
theorem V2_goto {off : Int} {tgt : Nat} (hd : decode M.2.1 pc = .ok (.goto off, 3)) (ht : (pc : Int) + off = (tgt : Int)) (k : V2 L xs d M (tgt) l (st) F Q) : V2 L xs d M pc l (st) F Q := V_goto hd ht k
theorem V2_lookup {dflt : Int} {ps : Array (Int × Int)} {len : Nat} {x : Int32} {off : Int} {tgt : Nat} (hd : decode M.2.1 pc = .ok (.lookupswitch dflt ps, len)) (hp : (ps.toList.zip (ps.toList.drop 1)).all (fun (a, next) => a.1 < next.1) = true) (ho : Op.lookupswitch.offset ps.toList dflt x.toInt = off) (ht : (pc : Int) + off = (tgt : Int)) (k : V2 L xs d M (tgt) l (st) F Q) : V2 L xs d M pc l (.int x :: st) F Q := V_lookup hd hp ho ht k
theorem V2_tableOut {dflt lo hi : Int} {offs : Array Int} {len : Nat} {x : Int32} {tgt : Nat} (hd : decode M.2.1 pc = .ok (.tableswitch dflt lo hi offs, len)) (hx : x.toInt < lo ∨ hi < x.toInt) (ht : (pc : Int) + dflt = (tgt : Int)) (k : V2 L xs d M (tgt) l (st) F Q) : V2 L xs d M pc l (.int x :: st) F Q := V_tableOut hd hx ht k
theorem V2_tableIn {dflt lo hi : Int} {offs : Array Int} {len : Nat} {x : Int32} {off : Int} {tgt : Nat} (hd : decode M.2.1 pc = .ok (.tableswitch dflt lo hi offs, len)) (h1 : ¬ x.toInt < lo) (h2 : ¬ hi < x.toInt) (ho : offs[(x.toInt - lo).toNat]? = some off) (ht : (pc : Int) + off = (tgt : Int)) (k : V2 L xs d M (tgt) l (st) F Q) : V2 L xs d M pc l (.int x :: st) F Q := V_tableIn hd h1 h2 ho ht k
theorem V2_ifnonnull {x : Nat} {off : Int} {tgt : Nat} (hd : decode M.2.1 pc = .ok (.ifnonnull off, 3)) (ht : (pc : Int) + off = (tgt : Int)) (k : V2 L xs d M (tgt) l (st) F Q) : V2 L xs d M pc l (.ref x :: st) F Q := V_ifnonnull hd ht k
theorem V2_ifnonnullN {off : Int} (hd : decode M.2.1 pc = .ok (.ifnonnull off, 3)) (k : V2 L xs d M (pc + 3) l (st) F Q) : V2 L xs d M pc l (.null :: st) F Q := V_ifnonnullN hd k
theorem V2_ifnull {x : Nat} {off : Int} (hd : decode M.2.1 pc = .ok (.ifnull off, 3)) (k : V2 L xs d M (pc + 3) l (st) F Q) : V2 L xs d M pc l (.ref x :: st) F Q := V_ifnull hd k
theorem V2_ifnullN {off : Int} {tgt : Nat} (hd : decode M.2.1 pc = .ok (.ifnull off, 3)) (ht : (pc : Int) + off = (tgt : Int)) (k : V2 L xs d M (tgt) l (st) F Q) : V2 L xs d M pc l (.null :: st) F Q := V_ifnullN hd ht k
theorem V2_ldc {idx : Nat} {v : Int32} (hd : decode M.2.1 pc = .ok (.ldc idx, 2)) (hc : Cond.constant M.1.cls idx v ∈ lw_tbl) (k : V2 L xs d M (pc + 2) l (.int v :: st) F Q) : V2 L xs d M pc l (st) F Q := V_ldc hd hc k
theorem V2_ldcw {idx : Nat} {v : Int32} (hd : decode M.2.1 pc = .ok (.ldc_w idx, 3)) (hc : Cond.constant M.1.cls idx v ∈ lw_tbl) (k : V2 L xs d M (pc + 3) l (.int v :: st) F Q) : V2 L xs d M pc l (st) F Q := V_ldcw hd hc k
theorem V2_ldc2 {idx : Nat} {v : Int64} (hd : decode M.2.1 pc = .ok (.ldc2_w idx, 3)) (hc : Cond.constantLong M.1.cls idx v ∈ lw_tbl) (k : V2 L xs d M (pc + 3) l (.long v :: st) F Q) : V2 L xs d M pc l (st) F Q := V_ldc2 hd hc k
end X3
