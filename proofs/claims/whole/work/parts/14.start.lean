/-! THE START: from the claim's entry to V of the law's body -/
theorem xcl_inst : ∀ (ci : Nat) (q : vw_C), xcl[ci]? = some q → Cond.instantiable q.1 q.2.2 ∈ lw_tbl := by
  have h : ∀ q ∈ xcl, Cond.instantiable q.1 q.2.2 ∈ lw_tbl := by decide +kernel
  intro ci q hq
  exact h q (List.mem_of_getElem? hq)
def xKi (L : Nat) (k : Nat) : Nat × Nat := if k = 1000000 then (103, L) else if k = 1000001 then (103, 7) else if k = 1000002 then (103, 28) else (0, 0)
def xfi (xs : Nat → Int32) (k j : Nat) : Value := if k = 1000000 then .int (xs j) else if k = 1000001 then .int (xABOVE j) else if k = 1000002 then .int (xBODIES j) else .null
theorem law_start {p : Program} {e : Env} {s : State} {m : MethodId} {below : List Frame} {meth : Method} {c : Code} (la : Launch) {b L : Nat} {xs : Nat → Int32} (hL : L ≤ 3072) (C0 : lw_At p s m meth c b L xs) {d : Nat} (hd : d ≤ 1000)
    (hV : V d 74 2349 m_Lw_law 0 (xEntry [.ref 1000000] 4) [] ((0, 0), xKi L, xfi xs) (fun r h => r = some (.int 1) ∧ h.1 = (74, 2349))) :
    W p la e room_1 s m #[Value.ref b] below meth c s.heap [] 0 0 (lw_Z below #[Value.ref b] s) (entryFrame m ([Value.ref b] : List Value).toArray 4) := by
  obtain ⟨hx, hb, hr, hml, hown, hts, hX, hbl, hlocks, hgv⟩ := C0
  have hs := flat_of_before _ hgv
  have hts' : ∀ w ∈ xTbl, w.before #[Value.ref b] s = true := fun w hw => hts w (List.mem_filter.mp hw).1
  have hk : ∀ ci : Nat, ∃ g : ClassId × (Nat → Nat), ∀ q : vw_C, xcl[ci]? = some q → u_Kn s q.1 q.2.1 q.2.2 g.1 g.2 := by
    intro ci
    cases hq : xcl[ci]? with
    | none => exact ⟨(0, fun _ => 0), fun q h => by cases h⟩
    | some q =>
      obtain ⟨cC, iS, h⟩ := u_known hts' (xcl_ok ci q hq).1 (hts _ (xcl_inst ci q hq))
      exact ⟨(cC, iS), fun q' h' => by cases h'; exact h⟩
  obtain ⟨g, hg⟩ := Classical.axiomOfChoice hk
  obtain ⟨c0, k0, comp0, a1, a2, a3⟩ := Cond.arrayClass_spec (show (Cond.arrayClass .int).holds #[Value.ref b] s none s [] = true from hts (.arrayClass .int) (by decide +kernel))
  obtain ⟨comp1, c1, k1, b1, -, b2, b3, b4⟩ := Cond.arrayOver_spec (show (Cond.arrayOver (.object "PastTheRim$Sheet")).holds #[Value.ref b] s none s [] = true from hts (.arrayOver (.object "PastTheRim$Sheet")) av_Sheet)
  obtain ⟨comp2, c2, k2, d1, -, d2, d3, d4⟩ := Cond.arrayOver_spec (show (Cond.arrayOver (.object "PastTheRim$Car")).holds #[Value.ref b] s none s [] = true from hts (.arrayOver (.object "PastTheRim$Car")) av_Car)
  have hA : ∀ a : Nat, a < s.heap.size → ¬ (fun q : Nat => s.heap.size ≤ q) a := fun a h1 h2 => absurd h1 (Nat.not_lt.mpr h2)
  obtain ⟨t1, e1, T1⟩ := va_Tof (N := 7) (f := fun j => .int (xABOVE j)) (A := fun q : Nat => s.heap.size ≤ q) (by decide) (hs (.arrayOf (.static "PastTheRim$Kinds" "ABOVE" "[I") .int) (by decide +kernel)) (va_eqt (hs (.eq (.length (.static "PastTheRim$Kinds" "ABOVE" "[I")) (.int 7)) (by decide +kernel))) (fun j hj => by
    rcases (show j = 0 ∨ j = 1 ∨ j = 2 ∨ j = 3 ∨ j = 4 ∨ j = 5 ∨ j = 6 by omega) with rfl | rfl | rfl | rfl | rfl | rfl | rfl
    · exact va_eqt (hs (.eq (.elem (.static "PastTheRim$Kinds" "ABOVE" "[I") (.int 0)) (.int (-1))) (by decide +kernel))
    · exact va_eqt (hs (.eq (.elem (.static "PastTheRim$Kinds" "ABOVE" "[I") (.int 1)) (.int (0))) (by decide +kernel))
    · exact va_eqt (hs (.eq (.elem (.static "PastTheRim$Kinds" "ABOVE" "[I") (.int 2)) (.int (0))) (by decide +kernel))
    · exact va_eqt (hs (.eq (.elem (.static "PastTheRim$Kinds" "ABOVE" "[I") (.int 3)) (.int (0))) (by decide +kernel))
    · exact va_eqt (hs (.eq (.elem (.static "PastTheRim$Kinds" "ABOVE" "[I") (.int 4)) (.int (1))) (by decide +kernel))
    · exact va_eqt (hs (.eq (.elem (.static "PastTheRim$Kinds" "ABOVE" "[I") (.int 5)) (.int (2))) (by decide +kernel))
    · exact va_eqt (hs (.eq (.elem (.static "PastTheRim$Kinds" "ABOVE" "[I") (.int 6)) (.int (0))) (by decide +kernel))) hA
  obtain ⟨t2, e2, T2⟩ := va_Tof (N := 28) (f := fun j => .int (xBODIES j)) (A := fun q : Nat => s.heap.size ≤ q) (by decide) (hs (.arrayOf (.static "PastTheRim$Voices" "BODIES" "[I") .int) (by decide +kernel)) (va_eqt (hs (.eq (.length (.static "PastTheRim$Voices" "BODIES" "[I")) (.int 28)) (by decide +kernel))) (fun j hj => by
    rcases (show j = 0 ∨ j = 1 ∨ j = 2 ∨ j = 3 ∨ j = 4 ∨ j = 5 ∨ j = 6 ∨ j = 7 ∨ j = 8 ∨ j = 9 ∨ j = 10 ∨ j = 11 ∨ j = 12 ∨ j = 13 ∨ j = 14 ∨ j = 15 ∨ j = 16 ∨ j = 17 ∨ j = 18 ∨ j = 19 ∨ j = 20 ∨ j = 21 ∨ j = 22 ∨ j = 23 ∨ j = 24 ∨ j = 25 ∨ j = 26 ∨ j = 27 by omega) with rfl | rfl | rfl | rfl | rfl | rfl | rfl | rfl | rfl | rfl | rfl | rfl | rfl | rfl | rfl | rfl | rfl | rfl | rfl | rfl | rfl | rfl | rfl | rfl | rfl | rfl | rfl | rfl
    · exact va_eqt (hs (.eq (.elem (.static "PastTheRim$Voices" "BODIES" "[I") (.int 0)) (.int (10))) (by decide +kernel))
    · exact va_eqt (hs (.eq (.elem (.static "PastTheRim$Voices" "BODIES" "[I") (.int 1)) (.int (11))) (by decide +kernel))
    · exact va_eqt (hs (.eq (.elem (.static "PastTheRim$Voices" "BODIES" "[I") (.int 2)) (.int (12))) (by decide +kernel))
    · exact va_eqt (hs (.eq (.elem (.static "PastTheRim$Voices" "BODIES" "[I") (.int 3)) (.int (13))) (by decide +kernel))
    · exact va_eqt (hs (.eq (.elem (.static "PastTheRim$Voices" "BODIES" "[I") (.int 4)) (.int (20))) (by decide +kernel))
    · exact va_eqt (hs (.eq (.elem (.static "PastTheRim$Voices" "BODIES" "[I") (.int 5)) (.int (0))) (by decide +kernel))
    · exact va_eqt (hs (.eq (.elem (.static "PastTheRim$Voices" "BODIES" "[I") (.int 6)) (.int (0))) (by decide +kernel))
    · exact va_eqt (hs (.eq (.elem (.static "PastTheRim$Voices" "BODIES" "[I") (.int 7)) (.int (21))) (by decide +kernel))
    · exact va_eqt (hs (.eq (.elem (.static "PastTheRim$Voices" "BODIES" "[I") (.int 8)) (.int (0))) (by decide +kernel))
    · exact va_eqt (hs (.eq (.elem (.static "PastTheRim$Voices" "BODIES" "[I") (.int 9)) (.int (30))) (by decide +kernel))
    · exact va_eqt (hs (.eq (.elem (.static "PastTheRim$Voices" "BODIES" "[I") (.int 10)) (.int (0))) (by decide +kernel))
    · exact va_eqt (hs (.eq (.elem (.static "PastTheRim$Voices" "BODIES" "[I") (.int 11)) (.int (0))) (by decide +kernel))
    · exact va_eqt (hs (.eq (.elem (.static "PastTheRim$Voices" "BODIES" "[I") (.int 12)) (.int (0))) (by decide +kernel))
    · exact va_eqt (hs (.eq (.elem (.static "PastTheRim$Voices" "BODIES" "[I") (.int 13)) (.int (0))) (by decide +kernel))
    · exact va_eqt (hs (.eq (.elem (.static "PastTheRim$Voices" "BODIES" "[I") (.int 14)) (.int (40))) (by decide +kernel))
    · exact va_eqt (hs (.eq (.elem (.static "PastTheRim$Voices" "BODIES" "[I") (.int 15)) (.int (0))) (by decide +kernel))
    · exact va_eqt (hs (.eq (.elem (.static "PastTheRim$Voices" "BODIES" "[I") (.int 16)) (.int (50))) (by decide +kernel))
    · exact va_eqt (hs (.eq (.elem (.static "PastTheRim$Voices" "BODIES" "[I") (.int 17)) (.int (0))) (by decide +kernel))
    · exact va_eqt (hs (.eq (.elem (.static "PastTheRim$Voices" "BODIES" "[I") (.int 18)) (.int (51))) (by decide +kernel))
    · exact va_eqt (hs (.eq (.elem (.static "PastTheRim$Voices" "BODIES" "[I") (.int 19)) (.int (0))) (by decide +kernel))
    · exact va_eqt (hs (.eq (.elem (.static "PastTheRim$Voices" "BODIES" "[I") (.int 20)) (.int (0))) (by decide +kernel))
    · exact va_eqt (hs (.eq (.elem (.static "PastTheRim$Voices" "BODIES" "[I") (.int 21)) (.int (60))) (by decide +kernel))
    · exact va_eqt (hs (.eq (.elem (.static "PastTheRim$Voices" "BODIES" "[I") (.int 22)) (.int (0))) (by decide +kernel))
    · exact va_eqt (hs (.eq (.elem (.static "PastTheRim$Voices" "BODIES" "[I") (.int 23)) (.int (0))) (by decide +kernel))
    · exact va_eqt (hs (.eq (.elem (.static "PastTheRim$Voices" "BODIES" "[I") (.int 24)) (.int (70))) (by decide +kernel))
    · exact va_eqt (hs (.eq (.elem (.static "PastTheRim$Voices" "BODIES" "[I") (.int 25)) (.int (71))) (by decide +kernel))
    · exact va_eqt (hs (.eq (.elem (.static "PastTheRim$Voices" "BODIES" "[I") (.int 26)) (.int (0))) (by decide +kernel))
    · exact va_eqt (hs (.eq (.elem (.static "PastTheRim$Voices" "BODIES" "[I") (.int 27)) (.int (0))) (by decide +kernel))) hA
  have Z1 := va_Zof (A := fun q : Nat => s.heap.size ≤ q) (hts (.laysStatic "PastTheRim$Kinds" "ABOVE" "[I") (by decide +kernel)) (hts (.initialized "PastTheRim$Kinds") (by decide +kernel)) e1 hA
  have Z2 := va_Zof (A := fun q : Nat => s.heap.size ≤ q) (hts (.laysStatic "PastTheRim$Voices" "BODIES" "[I") (by decide +kernel)) (hts (.initialized "PastTheRim$Voices") (by decide +kernel)) e2 hA
  obtain ⟨G, hG⟩ : ∃ G : xG, G = (s.heap.size, (fun ci => (g ci).1, fun ci => (g ci).2), (fun i => match i with | 0 => c0 | 1 => c1 | _ => c2), (fun i => match i with | 0 => b | 1 => t1 | _ => t2)) := ⟨_, rfl⟩
  have hKK : xKK G s := by
    subst hG
    refine ⟨⟨fun ci q hq => hg ci q hq, fun k q hq => ?_⟩, fun w hw hn => ?_⟩
    · have hl : k < 3 := (List.getElem?_eq_some_iff.mp hq).1
      rcases (show k = 0 ∨ k = 1 ∨ k = 2 by omega) with rfl | rfl | rfl <;> cases hq
      · exact ⟨fun n z => ⟨fun k h => (by cases h), k0, a2, comp0, a3⟩, a1⟩
      · exact ⟨fun n z => ⟨fun k h => (by cases h), k1, b2, comp1, b3⟩, k1, comp1, b2, b3, b1, b4⟩
      · exact ⟨fun n z => ⟨fun k h => (by cases h), k2, d2, comp2, d3⟩, k2, comp2, d2, d3, d1, d4⟩
    · have h1 := hts w hw
      cases w with
      | arrayOver ty => exact h1
      | _ => first | exact va_Nw.of rfl h1 | cases hn
  have hHp : xHp G s ((0, 0), xKi L, xfi xs) s.heap := by
    subst hG
    refine ⟨fun k q hq => by simp [xWs] at hq, rfl, Nat.zero_le _, fun i L' hi => ?_, Z1, Z2⟩
    rcases i with _ | _ | _ | i
    · cases hi
      obtain ⟨scr, x1, x2, x3, x4, x5⟩ := hX
      exact ⟨scr, x1, x2, x3, by rw [x4]; exact Nat.le_refl _, by rw [x4], x5, fun h => absurd hbl (Nat.not_lt.mpr h)⟩
    · cases hi
      exact T1
    · cases hi
      exact T2
    · have : xKi L (1000000 + (i + 1 + 1 + 1)) = (0, 0) := by
        unfold xKi
        rw [if_neg (by omega), if_neg (by omega), if_neg (by omega)]
      have h2 : xKi L (1000000 + (i + 1 + 1 + 1)) = (103, L') := hi
      rw [this] at h2
      cases h2
  have hsz : G.1 = s.heap.size := by rw [hG]
  have hro : xad G 1000000 = b := by rw [hG]; rfl
  have hargs : ([.ref 1000000] : List Value).map (xcv G) = [Value.ref b] := by
    show [Value.ref (xad G 1000000)] = _
    rw [hro]
  have hF : xFix G d 74 2349 m_Lw_law p s m #[Value.ref b] meth c room_1 0 0 := ⟨hx, hb, hml, hr, hown, hts', hlocks, fun h => absurd h (by decide), hKK, (by show d ≤ 2048; omega), (by show 64 * d ≤ 84000; omega), by decide, by decide⟩
  have hz := hV G p la e room_1 s m #[Value.ref b] below meth c (lw_Z below #[Value.ref b] s) 0 0 hF ?_ s.heap [] _ hHp (fun q hq => by cases hq) (Nat.le_refl _) (Nat.le_refl _) (xEntry_ls (as := [.ref 1000000]) (by decide))
  · rw [hargs] at hz
    rw [lg_entry_eq]
    exact hz
  · intro r h' H' locs' pc' ls' hQ hR hH' hl' hn' hw'
    obtain ⟨rfl, hn1⟩ := hQ
    rcases hR with ⟨v, ty, hv, hdc, hty, hnr⟩ | ⟨v, ty, hv, hvr, hdc, hty, href⟩ | ⟨hv, hdc, hty⟩
    · refine va_forget (fun q hq => by have := hl' q hq; rw [hsz] at this; exact this) ?_
      refine W.widen (k := 600000) (n := 7302250) (by rw [hn1]; decide) (by rw [hn1]; decide) ?_
      exact lw_ret hx hb hr hlocks hdc
    · cases hv
      rcases hvr with h | ⟨a, h⟩ <;> cases h
    · cases hv
