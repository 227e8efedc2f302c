/-! V's rows for what is made, arrays of references written, rows copied, Object's constructor -/
section XD
variable {d nM wM : Nat} {M : xM} {pc : Nat} {l : xL} {st : List Value} {n : Nat × Nat} {K : Nat → Nat × Nat} {f : Nat → Nat → Value} {Q : Option Value → xH → Prop}
def xkup (K : Nat → Nat × Nat) (k : Nat) (v : Nat × Nat) : Nat → Nat × Nat := fun a => if a = k then v else K a
/-- a world with one place more -/
theorem xHp_push {G : xG} {s : State} {H H1 : Heap} {w' : Nat} {kd : Nat × Nat} {row : Nat → Value} (hH : xHp G s (n, K, f) H) (hlt : n.1 < 1000000) (hat : va_at G.2.1 xcl (G.1 + n.1, xEnt G ((n.1 + 1, w'), xkup K n.1 kd, xrow f n.1 row) n.1) H1) (z : H1.size = H.size + 1) (oq : ∀ q : Nat, q < H.size → H1[q]? = H[q]?) :
    xHp G s ((n.1 + 1, w'), xkup K n.1 kd, xrow f n.1 row) H1 := by
  obtain ⟨hP, hs, hm, h1, h2, h3⟩ := hH
  have hs' : H.size = G.1 + n.1 := hs
  refine ⟨?_, by show H1.size = G.1 + (n.1 + 1); omega, by show n.1 + 1 ≤ 1000000; omega, fun i L hi => ?_, h2.kept (fun q hq1 _ => oq q hq1), h3.kept (fun q hq1 _ => oq q hq1)⟩
  · intro k q hk
    have hkl : k < n.1 + 1 := by have := (List.getElem?_eq_some_iff.mp hk).1; rwa [xWs_len] at this
    rw [xWs_at hkl] at hk
    cases hk
    by_cases he : k = n.1
    · subst he
      exact hat
    · have hk2 : k < n.1 := by omega
      have e1 : xEnt G ((n.1 + 1, w'), xkup K n.1 kd, xrow f n.1 row) k = xEnt G (n, K, f) k := by
        have hK1 : xkup K n.1 kd k = K k := if_neg he
        have hf1 : xrow f n.1 row k = f k := if_neg he
        unfold xEnt
        show (if (xkup K n.1 kd k).1 = 100 then _ else _) = (if (K k).1 = 100 then _ else _)
        simp only [hK1, hf1]
      rw [e1]
      exact (hP k _ (xWs_at hk2)).kept (oq _ (by show G.1 + k < H.size; omega))
  · have e0 : ¬ 1000000 + i = n.1 := by omega
    have hK1 : xkup K n.1 kd (1000000 + i) = K (1000000 + i) := if_neg e0
    have hf1 : xrow f n.1 row (1000000 + i) = f (1000000 + i) := if_neg e0
    have hi2 : K (1000000 + i) = (103, L) := by rw [← hK1]; exact hi
    have g1 := h1 i L hi2
    show va_T .int _ L (fun j => .int (xi (xrow f n.1 row (1000000 + i) j))) _ s H1
    rw [hf1]
    exact g1.kept (fun q hq1 _ => oq q hq1)
theorem V_new {idx ci N : Nat} {row : Nat → Value} (hd : decode M.2.1 pc = .ok (.new idx, 3)) (hc : xNew M.1.cls idx ci N) (hrow : ∃ (q : vw_C) (ty : Nat → FieldType), xcl[ci]? = some q ∧ (∀ k, k < q.2.2 → parseFieldDescriptor (q.2.1 k).2.2.1 = some (ty k)) ∧ ∀ j, j < N → defaultValue (ty j) = row j)
    (hlt : n.1 < 1000000) (h1 : n.1 + 1 ≤ nM) (h2 : n.2 + N ≤ wM) (hnr : ∀ j a, row j ≠ .ref a) (kk : V d nM wM M (pc + 3) l (.ref n.1 :: st) ((n.1 + 1, n.2 + N), xkup K n.1 (ci, N), xrow f n.1 row) Q) : V d nM wM M pc l st (n, K, f) Q := by
  intro G p la e R s m args below meth c Z n0 w0 hF hret H locs ls hH hl hn hw hls
  obtain ⟨q, hq, hN, hlk, hins, hini⟩ := hc
  obtain ⟨hin, -, -⟩ := xcl_ok ci q hq
  obtain ⟨q', ty, hq', hty, hdv⟩ := hrow
  have hqq : q' = q := Option.some.inj (hq'.symm.trans hq)
  subst hqq
  have hts := hF.2.2.2.2.2.1
  have hK := hF.2.2.2.2.2.2.2.2.1.1
  have hKn := hK.1 ci _ hq
  have a1 := hF.2.2.2.2.2.2.2.2.2.2.2.1
  have a2 := hF.2.2.2.2.2.2.2.2.2.2.2.2
  have hn' : n0 ≤ n.1 := hn
  have hw' : w0 ≤ n.2 := hw
  have hs' : H.size = G.1 + n.1 := hH.2.1
  refine W.newcK (n := N) hF.1 hF.2.1 hF.2.2.2.2.1 (hts _ (xtbl_in hlk rfl)) (by rw [← hN]; exact hts _ (xtbl_in hins rfl)) (hts _ (xtbl_in hini rfl)) rfl hd (by show n.1 - n0 + 1 ≤ _; omega) (by show n.2 - w0 + N ≤ _; omega) hKn.2.1 rfl fun H1 kC hkC e1 z1 o1 => ?_
  have hk := kk G p la e R s m args below meth c Z n0 w0 hF hret H1 locs ls (xHp_push hH hlt ?_ z1 o1) hl (by show n0 ≤ n.1 + 1; omega) (by show w0 ≤ n.2 + N; omega) hls
  · have e3 : (n.1 + 1) - n0 = n.1 - n0 + 1 := by omega
    have e4 : (n.2 + N) - w0 = n.2 - w0 + N := by omega
    have hk' : W p la e R s m args below meth c H1 locs ((n.1 + 1) - n0) ((n.2 + N) - w0) Z (F0 m (pc + 3) ls (.ref (xad G n.1) :: st.map (xcv G))) := hk
    rw [e3, e4, xad_lt hlt, ← hs'] at hk'
    exact hk'
  · have hx : xEnt G ((n.1 + 1, n.2 + N), xkup K n.1 (ci, N), xrow f n.1 row) n.1 = .inr (ci, (List.range N).map (fun j => xcv G (row j))) := by
      have e5 : xkup K n.1 (ci, N) n.1 = (ci, N) := if_pos rfl
      have e6 : xrow f n.1 row n.1 = row := if_pos rfl
      rw [xEnt_obj (h := ((n.1 + 1, n.2 + N), xkup K n.1 (ci, N), xrow f n.1 row)) e5 (xcl_lt hq)]
      show Sum.inr (ci, (List.range N).map (fun j => xcv G (xrow f n.1 row n.1 j))) = _
      rw [e6]
    rw [hx]
    refine ⟨q', hq, (u_born ty hts hin hKn hkC (by rw [← hs']; exact e1) hty).to fun j hj => ?_⟩
    rw [hN] at hj
    have hrw : vp_V ((List.range N).map (fun j => xcv G (row j))) j = xcv G (row j) := by simp [vp_V, hj]
    rw [hrw, hdv j hj]
    cases hr : row j with
    | ref a => exact absurd hr (hnr j a)
    | _ => rfl
theorem V_newarray {i : Int32} {N : Nat} (hd : decode M.2.1 pc = .ok (.newarray .int, 2)) (hi0 : ¬ i < 0) (hN : i.toNatClampNeg = N) (hlt : n.1 < 1000000) (h1 : n.1 + 1 ≤ nM) (h2 : n.2 + N ≤ wM) (hb : N ≤ 100000)
    (kk : V d nM wM M (pc + 2) l (.ref n.1 :: st) ((n.1 + 1, n.2 + N), xkup K n.1 (100, N), xrow f n.1 (fun _ => .int 0)) Q) : V d nM wM M pc l (.int i :: st) (n, K, f) Q := by
  intro G p la e R s m args below meth c Z n0 w0 hF hret H locs ls hH hl hn hw hls
  have hts := hF.2.2.2.2.2.1
  have hK := hF.2.2.2.2.2.2.2.2.1.1
  have a1 := hF.2.2.2.2.2.2.2.2.2.2.2.1
  have a2 := hF.2.2.2.2.2.2.2.2.2.2.2.2
  have hn' : n0 ≤ n.1 := hn
  have hw' : w0 ≤ n.2 := hw
  have hs' : H.size = G.1 + n.1 := hH.2.1
  have hia : Cond.arrayClass (newarray.typeOf .int) ∈ lw_tbl := by decide +kernel
  refine va_newaK (atype := .int) hF.1 hF.2.1 (hts _ (xtbl_in hia rfl)) rfl hd rfl hi0 hN (by show N * 4 ≤ 536870912; omega) (by show n.1 - n0 + 1 ≤ _; omega) (by show n.2 - w0 + N ≤ _; omega) rfl fun H1 cA e1 z1 o1 hAr hNm => ?_
  have hcA : cA = G.2.2.1 0 := by
    have h3 := (hK.2 0 _ rfl).2
    exact Option.some.inj (hNm.symm.trans h3)
  subst hcA
  have hk := kk G p la e R s m args below meth c Z n0 w0 hF hret H1 locs ls (xHp_push hH hlt ?_ z1 o1) hl (by show n0 ≤ n.1 + 1; omega) (by show w0 ≤ n.2 + N; omega) hls
  · have e3 : (n.1 + 1) - n0 = n.1 - n0 + 1 := by omega
    have e4 : (n.2 + N) - w0 = n.2 - w0 + N := by omega
    have hk' : W p la e R s m args below meth c H1 locs ((n.1 + 1) - n0) ((n.2 + N) - w0) Z (F0 m (pc + 2) ls (.ref (xad G n.1) :: st.map (xcv G))) := hk
    rw [e3, e4, xad_lt hlt, ← hs'] at hk'
    exact hk'
  · have hx : xEnt G ((n.1 + 1, n.2 + N), xkup K n.1 (100, N), xrow f n.1 (fun _ => .int 0)) n.1 = .inl (G.2.2.1 0, N, .inl (fun _ => 0)) := by
      have e5 : xkup K n.1 (100, N) n.1 = (100, N) := if_pos rfl
      have e6 : xrow f n.1 (fun _ => .int 0) n.1 = (fun _ => .int 0) := if_pos rfl
      rw [xEnt_int (h := ((n.1 + 1, n.2 + N), xkup K n.1 (100, N), xrow f n.1 (fun _ => .int 0))) e5]
      show Sum.inl (G.2.2.1 0, N, Sum.inl (fun j => xi (xrow f n.1 (fun _ => .int 0) n.1 j))) = _
      rw [e6]
      rfl
    rw [hx]
    show H1[G.1 + n.1]? = some (vp_cell (G.2.2.1 0) (N, .inl (fun _ => 0)))
    rw [← hs', vp_cell_i]
    exact e1
theorem V_anewarray {i : Int32} {N idx t : Nat} {C : String} (hd : decode M.2.1 pc = .ok (.anewarray idx, 3)) (hi0 : ¬ i < 0) (hN : i.toNatClampNeg = N) (hlt : n.1 < 1000000) (h1 : n.1 + 1 ≤ nM) (h2 : n.2 + N ≤ wM) (hb : N ≤ 100000)
    (ht : (t = 0 ∧ C = "PastTheRim$Sheet") ∨ (t = 1 ∧ C = "PastTheRim$Car")) (hlk : Cond.classLink M.1.cls idx C ∈ lw_tbl) (hov : Cond.arrayOver (.object C) ∈ lw_tbl)
    (kk : V d nM wM M (pc + 3) l (.ref n.1 :: st) ((n.1 + 1, n.2 + N), xkup K n.1 (101 + t, N), xrow f n.1 (fun _ => .null)) Q) : V d nM wM M pc l (.int i :: st) (n, K, f) Q := by
  intro G p la e R s m args below meth c Z n0 w0 hF hret H locs ls hH hl hn hw hls
  have hts := hF.2.2.2.2.2.1
  have hK := hF.2.2.2.2.2.2.2.2.1.1
  have a1 := hF.2.2.2.2.2.2.2.2.2.2.2.1
  have a2 := hF.2.2.2.2.2.2.2.2.2.2.2.2
  have hn' : n0 ≤ n.1 := hn
  have hw' : w0 ≤ n.2 := hw
  have hs' : H.size = G.1 + n.1 := hH.2.1
  subst hN
  refine W.anew hF.1 hF.2.1 hF.2.2.2.2.1 (hts _ (xtbl_in hlk rfl)) (xnw hF.2.2.2.2.2.2.2.2.1 hov rfl) rfl hd rfl hi0 (by omega) (by show n.1 - n0 + 1 ≤ _; omega) (by show n.2 - w0 + i.toNatClampNeg ≤ _; omega) fun cA kA comp f1 f2 f3 f4 => ?_
  generalize hH1 : H.push ({ cls := cA, slots := Array.replicate i.toNatClampNeg .null, vm := .none } : Cell) = H1
  have z1 : H1.size = H.size + 1 := by rw [← hH1, Array.size_push]
  have e1 : H1[H.size]? = some (arrV cA i.toNatClampNeg (fun _ => .null)) := by rw [← hH1, Array.getElem?_push_size, ← arrV_new]
  have o1 : ∀ q : Nat, q < H.size → H1[q]? = H[q]? := fun q hq => by rw [← hH1, Array.getElem?_push, if_neg (Nat.ne_of_lt hq)]
  have hcA : cA = G.2.2.1 (1 + t) := by
    rcases ht with ⟨rfl, rfl⟩ | ⟨rfl, rfl⟩
    · obtain ⟨-, -, -, -, -, h4⟩ := (hK.2 1 _ rfl).2
      exact Option.some.inj (f1.symm.trans h4)
    · obtain ⟨-, -, -, -, -, h4⟩ := (hK.2 2 _ rfl).2
      exact Option.some.inj (f1.symm.trans h4)
  subst hcA
  have hk := kk G p la e R s m args below meth c Z n0 w0 hF hret H1 locs ls (xHp_push hH hlt ?_ z1 o1) hl (by show n0 ≤ n.1 + 1; omega) (by show w0 ≤ n.2 + _; omega) hls
  · have e3 : (n.1 + 1) - n0 = n.1 - n0 + 1 := by omega
    have e4 : (n.2 + i.toNatClampNeg) - w0 = n.2 - w0 + i.toNatClampNeg := by omega
    have hk' : W p la e R s m args below meth c H1 locs ((n.1 + 1) - n0) ((n.2 + i.toNatClampNeg) - w0) Z (F0 m (pc + 3) ls (.ref (xad G n.1) :: st.map (xcv G))) := hk
    rw [e3, e4, xad_lt hlt, ← hs'] at hk'
    exact hk'
  · have hx : xEnt G ((n.1 + 1, n.2 + i.toNatClampNeg), xkup K n.1 (101 + t, i.toNatClampNeg), xrow f n.1 (fun _ => .null)) n.1 = .inl (G.2.2.1 (1 + t), i.toNatClampNeg, .inr (.inr (.inr (.inr (fun _ => none))))) := by
      have e5 : xkup K n.1 (101 + t, i.toNatClampNeg) n.1 = (101 + t, i.toNatClampNeg) := if_pos rfl
      have e6 : xrow f n.1 (fun _ => .null) n.1 = (fun _ => .null) := if_pos rfl
      rcases ht with ⟨rfl, rfl⟩ | ⟨rfl, rfl⟩
      · rw [xEnt_sheets (h := ((n.1 + 1, n.2 + i.toNatClampNeg), xkup K n.1 (101 + 0, i.toNatClampNeg), xrow f n.1 (fun _ => .null))) e5]
        show Sum.inl (_, _, Sum.inr (Sum.inr (Sum.inr (Sum.inr (fun j => xrf G (xrow f n.1 (fun _ => .null) n.1 j)))))) = _
        rw [e6]
        rfl
      · rw [xEnt_cars (h := ((n.1 + 1, n.2 + i.toNatClampNeg), xkup K n.1 (101 + 1, i.toNatClampNeg), xrow f n.1 (fun _ => .null))) e5]
        show Sum.inl (_, _, Sum.inr (Sum.inr (Sum.inr (Sum.inr (fun j => xrf G (xrow f n.1 (fun _ => .null) n.1 j)))))) = _
        rw [e6]
        rfl
    rw [hx]
    show H1[G.1 + n.1]? = some (vp_cell (G.2.2.1 (1 + t)) (i.toNatClampNeg, .inr (.inr (.inr (.inr (fun _ => none))))))
    rw [← hs', vp_cell_q]
    exact e1
theorem V_aastore {k len t b sz ci : Nat} {i : Int32} (hd : decode M.2.1 pc = .ok (.aastore, 1)) (hk : k < n.1) (ho : K k = (101 + t, len)) (hb : b < n.1) (hob : K b = (ci, sz)) (ht : (t = 0 ∧ ci = 6) ∨ (t = 1 ∧ ci = 0)) (hin : vp_in i len)
    (kk : V d nM wM M (pc + 1) l st (n, K, xup f k i.toNatClampNeg (.ref b)) Q) : V d nM wM M pc l (.ref b :: .int i :: .ref k :: st) (n, K, f) Q := by
  intro G p la e R s m args below meth c Z n0 w0 hF hret H locs ls hH hl hn hw hls
  have hkl : k < 1000000 := Nat.lt_of_lt_of_le hk hH.2.2.1
  have hbl : b < 1000000 := Nat.lt_of_lt_of_le hb hH.2.2.1
  have hK := hF.2.2.2.2.2.2.2.2.1.1
  have hlt : i.toNatClampNeg < len := Nat.not_le.mp fun q => hin (Or.inr q)
  have h0 : ¬ i < 0 := fun q => hin (Or.inl q)
  have hci : ci < 11 := by omega
  have hx : xEnt G (n, K, f) k = .inl (G.2.2.1 (1 + t), len, .inr (.inr (.inr (.inr (fun j => xrf G (f k j)))))) := by
    rcases ht with ⟨rfl, rfl⟩ | ⟨rfl, rfl⟩
    · exact xEnt_sheets ho
    · exact xEnt_cars ho
  have hx' : ∀ f', xEnt G (n, K, f') k = .inl (G.2.2.1 (1 + t), len, .inr (.inr (.inr (.inr (fun j => xrf G (f' k j)))))) := fun f' => by
    rcases ht with ⟨rfl, rfl⟩ | ⟨rfl, rfl⟩
    · exact xEnt_sheets (h := (n, K, f')) ho
    · exact xEnt_cars (h := (n, K, f')) ho
  have ha := hH.1 k _ (xWs_at hk)
  rw [hx] at ha
  have hv := hH.1 b _ (xWs_at hb)
  rw [xEnt_obj (h := (n, K, f)) hob hci] at hv
  obtain ⟨r', hr', cellV, g1, g2, g3, -⟩ := hv
  have hcls := (hK.1 ci r' hr').2
  have hra : ∃ (kA : Class) (comp : ClassId), s.vm.classes[G.2.2.1 (1 + t)]? = some kA ∧ kA.kind = .array comp (.object r'.1) ∧ s.vm.findClass r'.1 = some comp := by
    rcases ht with ⟨rfl, rfl⟩ | ⟨rfl, rfl⟩
    · obtain ⟨kA, comp, k1, k2, k3, -⟩ := (hK.2 1 _ rfl).2
      have : r' = ("PastTheRim$Sheet", xF6, 3) := Option.some.inj (hr'.symm.trans rfl)
      subst this
      exact ⟨kA, comp, k1, k2, k3⟩
    · obtain ⟨kA, comp, k1, k2, k3, -⟩ := (hK.2 2 _ rfl).2
      have : r' = ("PastTheRim$Car", xF0, 8) := Option.some.inj (hr'.symm.trans rfl)
      subst this
      exact ⟨kA, comp, k1, k2, k3⟩
  obtain ⟨kA, comp, k1, k2, k3⟩ := hra
  have hcomp : comp = G.2.1.1 ci := Option.some.inj (k3.symm.trans hcls.1)
  subst hcomp
  obtain ⟨kC, hkC, -⟩ := hcls.2
  have e0 : xad G k = G.1 + k := xad_lt hkl
  have e9 : xad G b = G.1 + b := xad_lt hbl
  show W p la e R s m args below meth c H locs (n.1 - n0) (n.2 - w0) Z (F0 m pc ls (.ref (xad G b) :: .int i :: .ref (xad G k) :: st.map (xcv G)))
  rw [e0, e9]
  refine W.aast hF.1 hF.2.1 (cell := vp_cell (G.2.2.1 (1 + t)) (len, .inr (.inr (.inr (.inr (fun j => xrf G (f k j))))))) ha (fun q h => by cases h) (fun h => by cases h) k1 k2 rfl hkC ⟨h0, by show _ < (arrV _ _ _).slots.size; rw [arrV_size]; exact hlt⟩ g1 (fun q h => by rw [g3] at h; cases h) (by rw [g2]; exact hkC) (by rw [g2]; exact va_assign hcls) rfl rfl hd fun H1 e1 z oq => ?_
  refine kk G p la e R s m args below meth c Z n0 w0 hF hret H1 _ ls (xHp_set hH hk xup_ne ?_ z oq) (xLocs hl (fun q hq' => by rw [List.mem_singleton.mp hq']; exact Nat.le_add_right _ _)) hn hw hls
  rw [hx']
  show H1[G.1 + k]? = some (vp_cell _ (len, .inr (.inr (.inr (.inr (fun j => xrf G (xup f k i.toNatClampNeg (.ref b) k j)))))))
  refine e1.trans ?_
  rw [vp_cell_q, vp_cell_q, arrV_store, xup_at]
  congr 2
  funext q
  by_cases hq : q = i.toNatClampNeg
  · subst hq
    simp [updV, va_rf, xrf, e9]
  · simp [updV, hq]
theorem V_objinit {b idx : Nat} (hd : decode M.2.1 pc = .ok (.invokespecial idx, 3)) (hlk : Cond.methodLink M.1.cls idx Lib.objectInit ∈ lw_tbl) (hcat : (st.map fun v => v.category).sum ≤ 8)
    (kk : V (d + 1) nM wM M (pc + 3) l st (n, K, f) Q) : V (d + 1) nM wM M pc l (.ref b :: st) (n, K, f) Q := by
  intro G p la e R s m args below meth c Z n0 w0 hF hret H locs ls hH hl hn hw hls
  have hts := hF.2.2.2.2.2.1
  have h1 : Cond.instanceMethod Lib.objectInit ∈ lw_tbl := by decide +kernel
  have h2 : Cond.code Lib.objectInit ⟨#[0xb1]⟩ 1 none ∈ lw_tbl := by decide +kernel
  have a1 := hF.2.2.2.2.2.2.2.2.2.1
  have a2 := hF.2.2.2.2.2.2.2.2.2.2.1
  refine W.objInit hF.1 hF.2.1 hF.2.2.2.2.1 (hts _ (xtbl_in hlk rfl)) (hts _ (xtbl_in h1 rfl)) (hts _ (xtbl_in h2 rfl)) rfl (by rw [hF.2.2.1]; exact hls.1) rfl hd (by omega) (by show 2 * 0 + _ + 12 ≤ _; rw [xcats]; omega) ?_
  exact kk G p la e R s m args below meth c Z n0 w0 hF hret H locs ls hH hl hn hw hls
/-- a row of ints copied: into another, or the same, as it was -/
theorem V_copy {idx a0 a n0' n1' : Nat} {sp dp k : Int32} (hd : decode M.2.1 pc = .ok (.invokestatic idx, 3)) (hlk : Cond.methodLink M.1.cls idx arraycopyName ∈ lw_tbl) (ha0 : a0 < n.1) (ha : a < n.1) (ho0 : K a0 = (100, n0')) (ho1 : K a = (100, n1')) (h1 : ¬ sp < 0) (h2 : ¬ dp < 0) (h3 : ¬ k < 0)
    (h4 : sp.toNatClampNeg + k.toNatClampNeg ≤ n0') (h5 : dp.toNatClampNeg + k.toNatClampNeg ≤ n1') (hcat : (st.map fun v => v.category).sum ≤ 8)
    (kk : V (d + 1) nM wM M (pc + 3) l st (n, K, xrow f a (fun j => .int (va_cpy (fun j => xi (f a0 j)) (fun j => xi (f a j)) sp.toNatClampNeg dp.toNatClampNeg k.toNatClampNeg j))) Q) : V (d + 1) nM wM M pc l (.int k :: .int dp :: .ref a :: .int sp :: .ref a0 :: st) (n, K, f) Q := by
  intro G p la e R s m args below meth c Z n0 w0 hF hret H locs ls hH hl hn hw hls
  have hts := hF.2.2.2.2.2.1
  have hK := hF.2.2.2.2.2.2.2.2.1.1
  have hal : a < 1000000 := Nat.lt_of_lt_of_le ha hH.2.2.1
  have ha0l : a0 < 1000000 := Nat.lt_of_lt_of_le ha0 hH.2.2.1
  have g1 : Cond.native arraycopyName ∈ lw_tbl := by decide +kernel
  have g2 : Cond.static arraycopyName ∈ lw_tbl := by decide +kernel
  have g3 : Cond.initialized "java/lang/System" ∈ lw_tbl := by decide +kernel
  have a1 := hF.2.2.2.2.2.2.2.2.2.1
  have a2 := hF.2.2.2.2.2.2.2.2.2.2.1
  have e0 : (xWs G (n, K, f))[a0]? = some (G.1 + a0, .inl (G.2.2.1 0, n0', .inl (fun j => xi (f a0 j)))) := by rw [xWs_at ha0, xEnt_int ho0]
  have e1 : (xWs G (n, K, f))[a]? = some (G.1 + a, .inl (G.2.2.1 0, n1', .inl (fun j => xi (f a j)))) := by rw [xWs_at ha, xEnt_int ho1]
  have hms : c.maxLocals = ls.size := by rw [hF.2.2.1]; exact hls.1.symm
  show W p la e R s m args below meth c H locs (n.1 - n0) (n.2 - w0) Z (F0 m pc ls (.int k :: .int dp :: .ref (xad G a) :: .int sp :: .ref (xad G a0) :: st.map (xcv G)))
  rw [xad_lt hal, xad_lt ha0l]
  have nn : ∀ z : Int32, ¬ z < 0 → z.toInt = (z.toNatClampNeg : Int) := by
    intro z hz
    have hz0 : (0 : Int) ≤ z.toInt := by
      have := Int32.not_lt.mp hz
      simpa using Int32.le_iff_toInt_le.mp this
    show z.toInt = ((z.toInt.toNat : Nat) : Int)
    omega
  have hroom : 2 * 0 + ((st.map (xcv G)).map fun v => v.category).sum + (nativeFrameWords "java/lang/System" "arraycopy" 5 + 11) ≤ R.locals := by
    rw [xcats]
    have h9 : nativeFrameWords "java/lang/System" "arraycopy" 5 + 11 ≤ 40 := by decide
    omega
  intro T hT X
  have hc0 : H[G.1 + a0]? = some (vp_cell (G.2.2.1 0) (n0', .inl (fun j => xi (f a0 j)))) := hH.1 a0 _ e0
  have hc1 : H[G.1 + a]? = some (vp_cell (G.2.2.1 0) (n1', .inl (fun j => xi (f a j)))) := hH.1 a _ e1
  obtain ⟨-, k0, hk0, cm0, hkk0⟩ := (hK.2 0 _ rfl).1 n0' (fun j => .int (xi (f a0 j)))
  obtain ⟨-, k1, hk1, cm1, hkk1⟩ := (hK.2 0 _ rfl).1 n1' (fun j => .int (xi (f a j)))
  obtain ⟨vm', X', step⟩ := X.arraycopy hF.1 hF.2.2.2.2.1 (hts _ (xtbl_in hlk rfl)) (hts _ (xtbl_in g1 rfl)) (hts _ (xtbl_in g2 rfl)) (hts _ (xtbl_in g3 rfl)) (src := G.1 + a0) (dst := G.1 + a) (cs := vp_cell (G.2.2.1 0) (n0', .inl (fun j => xi (f a0 j)))) (cd := vp_cell (G.2.2.1 0) (n1', .inl (fun j => xi (f a j)))) (srcPos := sp) (destPos := dp) (n := k) (by rw [hT]; exact hc0) (by rw [hT]; exact hc1)
    (fun _ h => by cases h) (fun _ h => by cases h) (fun h => by cases h) (fun h => by cases h) hk0 hk1 hkk0 hkk1 (by rfl) h1 h2 h3
    (by rw [nn sp h1, nn k h3]; show ¬ _ > ((arrV _ n0' (fun j => .int (xi (f a0 j)))).slots.size : Int); rw [arrV_size]; omega)
    (by rw [nn dp h2, nn k h3]; show ¬ _ > ((arrV _ n1' (fun j => .int (xi (f a j)))).slots.size : Int); rw [arrV_size]; omega)
    (fun vm₁ _ i hi => by
      have e : (vp_cell (G.2.2.1 0) (n0', .inl (fun j => xi (f a0 j)))).slots.getD (sp.toNatClampNeg + i) .null = .int (xi (f a0 (sp.toNatClampNeg + i))) := by
        show (arrV _ n0' (fun j => .int (xi (f a0 j)))).slots.getD _ _ = _
        rw [Array.getD_eq_getD_getElem?, arrV_read _ _ (by omega)]
        rfl
      refine ⟨?_, ?_⟩
      · rw [e]
        rfl
      · rw [e]
        exact trivial)
    (g := F0 m pc ls (.int k :: .int dp :: .ref (G.1 + a) :: .int sp :: .ref (G.1 + a0) :: st.map (xcv G))) rfl (by rw [hms]) (rest := st.map (xcv G)) rfl (by rw [hF.2.1]; exact hd) (by omega) hroom
  have e5 : copied (vp_cell (G.2.2.1 0) (n0', .inl (fun j => xi (f a0 j)))) (vp_cell (G.2.2.1 0) (n1', .inl (fun j => xi (f a j)))) sp dp k = vp_cell (G.2.2.1 0) (n1', .inl (va_cpy (fun j => xi (f a0 j)) (fun j => xi (f a j)) sp.toNatClampNeg dp.toNatClampNeg k.toNatClampNeg)) := va_copied (n1 := n1') (fun z => .int z) (G.2.2.1 0) (G.2.2.1 0) (fun j => xi (f a0 j)) (fun j => xi (f a j)) h4
  rw [e5] at X' step
  have hl' : G.1 + a < H.size := (Array.getElem?_eq_some_iff.mp hc1).1
  generalize hC : vp_cell (G.2.2.1 0) (n1', .inl (va_cpy (fun j => xi (f a0 j)) (fun j => xi (f a j)) sp.toNatClampNeg dp.toNatClampNeg k.toNatClampNeg)) = cl at X' step
  have hheap : ((T.setVm vm').setCell (G.1 + a) cl).heap = H.setIfInBounds (G.1 + a) cl := by rw [← hT]; rfl
  have oq : ∀ q : Nat, q ≠ G.1 + a → (H.setIfInBounds (G.1 + a) cl)[q]? = H[q]? := fun q hq => by simp [Array.getElem?_setIfInBounds, Ne.symm hq]
  have hat : xHp G s (n, K, xrow f a (fun j => .int (va_cpy (fun j => xi (f a0 j)) (fun j => xi (f a j)) sp.toNatClampNeg dp.toNatClampNeg k.toNatClampNeg j))) (H.setIfInBounds (G.1 + a) cl) := by
    refine xHp_set hH ha (fun b hb => if_neg hb) ?_ (by simp) oq
    rw [xEnt_int (h := (n, K, xrow f a (fun j => .int (va_cpy (fun j => xi (f a0 j)) (fun j => xi (f a j)) sp.toNatClampNeg dp.toNatClampNeg k.toNatClampNeg j)))) ho1]
    show (H.setIfInBounds (G.1 + a) cl)[G.1 + a]? = some (vp_cell (G.2.2.1 0) (n1', .inl (fun j => xi (xrow f a _ a j))))
    have e6 : xrow f a (fun j => .int (va_cpy (fun j => xi (f a0 j)) (fun j => xi (f a j)) sp.toNatClampNeg dp.toNatClampNeg k.toNatClampNeg j)) a = (fun j => .int (va_cpy (fun j => xi (f a0 j)) (fun j => xi (f a j)) sp.toNatClampNeg dp.toNatClampNeg k.toNatClampNeg j)) := if_pos rfl
    rw [e6, ← hC]
    simp [Array.getElem?_setIfInBounds, hl', xi]
  obtain ⟨t, b1, b2⟩ := kk G p la e R s m args below meth c Z n0 w0 hF hret _ _ ls hat (xLocs hl (L := _) (fun q hq => by
      obtain ⟨z, -, hz⟩ := List.mem_map.mp hq
      rw [← hz]
      exact Nat.le_add_right _ _)) hn hw hls _ hheap X'
  exact ⟨t, step t b1, b2⟩
end XD
