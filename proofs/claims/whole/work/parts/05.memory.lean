/-! V's rows for fields, arrays, new, static fields, returns -/
section XM
variable {d nM wM : Nat} {M : xM} {pc : Nat} {l : xL} {st : List Value} {n : Nat × Nat} {K : Nat → Nat × Nat} {f : Nat → Nat → Value} {Q : Option Value → xH → Prop}
theorem xcl_lt {ci : Nat} {q : vw_C} (h : xcl[ci]? = some q) : ci < 11 := (List.getElem?_eq_some_iff.mp h).1
theorem xEnt_obj {G : xG} {h : xH} {k ci sz : Nat} (ho : h.2.1 k = (ci, sz)) (hc : ci < 11) : xEnt G h k = .inr (ci, (List.range sz).map (fun j => xcv G (h.2.2 k j))) := by
  unfold xEnt
  rw [ho]
  rw [if_neg (show ¬ ci = 100 by omega), if_neg (show ¬ ci = 101 by omega), if_neg (show ¬ ci = 102 by omega)]
theorem xEnt_int {G : xG} {h : xH} {k sz : Nat} (ho : h.2.1 k = (100, sz)) : xEnt G h k = .inl (G.2.2.1 0, sz, .inl (fun j => xi (h.2.2 k j))) := by
  unfold xEnt
  rw [ho]
  rfl
theorem xEnt_sheets {G : xG} {h : xH} {k sz : Nat} (ho : h.2.1 k = (101, sz)) : xEnt G h k = .inl (G.2.2.1 1, sz, .inr (.inr (.inr (.inr (fun j => xrf G (h.2.2 k j)))))) := by
  unfold xEnt
  rw [ho]
  rfl
theorem xEnt_cars {G : xG} {h : xH} {k sz : Nat} (ho : h.2.1 k = (102, sz)) : xEnt G h k = .inl (G.2.2.1 2, sz, .inr (.inr (.inr (.inr (fun j => xrf G (h.2.2 k j)))))) := by
  unfold xEnt
  rw [ho]
  rfl
theorem xnw {G : xG} {s : State} (hK : xKK G s) {w : Cond} (h : w ∈ lw_tbl) (hn : xnest w = true) : w.before #[] s = true := hK.2 w h hn
theorem xmapget {G : xG} {g : Nat → Value} {sz j : Nat} (hj : j < sz) : ((List.range sz).map (fun j => xcv G (g j)))[j]? = some (xcv G (g j)) := by simp [hj]
theorem xmapset {G : xG} {g : Nat → Value} {sz j : Nat} {v : Value} : ((List.range sz).map (fun j => xcv G (g j))).set j (xcv G v) = (List.range sz).map (fun b => xcv G (if b = j then v else g b)) := by
  apply List.ext_getElem?
  intro b
  by_cases hb : b < sz
  · by_cases hbj : b = j
    · subst hbj
      rw [List.getElem?_set_self (by simpa using hb)]
      simp [hb]
    · rw [List.getElem?_set_ne (Ne.symm hbj)]
      simp [hb, hbj]
  · rw [List.getElem?_eq_none (by simpa using hb), List.getElem?_eq_none (by simpa using hb)]
theorem V_get {idx ci j k sz : Nat} {fin : Bool} {ty : FieldType} (hd : decode M.2.1 pc = .ok (.getfield idx, 3)) (hf : xFld M.1.cls idx ci j fin ty) (hk : k < n.1) (ho : K k = (ci, sz)) (hj : j < sz)
    (kk : V d nM wM M (pc + 3) l (f k j :: st) (n, K, f) Q) : V d nM wM M pc l (.ref k :: st) (n, K, f) Q := by
  intro G p la e R s m args below meth c Z n0 w0 hF hret H locs ls hH hl hn hw hls
  obtain ⟨q, hq, hjn, -, -, -, hlk⟩ := hf
  obtain ⟨hin, -, -⟩ := xcl_ok ci q hq
  have hkl : k < 1000000 := Nat.lt_of_lt_of_le hk hH.2.2.1
  have hk2 := kk G p la e R s m args below meth c Z n0 w0 hF hret H locs ls hH hl hn hw hls
  have he : (xWs G (n, K, f))[k]? = some (xad G k, .inr (ci, (List.range sz).map (fun j => xcv G (f k j)))) := by
    rw [xWs_at hk, xEnt_obj ho (xcl_lt hq), xad_lt hkl]
  rcases hlk with hlk | ⟨host, hlk⟩
  · exact va_get hF.1 hF.2.1 hF.2.2.2.2.2.1 hin hF.2.2.2.2.1 hF.2.2.2.2.2.2.2.2.1.1 hH.1 k he hq j hjn (hF.2.2.2.2.2.1 _ (xtbl_in hlk rfl)) (fun _ h => h) (xmapget hj) hd hk2
  · exact va_getN hF.1 hF.2.1 hF.2.2.2.2.2.1 hin hF.2.2.2.2.1 hF.2.2.2.2.2.2.2.2.1.1 hH.1 k he hq j hjn (va_Nw.use rfl (xnw hF.2.2.2.2.2.2.2.2.1 hlk rfl)) (fun _ h => h) (xmapget hj) hd hk2
/-- a world with one place changed -/
theorem xHp_set {G : xG} {s : State} {H H1 : Heap} {k : Nat} {f' : Nat → Nat → Value} (hH : xHp G s (n, K, f) H) (hk : k < n.1) (hf : ∀ a, a ≠ k → f' a = f a) (hat : va_at G.2.1 xcl (G.1 + k, xEnt G (n, K, f') k) H1) (z : H1.size = H.size) (oq : ∀ q : Nat, q ≠ G.1 + k → H1[q]? = H[q]?) : xHp G s (n, K, f') H1 := by
  obtain ⟨hP, hs, hm, hR⟩ := hH
  have hkl : k < 1000000 := Nat.lt_of_lt_of_le hk hm
  refine ⟨?_, z.trans hs, hm, xRO_put hR (fun a ha => hf a (by omega)) (fun q hq => oq q (by omega))⟩
  rw [← xWs_set (G := G) (h := (n, K, f)) (h' := (n, K, f')) (k := k) rfl (fun a ha => xEnt_ne (hf a ha)) hk]
  exact hP.set xWs_D (xWs_at hk) hat oq
theorem xnarrow {G : xG} {ty : FieldType} {v : Value} (h : narrow ty v = v) : narrow ty (xcv G v) = xcv G v := by
  cases v with
  | ref a => cases ty <;> rfl
  | _ => exact h
theorem xfits {G : xG} {ty : FieldType} {v : Value} (h : fits ty v = true) : fits ty (xcv G v) = true := by
  cases v with
  | ref a => cases ty <;> first | rfl | exact h
  | _ => exact h
theorem xup_ne {f : Nat → Nat → Value} {k j : Nat} {v : Value} : ∀ a, a ≠ k → xup f k j v a = f a := fun a ha => by funext b; exact if_neg ha
theorem xup_at {f : Nat → Nat → Value} {k j : Nat} {v : Value} : xup f k j v k = fun b => if b = j then v else f k b := by funext b; exact if_pos rfl
theorem V_put {idx ci j k sz : Nat} {ty : FieldType} {v : Value} (hd : decode M.2.1 pc = .ok (.putfield idx, 3)) (hf : xFld M.1.cls idx ci j false ty) (hk : k < n.1) (ho : K k = (ci, sz)) (hj : j < sz) (hnw : narrow ty v = v) (hfit : fits ty v = true)
    (kk : V d nM wM M (pc + 3) l st (n, K, xup f k j v) Q) : V d nM wM M pc l (v :: .ref k :: st) (n, K, f) Q := by
  intro G p la e R s m args below meth c Z n0 w0 hF hret H locs ls hH hl hn hw hls
  obtain ⟨q, hq, hjn, hfin, hty, -, hlk⟩ := hf
  obtain ⟨hin, ⟨ty0, hty0⟩, hnm⟩ := xcl_ok ci q hq
  obtain ⟨C, T, N⟩ := q
  have hkl : k < 1000000 := Nat.lt_of_lt_of_le hk hH.2.2.1
  have he : (xWs G (n, K, f))[k]? = some (xad G k, .inr (ci, (List.range sz).map (fun j => xcv G (f k j)))) := by
    rw [xWs_at hk, xEnt_obj ho (xcl_lt hq), xad_lt hkl]
  have hK := hF.2.2.2.2.2.2.2.2.1.1
  have hts := hF.2.2.2.2.2.1
  have hap := va_apart (own := C) (D := G.2.1) (cl := xcl) (tys := xtys G) hts hin ty0 hty0 hnm hK hq
  obtain ⟨r, h1, cell, q1, q2, q3, q4⟩ := hH.1 k _ he
  have hr : r = (C, T, N) := Option.some.inj (h1.symm.trans hq)
  subst hr
  obtain ⟨hS, hfc, kC, hkC, hkind⟩ := hK.1 ci _ hq
  obtain ⟨cf, kf, fi, fd, hi, hsl⟩ := hS j hjn
  have hlay := hts _ (hin _ (u_in_lay hjn))
  unfold u_lay at hlay
  rw [if_neg (by rw [hfin]; decide)] at hlay
  have hst := (u_facts hfc hkC (u_lays hts hin hjn) hi).1
  have h6 := u_store hfc hkC hkind hlay hi hty (xnarrow (G := G) hnw) (xfits (G := G) hfit)
  have fin : ∀ H' : Heap, H'[xad G k]? = some (cell.setSlot fd.slot (xcv G v)) → H'.size = H.size → (∀ q, q ≠ xad G k → H'[q]? = H[q]?) → W p la e R s m args below meth c H' (locs ++ [⟨xad G k, fd.slot⟩]) (n.1 - n0) (n.2 - w0) Z (F0 m (pc + 3) ls (st.map (xcv G))) := by
    intro H' e1 e2 e3
    rw [hsl] at e1 ⊢
    rw [xad_lt hkl] at e1 e3 ⊢
    refine kk G p la e R s m args below meth c Z n0 w0 hF hret H' _ ls (xHp_set hH hk xup_ne ?_ e2 e3) (xLocs hl (fun q hq' => by rw [List.mem_singleton.mp hq']; exact Nat.le_add_right _ _)) hn hw hls
    rw [xEnt_obj (h := (n, K, xup f k j v)) ho (xcl_lt hq), show (fun j' => xcv G (xup f k j v k j')) = (fun b => xcv G (if b = j then v else f k b)) by rw [xup_at], ← xmapset]
    exact ⟨_, hq, t_OB.to (V := updV (vp_V ((List.range sz).map (fun j => xcv G (f k j)))) j (xcv G v)) ⟨_, e1, q2, q3, t_set q4 hap hjn _⟩ (fun b _ => vp_updV_set (by simpa using hj) _ b)⟩
  rcases hlk with hlk | ⟨host, hlk⟩
  · exact W.putK hF.1 hF.2.1 (f := fd) ⟨hF.2.2.2.2.1, hts _ (xtbl_in hlk rfl), ⟨_, _, _, hi⟩, hst⟩ (by rw [q2]; exact h6) q1 q3 (by rw [hsl]; exact k2_hasslot (q4 j hjn)) rfl rfl hd fin
  · exact va_WputK hF.1 hF.2.1 (f := fd) hF.2.2.2.2.1 (va_Nw.use rfl (xnw hF.2.2.2.2.2.2.2.2.1 hlk rfl)) hi hst (by rw [q2]; exact h6) q1 q3 (by rw [hsl]; exact k2_hasslot (q4 j hjn)) rfl rfl hd fin
/-- a final field, in its class's constructor -/
theorem V_putF {idx ci j k sz : Nat} {ty : FieldType} {v : Value} (hd : decode M.2.1 pc = .ok (.putfield idx, 3)) (hf : ∃ q : vw_C, xcl[ci]? = some q ∧ j < q.2.2 ∧ (q.2.1 j).2.2.2 = true ∧ parseFieldDescriptor (q.2.1 j).2.2.1 = some ty ∧ (q.2.1 j).1 = M.1.cls ∧ Cond.fieldLink M.1.cls idx (q.2.1 j).1 (q.2.1 j).2.1 (q.2.1 j).2.2.1 ∈ lw_tbl) (hi0 : M.1.name = "<init>") (hk : k < n.1) (ho : K k = (ci, sz)) (hj : j < sz) (hnw : narrow ty v = v) (hfit : fits ty v = true)
    (kk : V d nM wM M (pc + 3) l st (n, K, xup f k j v) Q) : V d nM wM M pc l (v :: .ref k :: st) (n, K, f) Q := by
  intro G p la e R s m args below meth c Z n0 w0 hF hret H locs ls hH hl hn hw hls
  obtain ⟨q, hq, hjn, hfin, hty, hdecl, hlk⟩ := hf
  obtain ⟨hin, ⟨ty0, hty0⟩, hnm⟩ := xcl_ok ci q hq
  obtain ⟨C, T, N⟩ := q
  have hkl : k < 1000000 := Nat.lt_of_lt_of_le hk hH.2.2.1
  have he : (xWs G (n, K, f))[k]? = some (xad G k, .inr (ci, (List.range sz).map (fun j => xcv G (f k j)))) := by
    rw [xWs_at hk, xEnt_obj ho (xcl_lt hq), xad_lt hkl]
  have hK := hF.2.2.2.2.2.2.2.2.1.1
  have hts := hF.2.2.2.2.2.1
  have hown := hF.2.2.2.2.1
  have hap := va_apart (own := C) (D := G.2.1) (cl := xcl) (tys := xtys G) hts hin ty0 hty0 hnm hK hq
  obtain ⟨r, h1, cell, q1, q2, q3, q4⟩ := hH.1 k _ he
  have hr : r = (C, T, N) := Option.some.inj (h1.symm.trans hq)
  subst hr
  obtain ⟨hS, hfc, kC, hkC, hkind⟩ := hK.1 ci _ hq
  obtain ⟨cf, kf, fi, fd, hi, hsl⟩ := hS j hjn
  have hlay := hts _ (hin _ (u_in_lay hjn))
  unfold u_lay at hlay
  rw [if_pos hfin] at hlay
  have hst := (u_facts hfc hkC (u_lays hts hin hjn) hi).1
  have hcf : m.cls = cf := by
    obtain ⟨_, _, c', _, _, _, -, -, hf', -, -, -, hown2, -⟩ := Cond.laysFinal_spec hlay
    have e1 : c' = cf := by have := hi.symm.trans hf'; simp at this; exact this.1.symm
    rw [hdecl] at hown2
    rw [← e1]; exact Option.some.inj (hown.symm.trans hown2)
  have h6 := u_fits hfc hkC hkind (Or.inr hlay) hi hty (xnarrow (G := G) hnw) (xfits (G := G) hfit)
  refine W.putFinK hF.1 hF.2.1 hown (hts _ (xtbl_in hlk rfl)) hi hst hcf (hF.2.2.2.2.2.2.2.1 hi0) (by rw [q2]; exact h6) q1 q3 (by rw [hsl]; exact k2_hasslot (q4 j hjn)) rfl rfl hd fun H' e1 e2 e3 => ?_
  rw [hsl] at e1 ⊢
  rw [xad_lt hkl] at e1 e3 ⊢
  refine kk G p la e R s m args below meth c Z n0 w0 hF hret H' _ ls (xHp_set hH hk xup_ne ?_ e2 e3) (xLocs hl (fun q hq' => by rw [List.mem_singleton.mp hq']; exact Nat.le_add_right _ _)) hn hw hls
  rw [xEnt_obj (h := (n, K, xup f k j v)) ho (xcl_lt hq), show (fun j' => xcv G (xup f k j v k j')) = (fun b => xcv G (if b = j then v else f k b)) by rw [xup_at], ← xmapset]
  exact ⟨_, hq, t_OB.to (V := updV (vp_V ((List.range sz).map (fun j => xcv G (f k j)))) j (xcv G v)) ⟨_, e1, q2, q3, t_set q4 hap hjn _⟩ (fun b _ => vp_updV_set (by simpa using hj) _ b)⟩
theorem V_iaload {k len : Nat} {i : Int32} (hd : decode M.2.1 pc = .ok (.iaload, 1)) (hk : k < n.1) (ho : K k = (100, len)) (hin : vp_in i len)
    (kk : V d nM wM M (pc + 1) l (.int (xi (f k i.toNatClampNeg)) :: st) (n, K, f) Q) : V d nM wM M pc l (.int i :: .ref k :: st) (n, K, f) Q := by
  intro G p la e R s m args below meth c Z n0 w0 hF hret H locs ls hH hl hn hw hls
  have hkl : k < 1000000 := Nat.lt_of_lt_of_le hk hH.2.2.1
  have he : (xWs G (n, K, f))[k]? = some (xad G k, .inl (G.2.2.1 0, len, .inl (fun j => xi (f k j)))) := by
    rw [xWs_at hk, xEnt_int ho, xad_lt hkl]
  exact va_iald hF.1 hF.2.1 hF.2.2.2.2.2.2.2.2.1.1 hH.1 k 0 he rfl hin hd (kk G p la e R s m args below meth c Z n0 w0 hF hret H locs ls hH hl hn hw hls)
theorem V_iastore {k len : Nat} {i x : Int32} (hd : decode M.2.1 pc = .ok (.iastore, 1)) (hk : k < n.1) (ho : K k = (100, len)) (hin : vp_in i len)
    (kk : V d nM wM M (pc + 1) l st (n, K, xup f k i.toNatClampNeg (.int x)) Q) : V d nM wM M pc l (.int x :: .int i :: .ref k :: st) (n, K, f) Q := by
  intro G p la e R s m args below meth c Z n0 w0 hF hret H locs ls hH hl hn hw hls
  have hkl : k < 1000000 := Nat.lt_of_lt_of_le hk hH.2.2.1
  have he : (xWs G (n, K, f))[k]? = some (xad G k, .inl (G.2.2.1 0, len, .inl (fun j => xi (f k j)))) := by
    rw [xWs_at hk, xEnt_int ho, xad_lt hkl]
  have hK := hF.2.2.2.2.2.2.2.2.1.1
  refine W.iast hF.1 hF.2.1 (hH.1 k _ he) ((hK.2 0 _ rfl).1 len (fun j => .int (xi (f k j)))) (fun q => by cases q) (by show ¬ (i < 0 ∨ (arrV _ _ _).slots.size ≤ _); rw [arrV_size]; exact hin) rfl rfl hd fun H1 e1 z oq => ?_
  rw [xad_lt hkl] at e1 oq ⊢
  refine kk G p la e R s m args below meth c Z n0 w0 hF hret H1 _ ls (xHp_set hH hk xup_ne ?_ z oq) (xLocs hl (fun q hq' => by rw [List.mem_singleton.mp hq']; exact Nat.le_add_right _ _)) hn hw hls
  rw [xEnt_int (h := (n, K, xup f k i.toNatClampNeg (.int x))) ho]
  have hx : (fun j => xi (xup f k i.toNatClampNeg (.int x) k j)) = upd (fun j => xi (f k j)) i.toNatClampNeg x := by
    funext j
    rw [xup_at]
    by_cases hj : j = i.toNatClampNeg
    · subst hj
      simp [upd, xi]
    · simp [upd, hj]
  show H1[G.1 + k]? = some (vp_cell (G.2.2.1 0) (len, .inl (fun j => xi (xup f k i.toNatClampNeg (.int x) k j))))
  rw [hx]
  refine e1.trans ?_
  rw [vp_cell_i, vp_cell_i, arrV_store]
  congr 2
  funext q
  by_cases hq : q = i.toNatClampNeg
  · subst hq
    simp [updV, upd]
  · simp [updV, upd, hq]
theorem V_ialoadR {a len : Nat} {i : Int32} (hd : decode M.2.1 pc = .ok (.iaload, 1)) (ho : K (1000000 + a) = (103, len)) (hin : vp_in i len)
    (kk : V d nM wM M (pc + 1) l (.int (xi (f (1000000 + a) i.toNatClampNeg)) :: st) (n, K, f) Q) : V d nM wM M pc l (.int i :: .ref (1000000 + a) :: st) (n, K, f) Q := by
  intro G p la e R s m args below meth c Z n0 w0 hF hret H locs ls hH hl hn hw hls
  obtain ⟨scr, h1, h2, h3, h4, h6, h5, -⟩ := hH.2.2.2.1 a len ho
  have had : xad G (1000000 + a) = G.2.2.2 a := by unfold xad; rw [if_neg (by omega), Nat.add_sub_cancel_left]
  have hi : i.toNatClampNeg < len := Nat.not_le.mp fun q => hin (Or.inr q)
  refine W.iald (a := G.2.2.2 a) hF.1 hF.2.1 h1 h2 h3 (fun q => hin (q.imp id (Nat.le_trans h4))) (h5 _ hi) rfl ?_ hd (kk G p la e R s m args below meth c Z n0 w0 hF hret H locs ls hH hl hn hw hls)
  show _ :: Value.ref (xad G (1000000 + a)) :: _ = _
  rw [had]
  rfl
theorem V_alenR {a len : Nat} (hd : decode M.2.1 pc = .ok (.arraylength, 1)) (ho : K (1000000 + a) = (103, len))
    (kk : V d nM wM M (pc + 1) l (.int (Int32.ofNat len) :: st) (n, K, f) Q) : V d nM wM M pc l (.ref (1000000 + a) :: st) (n, K, f) Q := by
  intro G p la e R s m args below meth c Z n0 w0 hF hret H locs ls hH hl hn hw hls
  obtain ⟨scr, h1, h2, h3, h4, h6, h5, -⟩ := hH.2.2.2.1 a len ho
  have had : xad G (1000000 + a) = G.2.2.2 a := by unfold xad; rw [if_neg (by omega), Nat.add_sub_cancel_left]
  refine W.alen (a := G.2.2.2 a) (n := Int32.ofNat len) hF.1 hF.2.1 h1 h2 h6 rfl ?_ hd (kk G p la e R s m args below meth c Z n0 w0 hF hret H locs ls hH hl hn hw hls)
  show Value.ref (xad G (1000000 + a)) :: _ = _
  rw [had]
theorem V_alen {k len t : Nat} (hd : decode M.2.1 pc = .ok (.arraylength, 1)) (hk : k < n.1) (ho : K k = (100 + t, len)) (ht : t < 3)
    (kk : V d nM wM M (pc + 1) l (.int (Int32.ofNat len) :: st) (n, K, f) Q) : V d nM wM M pc l (.ref k :: st) (n, K, f) Q := by
  intro G p la e R s m args below meth c Z n0 w0 hF hret H locs ls hH hl hn hw hls
  have hkl : k < 1000000 := Nat.lt_of_lt_of_le hk hH.2.2.1
  have hk2 := kk G p la e R s m args below meth c Z n0 w0 hF hret H locs ls hH hl hn hw hls
  rcases (show t = 0 ∨ t = 1 ∨ t = 2 by omega) with rfl | rfl | rfl
  · exact va_alen (x := (len, .inl (fun j => xi (f k j)))) (t0 := 0) hF.1 hF.2.1 hF.2.2.2.2.2.2.2.2.1.1 hH.1 k (by rw [xWs_at hk, xEnt_int ho, xad_lt hkl]) rfl rfl hd hk2
  · exact va_alen (x := (len, .inr (.inr (.inr (.inr (fun j => xrf G (f k j))))))) (t0 := 1) hF.1 hF.2.1 hF.2.2.2.2.2.2.2.2.1.1 hH.1 k (by rw [xWs_at hk, xEnt_sheets ho, xad_lt hkl]) rfl rfl hd hk2
  · exact va_alen (x := (len, .inr (.inr (.inr (.inr (fun j => xrf G (f k j))))))) (t0 := 2) hF.1 hF.2.1 hF.2.2.2.2.2.2.2.2.1.1 hH.1 k (by rw [xWs_at hk, xEnt_cars ho, xad_lt hkl]) rfl rfl hd hk2
theorem V_aaload {k len t : Nat} {i : Int32} {v : Value} (hd : decode M.2.1 pc = .ok (.aaload, 1)) (hk : k < n.1) (ho : K k = (101 + t, len)) (ht : t < 2) (hin : vp_in i len) (hv : f k i.toNatClampNeg = v) (hr : v = .null ∨ ∃ a, v = .ref a)
    (kk : V d nM wM M (pc + 1) l (v :: st) (n, K, f) Q) : V d nM wM M pc l (.int i :: .ref k :: st) (n, K, f) Q := by
  intro G p la e R s m args below meth c Z n0 w0 hF hret H locs ls hH hl hn hw hls
  have hkl : k < 1000000 := Nat.lt_of_lt_of_le hk hH.2.2.1
  have hk2 := kk G p la e R s m args below meth c Z n0 w0 hF hret H locs ls hH hl hn hw hls
  have hx : va_rf (xrf G (f k i.toNatClampNeg)) = xcv G v := by
    rw [hv]
    rcases hr with rfl | ⟨a, rfl⟩ <;> rfl
  rcases (show t = 0 ∨ t = 1 by omega) with rfl | rfl
  · refine va_aldq (f := fun j => xrf G (f k j)) (t0 := 1) hF.1 hF.2.1 hF.2.2.2.2.2.2.2.2.1.1 hH.1 k (by rw [xWs_at hk, xEnt_sheets ho, xad_lt hkl]) rfl hin hd ?_
    rw [hx]; exact hk2
  · refine va_aldq (f := fun j => xrf G (f k j)) (t0 := 2) hF.1 hF.2.1 hF.2.2.2.2.2.2.2.2.1.1 hH.1 k (by rw [xWs_at hk, xEnt_cars ho, xad_lt hkl]) rfl hin hd ?_
    rw [hx]; exact hk2
/-- static fields: two, and nobody writes them -/
theorem V_getsA {idx : Nat} (hd : decode M.2.1 pc = .ok (.getstatic idx, 3)) (hc : Cond.fieldLink M.1.cls idx "PastTheRim$Kinds" "ABOVE" "[I" ∈ lw_tbl)
    (kk : V d nM wM M (pc + 3) l (.ref 1000001 :: st) (n, K, f) Q) : V d nM wM M pc l st (n, K, f) Q := by
  intro G p la e R s m args below meth c Z n0 w0 hF hret H locs ls hH hl hn hw hls
  obtain ⟨cf, kf, fi, fd, a, cell, h1, h2, h3, h4, h5, h6, h7, h8⟩ := hH.2.2.2.2.1
  refine W.gets hF.1 hF.2.1 hF.2.2.2.2.1 (hF.2.2.2.2.2.1 _ (xtbl_in hc rfl)) h1 h2 h3 h4 h5 (fun e => by rw [e] at h6; cases h6) h7 rfl hd ?_
  exact kk G p la e R s m args below meth c Z n0 w0 hF hret H locs ls hH hl hn hw hls
theorem V_getsB {idx : Nat} (hd : decode M.2.1 pc = .ok (.getstatic idx, 3)) (hc : Cond.fieldLink M.1.cls idx "PastTheRim$Voices" "BODIES" "[I" ∈ lw_tbl)
    (kk : V d nM wM M (pc + 3) l (.ref 1000002 :: st) (n, K, f) Q) : V d nM wM M pc l st (n, K, f) Q := by
  intro G p la e R s m args below meth c Z n0 w0 hF hret H locs ls hH hl hn hw hls
  obtain ⟨cf, kf, fi, fd, a, cell, h1, h2, h3, h4, h5, h6, h7, h8⟩ := hH.2.2.2.2.2
  refine W.gets hF.1 hF.2.1 hF.2.2.2.2.1 (hF.2.2.2.2.2.1 _ (xtbl_in hc rfl)) h1 h2 h3 h4 h5 (fun e => by rw [e] at h6; cases h6) h7 rfl hd ?_
  exact kk G p la e R s m args below meth c Z n0 w0 hF hret H locs ls hH hl hn hw hls
theorem V_ireturn {v : Int32} {ty : FieldType} (hd : decode M.2.1 pc = .ok (.ireturn, 1)) (hr : M.2.2.2 = some ty) (hn : narrow ty (.int v) = .int v) (hq : Q (some (.int v)) (n, K, f)) : V d nM wM M pc l (.int v :: []) (n, K, f) Q := by
  intro G p la e R s m args below meth c Z n0 w0 hF hret H locs ls hH hl hn0 hw hls
  exact hret (some (.int v)) (n, K, f) H locs pc ls hq (Or.inl ⟨v, ty, rfl, hd, hr, hn⟩) hH hl hn0 hw
theorem V_areturn {v : Value} {ty : FieldType} (hd : decode M.2.1 pc = .ok (.areturn, 1)) (hr : M.2.2.2 = some ty) (ht : (∃ n, ty = .object n) ∨ ∃ t, ty = .array t) (hv : v = .null ∨ ∃ a, v = .ref a) (hq : Q (some v) (n, K, f)) : V d nM wM M pc l (v :: []) (n, K, f) Q := by
  intro G p la e R s m args below meth c Z n0 w0 hF hret H locs ls hH hl hn0 hw hls
  exact hret (some v) (n, K, f) H locs pc ls hq (Or.inr (Or.inl ⟨v, ty, rfl, hv, hd, hr, ht⟩)) hH hl hn0 hw
theorem V_return (hd : decode M.2.1 pc = .ok (.return_, 1)) (hr : M.2.2.2 = none) (hq : Q none (n, K, f)) : V d nM wM M pc l [] (n, K, f) Q := by
  intro G p la e R s m args below meth c Z n0 w0 hF hret H locs ls hH hl hn0 hw hls
  exact hret none (n, K, f) H locs pc ls hq (Or.inr (Or.inr ⟨rfl, hd, hr⟩)) hH hl hn0 hw
end XM
