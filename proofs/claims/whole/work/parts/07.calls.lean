/-! CALLS: a frame's judgement from its entry is a contract; a contract is used at a call -/
section XC
/-- the locals at a method's entry -/
def xFlat (as : List Value) : xL := as.flatMap (fun v => if v.category = 2 then [some v, none] else [some v])
def xEntry (as : List Value) (n : Nat) : xL := xFlat as ++ List.replicate (n - (xFlat as).length) none
def xws (M : xM) : List Cond := .code M.1 M.2.1 M.2.2.1 M.2.2.2 :: xTbl
def xrm (d mc ms : Nat) : Room := { frames := d, cells := mc, slots := ms, locals := 64 * d }
def xPc (G : xG) (as : List Value) (h : xH) : Array Value → State → Prop := va_Pc (as.map (xcv G)) (fun U => xHp G U h U.heap ∧ xKK G U)
def xQc (G : xG) (Q : Option Value → xH → Prop) : Array Value → State → Outcome → State → Prop := fun _ _ o t => ∃ r h', Q r h' ∧ o = .returned (r.map (xcv G)) ∧ xHp G t h' t.heap
def xfree (G : xG) : Addr → Prop := fun q => G.1 ≤ q
theorem xFlat_sl {G : xG} (as : List Value) : (lg_sl (as.map (xcv G))).length = (xFlat as).length := by
  induction as with
  | nil => rfl
  | cons v t ih =>
    have h1 : xFlat (v :: t) = (if v.category = 2 then [some v, none] else [some v]) ++ xFlat t := rfl
    have h2 : lg_sl ((v :: t).map (xcv G)) = (if (xcv G v).category = 2 then [.val (xcv G v), .second] else [.val (xcv G v)]) ++ lg_sl (t.map (xcv G)) := rfl
    rw [h1, h2, List.length_append, List.length_append, ih, xcv_cat]
    by_cases hc : v.category = 2 <;> simp [hc]
theorem xFlat_args {G : xG} : ∀ (as : List Value) (i0 i : Nat) (v : Value), (xFlat as)[i]? = some (some v) → (i0 + i, xcv G v) ∈ lv_args i0 (as.map (xcv G)) := by
  intro as
  induction as with
  | nil => intro i0 i v h; simp [xFlat] at h
  | cons w t ih =>
    intro i0 i v h
    have h1 : xFlat (w :: t) = (if w.category = 2 then [some w, none] else [some w]) ++ xFlat t := rfl
    rw [h1] at h
    show _ ∈ (i0, xcv G w) :: lv_args (if (xcv G w).category = 2 then i0 + 2 else i0 + 1) (t.map (xcv G))
    rw [xcv_cat]
    by_cases hc : w.category = 2
    · rw [if_pos hc] at h ⊢
      rcases i with _ | _ | i
      · simp at h
        subst h
        exact List.mem_cons_self
      · simp at h
      · have h2 : (xFlat t)[i]? = some (some v) := by simpa using h
        have := ih (i0 + 2) i v h2
        rw [show i0 + (i + 1 + 1) = i0 + 2 + i by omega]
        exact List.mem_cons_of_mem _ this
    · rw [if_neg hc] at h ⊢
      rcases i with _ | i
      · simp at h
        subst h
        exact List.mem_cons_self
      · have h2 : (xFlat t)[i]? = some (some v) := by simpa using h
        have := ih (i0 + 1) i v h2
        rw [show i0 + (i + 1) = i0 + 1 + i by omega]
        exact List.mem_cons_of_mem _ this
theorem xEntry_ls {G : xG} {as : List Value} {n : Nat} (hl : (xFlat as).length ≤ n) : xLs G n (xEntry as n) ((lg_sl (as.map (xcv G)) ++ List.replicate (n - (lg_sl (as.map (xcv G))).length) Slot.unset).toArray) := by
  have h := lv_entry (as.map (xcv G)) (n := n) (by rw [xFlat_sl]; exact hl)
  refine ⟨h.1, h.2.1, by unfold xEntry; rw [List.length_append, List.length_replicate]; omega, fun i v hi => ?_⟩
  unfold xEntry at hi
  by_cases hlt : i < (xFlat as).length
  · rw [List.getElem?_append_left hlt] at hi
    have := h.2.2 _ (xFlat_args (G := G) as 0 i v hi)
    simpa using this
  · rw [List.getElem?_append_right (by omega), List.getElem?_replicate] at hi
    split at hi <;> simp at hi
/-! moving a world's words to another state -/
theorem xN.warm {s U : State} (hW : s.WarmedH U.vm) (h : xN s) : xN U := by
  intro w hw hn
  have h1 := h w hw hn
  cases w with
  | fieldLinkNest a i b n d host => exact va_Nw.warmF hW h1
  | methodLinkNest a i y host => exact va_Nw.warmM hW h1
  | arrayOver ty =>
    have h2 : ∀ ty, Cond.arrayOver ty ∈ lw_tbl → ∃ C, ty = .object C := by
      intro ty hm
      have h3 : ∀ w ∈ lw_tbl, (match w with | .arrayOver (.object _) => true | .arrayOver _ => false | _ => true) = true := by decide +kernel
      have h4 := h3 _ hm
      cases ty <;> first | exact ⟨_, rfl⟩ | cases h4
    obtain ⟨C, rfl⟩ := h2 ty hw
    exact va_AO.moved hW.alike h1
  | _ => cases hn
theorem xN.calling {U : State} {g : JFrame} {mk : MethodId} {a : Array Value} (h : xN U) : xN (U.calling g mk a) := by
  intro w hw hn
  have h1 := h w hw hn
  cases w with
  | arrayOver ty => exact h1
  | _ => first | exact va_Nw.same rfl (rfl : U.vm = (U.calling g mk a).vm) h1 | cases hn
theorem xKK.warm {G : xG} {s U : State} (hW : s.WarmedH U.vm) (h : xKK G s) : xKK G U := ⟨va_K.moved hW.alike h.1, h.2.warm hW⟩
theorem xKK.calling {G : xG} {U : State} {g : JFrame} {mk : MethodId} {a : Array Value} (h : xKK G U) : xKK G (U.calling g mk a) := ⟨va_K.moved (u := U) (U := U.calling g mk a) (Vm.Alike.refl U.vm) h.1, h.2.calling⟩
theorem xHp.moved {G : xG} {s U : State} {h : xH} {H : Heap} (hvm : s.vm.Alike U.vm) (hH : xHp G s h H) : xHp G U h H := by
  obtain ⟨h1, h2, h3, h4, h5, h6⟩ := hH
  exact ⟨h1, h2, h3, fun i L hi => (h4 i L hi).moved hvm, h5.moved hvm, h6.moved hvm⟩
theorem xPc_blind {G : xG} {as : List Value} {h : xH} : FrameBlind (xPc G as h) := fun a U g mk q => ⟨q.1, xHp.moved (s := U) (U := U.calling g mk a) (Vm.Alike.refl U.vm) q.2.1, q.2.2.calling⟩
theorem xws_good {M : xM} {n : Nat} (h : xMok M n) : GoodIn xTbl (xws M) := by
  intro w hw
  rcases List.mem_cons.mp hw with rfl | hw
  · exact ⟨xtbl_in h.1 rfl, Or.inl rfl⟩
  · exact xtbl_good w hw
/-- a frame's judgement from its entry on is a contract -/
theorem xMet {d nM wM : Nat} {M : xM} {la : Launch} {as : List Value} {h : xH} {Q : Option Value → xH → Prop} {k : Nat} (G : xG) (hM : xMok M k) (hlen : (xFlat as).length ≤ M.2.2.1)
    (hV : V d nM wM M 0 (xEntry as M.2.2.1) [] h Q) (hq : ∀ r h', Q r h' → h'.1 = (nM, wM)) (h1 : h.1.1 ≤ nM) (h2 : h.1.2 ≤ wM) :
    Met la M.1 (xws M) (xrm d (nM - h.1.1) (wM - h.1.2)) (xPc G as h) (xQc G Q) (nM - h.1.1) (wM - h.1.2) (xfree G) := by
  refine Met.ofW (cc := M.2.1) (maxL := M.2.2.1) (ret := M.2.2.2) hM.2.2.1 rfl ?_
  intro p e s m args below meth c s₁ B hml hv
  obtain ⟨rfl, hHp, hKK⟩ := hv
  have hts := atoms_spec (ws := xws M) B.pre
  have hlocks := B.notSynchronized
  have hF : xFix G d nM wM M p s m ((as.map (xcv G)).toArray) meth c (headSpec (xws M) (xrm d (nM - h.1.1) (wM - h.1.2))).room h.1.1 h.1.2 :=
    ⟨B.exec, B.bytes, hml, B.returns, findClass_of_methodNamed B.named, fun w hw => hts w (List.mem_cons_of_mem _ hw), hlocks, fun h => (name_of_methodNamed B.named B.method).1.trans h, hKK, Nat.le_refl d, Nat.le_refl (64 * d), by show nM ≤ h.1.1 + (nM - h.1.1); omega, by show wM ≤ h.1.2 + (wM - h.1.2); omega⟩
  rw [lg_entry_eq]
  have hz := hV G p la e _ s m _ below meth c (MQ below (xQc G Q) ((as.map (xcv G)).toArray) s (nM - h.1.1) (wM - h.1.2) (xfree G)) h.1.1 h.1.2 hF ?_ s.heap [] _ hHp (fun q hq => by cases hq) (Nat.le_refl _) (Nat.le_refl _) (xEntry_ls hlen)
  · rw [Nat.sub_self, Nat.sub_self] at hz
    exact hz
  · intro r h' H' locs' pc' ls' hQ hR hH' hl' hn' hw'
    have e1 := hq r h' hQ
    rw [show h'.1.1 = nM by rw [e1], show h'.1.2 = wM by rw [e1]]
    have hQc : ∀ t : State, t.heap = H' → s.WarmedH t.vm → xQc G Q ((as.map (xcv G)).toArray) s (.returned (r.map (xcv G))) t := fun t ht hW => ⟨r, h', hQ, rfl, by rw [ht]; exact xHp.moved hW.alike hH'⟩
    rcases hR with ⟨v, ty, rfl, hd, hty, hnr⟩ | ⟨v, ty, rfl, hvr, hd, hty, href⟩ | ⟨rfl, hd, hty⟩
    · exact W.zret hF.1 hF.2.1 (hF.2.2.2.1.trans hty) hnr hQc hl' hd hlocks
    · refine W.aret hF.1 hF.2.1 (hF.2.2.2.1.trans hty) href ?_ hQc hl' hd hlocks
      rcases hvr with rfl | ⟨a, rfl⟩
      · exact Or.inl rfl
      · exact Or.inr ⟨_, rfl⟩
    · exact W.vret hF.1 hF.2.1 (hF.2.2.2.1.trans hty) hQc hl' hd hlocks
/-- behind a call -/
theorem xback {d nM wM : Nat} {M : xM} {pc : Nat} {l : xL} {st0 st : List Value} {h : xH} {Q Q' : Option Value → xH → Prop} {n' w' : Nat}
    {G : xG} {p : Program} {la : Launch} {e : Env} {R : Room} {s : State} {m : MethodId} {args : Array Value} {below : List Frame} {meth : Method} {c : Code} {Z : State → Prop} {n0 w0 : Nat} {H : Heap} {locs : List Loc} {ls : Array Slot} {a : Array Value}
    (hF : xFix G d nM wM M p s m args meth c R n0 w0)
    (hret : ∀ (r : Option Value) (h' : xH) (H' : Heap) (locs' : List Loc) (pc' : Nat) (ls' : Array Slot), Q r h' → xRet M pc' r → xHp G s h' H' → (∀ q ∈ locs', G.1 ≤ q.base) → n0 ≤ h'.1.1 → w0 ≤ h'.1.2 → W p la e R s m args below meth c H' locs' (h'.1.1 - n0) (h'.1.2 - w0) Z (F0 m pc' ls' ((r.map (xcv G)).toList)))
    (hl : ∀ q ∈ locs, G.1 ≤ q.base) (hn : n0 ≤ h.1.1) (hw : w0 ≤ h.1.2) (hls : xLs G M.2.2.1 l ls) (h1 : h.1.1 ≤ n') (h2 : h.1.2 ≤ w') (hq : ∀ r h', Q' r h' → h'.1 = (n', w'))
    (hr : va_Run p la e R s m args below meth c H locs (h.1.1 - n0) (h.1.2 - w0) (n' - h.1.1) (w' - h.1.2) (F0 m pc ls (st0.map (xcv G))) (st.map (xcv G)) (xQc G Q' a) (xfree G))
    (k : ∀ r h', Q' r h' → V d nM wM M (pc + 3) l (r.toList ++ st) h' Q) : W p la e R s m args below meth c H locs (h.1.1 - n0) (h.1.2 - w0) Z (F0 m pc ls (st0.map (xcv G))) := by
  intro T hT X
  obtain ⟨v, st₀, t, T', L, h0, X', hL, e1, e2, ⟨r, h', hQ, ho, hHp⟩, stp⟩ := hr T hT X
  have hv : v = r.map (xcv G) := by cases ho; rfl
  subst hv
  have e3 := hq r h' hQ
  have e4 : h'.1.1 = n' := by rw [e3]
  have e5 : h'.1.2 = w' := by rw [e3]
  have hW : s.vm.Alike T'.vm := X'.warmed.alike
  rw [e2] at hW
  have hH' : xHp G s h' T'.heap := by rw [e1]; exact xHp.moved hW.symm hHp
  have hk := k r h' hQ G p la e R s m args below meth c Z n0 w0 hF hret T'.heap (locs ++ L) ls hH' (xLocs hl hL) (by omega) (by omega) hls
  have hst : (r.toList ++ st).map (xcv G) = (r.map (xcv G)).toList ++ st.map (xcv G) := by cases r <;> rfl
  rw [hst] at hk
  rw [show h.1.1 - n0 + (n' - h.1.1) = h'.1.1 - n0 by omega, show h.1.2 - w0 + (w' - h.1.2) = h'.1.2 - w0 by omega] at X'
  obtain ⟨t2, a1, b1⟩ := hk T' rfl X'
  exact ⟨t2, stp t2 a1, b1⟩
section
variable {d nM wM : Nat} {M : xM} {pc : Nat} {l : xL} {st0 st : List Value} {h : xH} {Q : Option Value → xH → Prop}
/-- a call of an instance's method: the receiver is of the class itself -/
theorem V_callV {M' : xM} {Q' : Option Value → xH → Prop} {idx b ci n' w' k : Nat} {q : vw_C} (As : List Value) (hd : decode M.2.1 pc = .ok (.invokevirtual idx, 3)) (hst : st0 = As.reverse ++ .ref b :: st) (hk : As.length = k) (hlk : xLk M.1.cls idx M') (hM : xVir M' k)
    (hb : b < h.1.1) (ho : (h.2.1 b).1 = ci) (hci : xcl[ci]? = some q) (hcn : M'.1.cls = q.1) (hlen : (xFlat (.ref b :: As)).length ≤ M'.2.2.1) (hcat : (st.map fun v => v.category).sum ≤ 8) (h1 : h.1.1 ≤ n') (h2 : h.1.2 ≤ w') (h3 : n' ≤ nM) (h4 : w' ≤ wM)
    (hV : V d n' w' M' 0 (xEntry (.ref b :: As) M'.2.2.1) [] h Q') (hq : ∀ r h', Q' r h' → h'.1 = (n', w')) (kk : ∀ r h', Q' r h' → V (d + 1) nM wM M (pc + 3) l (r.toList ++ st) h' Q) : V (d + 1) nM wM M pc l st0 h Q := by
  intro G p la e R s m args below meth c Z n0 w0 hF hret H locs ls hH hl hn hw hls
  obtain ⟨hMo, hins, hsel⟩ := hM
  have hkl : b < 1000000 := Nat.lt_of_lt_of_le hb hH.2.2.1
  have hts := hF.2.2.2.2.2.1
  have hK := hF.2.2.2.2.2.2.2.2.1
  have hMet := xMet (la := la) G hMo hlen hV hq h1 h2
  have hR : (xrm d (n' - h.1.1) (w' - h.1.2)).frames + 1 ≤ R.frames ∧ 8 + (M'.2.2.1 + 11) + (xrm d (n' - h.1.1) (w' - h.1.2)).locals ≤ R.locals := by
    have a1 := hF.2.2.2.2.2.2.2.2.2.1
    have a2 := hF.2.2.2.2.2.2.2.2.2.2.1
    have a3 := hMo.2.2.2.2
    exact ⟨a1, by show 8 + (M'.2.2.1 + 11) + 64 * d ≤ R.locals; omega⟩
  have hrecv : ∃ cellB : Cell, H[xad G b]? = some cellB ∧ cellB.vm.isStatics = false ∧ s.vm.findClass M'.1.cls = some cellB.cls := by
    rw [hcn, xad_lt hkl]
    exact va_recv hK.1 hH.1 hci (by rw [xWs_at hb, xEnt_obj (sz := (h.2.1 b).2) (by rw [← ho]) (xcl_lt hci)])
  have hp : PreV s H M'.1.cls (xad G b) (xPc G (.ref b :: As) h) (As.map (xcv G)) := ⟨xPc_blind, hrecv, fun U hU hW => ⟨rfl, by rw [hU]; exact xHp.moved hW.alike hH, hK.warm hW⟩⟩
  have hcell : (h.1.1 - n0) + (n' - h.1.1) ≤ R.cells ∧ (h.1.2 - w0) + (w' - h.1.2) ≤ R.slots := by
    have a1 := hF.2.2.2.2.2.2.2.2.2.2.2.1
    have a2 := hF.2.2.2.2.2.2.2.2.2.2.2.2
    omega
  have hstk : (F0 m pc ls (st0.map (xcv G))).stack = (As.map (xcv G)).reverse ++ .ref (xad G b) :: st.map (xcv G) := by
    show st0.map (xcv G) = _
    rw [hst, List.map_append, List.map_reverse]
    rfl
  have hcat' : 2 * (F0 m pc ls (st0.map (xcv G))).monitorRoom + ((st.map (xcv G)).map fun v => v.category).sum ≤ 8 := lv_room (by rw [xcats]; exact hcat)
  refine xback (st := st) hF hret hl hn hw hls h1 h2 hq (a := (Value.ref (xad G b) :: As.map (xcv G)).toArray) ?_ kk
  have hini := hts _ (xtbl_in hMo.2.1 rfl)
  have S : CallFix p m c M.2.1 M.2.2.1 s args xTbl M.1.cls := ⟨hF.1, hF.2.1, hF.2.2.1, hF.2.2.2.2.1, hts⟩
  rcases hlk with hlk | ⟨host, hlk⟩
  · exact va_runV S hMet ⟨callB_of k hts (xws_good hMo) rfl rfl rfl hini (hts _ (xtbl_in hlk rfl)) hMo.2.2.2.1 hR, hts _ (xtbl_in hins rfl), hts _ (xtbl_in hsel rfl)⟩ hp rfl (by rw [List.length_map]; exact hk) hls.1 hstk hcat' hd hcell
  · exact va_runVN S hMet ⟨va_cnB k hts (xws_good hMo) rfl rfl rfl (xnw hK hlk rfl) hini hMo.2.2.2.1 hR, hts _ (xtbl_in hins rfl), hts _ (xtbl_in hsel rfl)⟩ hp rfl (by rw [List.length_map]; exact hk) hls.1 hstk hcat' hd hcell
theorem V_callS {M' : xM} {Q' : Option Value → xH → Prop} {idx n' w' k : Nat} (As : List Value) (hd : decode M.2.1 pc = .ok (.invokestatic idx, 3)) (hst : st0 = As.reverse ++ st) (hk : As.length = k) (hlk : xLk M.1.cls idx M') (hM : xSta M' k)
    (hlen : (xFlat As).length ≤ M'.2.2.1) (hcat : (st.map fun v => v.category).sum ≤ 8) (h1 : h.1.1 ≤ n') (h2 : h.1.2 ≤ w') (h3 : n' ≤ nM) (h4 : w' ≤ wM)
    (hV : V d n' w' M' 0 (xEntry As M'.2.2.1) [] h Q') (hq : ∀ r h', Q' r h' → h'.1 = (n', w')) (kk : ∀ r h', Q' r h' → V (d + 1) nM wM M (pc + 3) l (r.toList ++ st) h' Q) : V (d + 1) nM wM M pc l st0 h Q := by
  intro G p la e R s m args below meth c Z n0 w0 hF hret H locs ls hH hl hn hw hls
  obtain ⟨hMo, hsta⟩ := hM
  have hts := hF.2.2.2.2.2.1
  have hK := hF.2.2.2.2.2.2.2.2.1
  have hMet := xMet (la := la) G hMo hlen hV hq h1 h2
  have hR : (xrm d (n' - h.1.1) (w' - h.1.2)).frames + 1 ≤ R.frames ∧ 8 + (M'.2.2.1 + 11) + (xrm d (n' - h.1.1) (w' - h.1.2)).locals ≤ R.locals := by
    have a1 := hF.2.2.2.2.2.2.2.2.2.1
    have a2 := hF.2.2.2.2.2.2.2.2.2.2.1
    have a3 := hMo.2.2.2.2
    exact ⟨a1, by show 8 + (M'.2.2.1 + 11) + 64 * d ≤ R.locals; omega⟩
  have hp : PreS s H (xPc G As h) (As.map (xcv G)) := ⟨xPc_blind, fun U hU hW => ⟨rfl, by rw [hU]; exact xHp.moved hW.alike hH, hK.warm hW⟩⟩
  have hcell : (h.1.1 - n0) + (n' - h.1.1) ≤ R.cells ∧ (h.1.2 - w0) + (w' - h.1.2) ≤ R.slots := by
    have a1 := hF.2.2.2.2.2.2.2.2.2.2.2.1
    have a2 := hF.2.2.2.2.2.2.2.2.2.2.2.2
    omega
  have hstk : (F0 m pc ls (st0.map (xcv G))).stack = (As.map (xcv G)).reverse ++ st.map (xcv G) := by
    show st0.map (xcv G) = _
    rw [hst, List.map_append, List.map_reverse]
  have hcat' : 2 * (F0 m pc ls (st0.map (xcv G))).monitorRoom + ((st.map (xcv G)).map fun v => v.category).sum ≤ 8 := lv_room (by rw [xcats]; exact hcat)
  refine xback (st := st) hF hret hl hn hw hls h1 h2 hq (a := (As.map (xcv G)).toArray) ?_ kk
  have hini := hts _ (xtbl_in hMo.2.1 rfl)
  have S : CallFix p m c M.2.1 M.2.2.1 s args xTbl M.1.cls := ⟨hF.1, hF.2.1, hF.2.2.1, hF.2.2.2.2.1, hts⟩
  rcases hlk with hlk | ⟨host, hlk⟩
  · exact va_runS S hMet ⟨callB_of k hts (xws_good hMo) rfl rfl rfl hini (hts _ (xtbl_in hlk rfl)) hMo.2.2.2.1 hR, hts _ (xtbl_in hsta rfl)⟩ hp rfl (by rw [List.length_map]; exact hk) hls.1 hstk hcat' hd hcell
  · exact va_runSN S hMet ⟨va_cnB k hts (xws_good hMo) rfl rfl rfl (xnw hK hlk rfl) hini hMo.2.2.2.1 hR, hts _ (xtbl_in hsta rfl), trivial⟩ hp rfl (by rw [List.length_map]; exact hk) hls.1 hstk hcat' hd hcell
theorem V_callI {M' : xM} {Q' : Option Value → xH → Prop} {idx b n' w' k : Nat} (As : List Value) (hd : decode M.2.1 pc = .ok (.invokespecial idx, 3)) (hst : st0 = As.reverse ++ .ref b :: st) (hk : As.length = k) (hlk : xLk M.1.cls idx M') (hM : xIni M' k)
    (hlen : (xFlat (.ref b :: As)).length ≤ M'.2.2.1) (hcat : (st.map fun v => v.category).sum ≤ 8) (h1 : h.1.1 ≤ n') (h2 : h.1.2 ≤ w') (h3 : n' ≤ nM) (h4 : w' ≤ wM)
    (hV : V d n' w' M' 0 (xEntry (.ref b :: As) M'.2.2.1) [] h Q') (hq : ∀ r h', Q' r h' → h'.1 = (n', w')) (kk : ∀ r h', Q' r h' → V (d + 1) nM wM M (pc + 3) l (r.toList ++ st) h' Q) : V (d + 1) nM wM M pc l st0 h Q := by
  intro G p la e R s m args below meth c Z n0 w0 hF hret H locs ls hH hl hn hw hls
  obtain ⟨hMo, hins, hnm, hrn⟩ := hM
  have hts := hF.2.2.2.2.2.1
  have hK := hF.2.2.2.2.2.2.2.2.1
  have hMet := xMet (la := la) G hMo hlen hV hq h1 h2
  have hR : (xrm d (n' - h.1.1) (w' - h.1.2)).frames + 1 ≤ R.frames ∧ 8 + (M'.2.2.1 + 11) + (xrm d (n' - h.1.1) (w' - h.1.2)).locals ≤ R.locals := by
    have a1 := hF.2.2.2.2.2.2.2.2.2.1
    have a2 := hF.2.2.2.2.2.2.2.2.2.2.1
    have a3 := hMo.2.2.2.2
    exact ⟨a1, by show 8 + (M'.2.2.1 + 11) + 64 * d ≤ R.locals; omega⟩
  have hp : PreS s H (xPc G (.ref b :: As) h) (.ref (xad G b) :: As.map (xcv G)) := ⟨xPc_blind, fun U hU hW => ⟨rfl, by rw [hU]; exact xHp.moved hW.alike hH, hK.warm hW⟩⟩
  have hcell : (h.1.1 - n0) + (n' - h.1.1) ≤ R.cells ∧ (h.1.2 - w0) + (w' - h.1.2) ≤ R.slots := by
    have a1 := hF.2.2.2.2.2.2.2.2.2.2.2.1
    have a2 := hF.2.2.2.2.2.2.2.2.2.2.2.2
    omega
  have hstk : (F0 m pc ls (st0.map (xcv G))).stack = (As.map (xcv G)).reverse ++ .ref (xad G b) :: st.map (xcv G) := by
    show st0.map (xcv G) = _
    rw [hst, List.map_append, List.map_reverse]
    rfl
  have hcat' : 2 * (F0 m pc ls (st0.map (xcv G))).monitorRoom + ((st.map (xcv G)).map fun v => v.category).sum ≤ 8 := lv_room (by rw [xcats]; exact hcat)
  refine xback (st := st) hF hret hl hn hw hls h1 h2 hq (a := (Value.ref (xad G b) :: As.map (xcv G)).toArray) ?_ kk
  have hini := hts _ (xtbl_in hMo.2.1 rfl)
  have S : CallFix p m c M.2.1 M.2.2.1 s args xTbl M.1.cls := ⟨hF.1, hF.2.1, hF.2.2.1, hF.2.2.2.2.1, hts⟩
  have hws : xws M' = Cond.code M'.1 M'.2.1 M'.2.2.1 none :: xTbl := by unfold xws; rw [hrn]
  rcases hlk with hlk | ⟨host, hlk⟩
  · exact va_runI S hMet ⟨callB_of k hts (xws_good hMo) hws rfl rfl hini (hts _ (xtbl_in hlk rfl)) hMo.2.2.2.1 hR, hnm, hts _ (xtbl_in hins rfl)⟩ hp rfl (by rw [List.length_map]; exact hk) hls.1 hstk hcat' hd hcell
  · exact va_runIN S hMet ⟨va_cnB k hts (xws_good hMo) hws rfl rfl (xnw hK hlk rfl) hini hMo.2.2.2.1 hR, hnm, hts _ (xtbl_in hins rfl)⟩ hp rfl (by rw [List.length_map]; exact hk) hls.1 hstk hcat' hd hcell
theorem V_mmax {idx : Nat} {x y : Int32} (hd : decode M.2.1 pc = .ok (.invokestatic idx, 3)) (hlk : Cond.methodLink M.1.cls idx Lib.Math.max.name ∈ lw_tbl) (hcat : (st.map fun v => v.category).sum ≤ 8) (h1 : h.1.1 ≤ nM) (h2 : h.1.2 ≤ wM)
    (kk : V (d + 1) nM wM M (pc + 3) l (.int (if x < y then y else x) :: st) h Q) : V (d + 1) nM wM M pc l (.int y :: .int x :: st) h Q := by
  intro G p la e R s m args below meth c Z n0 w0 hF hret H locs ls hH hl hn hw hls
  have hts := hF.2.2.2.2.2.1
  have a1 := hF.2.2.2.2.2.2.2.2.2.1
  have a2 := hF.2.2.2.2.2.2.2.2.2.2.1
  have a3 := hF.2.2.2.2.2.2.2.2.2.2.2.1
  have a4 := hF.2.2.2.2.2.2.2.2.2.2.2.2
  have g2 : Cond.static Lib.Math.max.name ∈ lw_tbl := by decide +kernel
  have g3 : Cond.initialized "java/lang/Math" ∈ lw_tbl := by decide +kernel
  have g4 : Cond.code Lib.Math.max.name Lib.Math.max.code 2 (some .int) ∈ lw_tbl := by decide +kernel
  exact va_mmax hF.1 hF.2.1 (by rw [hF.2.2.1]; exact hls.1.symm) hF.2.2.2.2.1 (hts _ (xtbl_in hlk rfl)) (hts _ (xtbl_in g2 rfl)) (hts _ (xtbl_in g3 rfl)) (hts _ (xtbl_in g4 rfl)) (by omega) (by rw [xcats]; omega) (by omega) (by omega) hd (kk G p la e R s m args below meth c Z n0 w0 hF hret H locs ls hH hl hn hw hls)
theorem V_mmin {idx : Nat} {x y : Int32} (hd : decode M.2.1 pc = .ok (.invokestatic idx, 3)) (hlk : Cond.methodLink M.1.cls idx Lib.Math.min.name ∈ lw_tbl) (hcat : (st.map fun v => v.category).sum ≤ 8) (h1 : h.1.1 ≤ nM) (h2 : h.1.2 ≤ wM)
    (kk : V (d + 1) nM wM M (pc + 3) l (.int (if y < x then y else x) :: st) h Q) : V (d + 1) nM wM M pc l (.int y :: .int x :: st) h Q := by
  intro G p la e R s m args below meth c Z n0 w0 hF hret H locs ls hH hl hn hw hls
  have hts := hF.2.2.2.2.2.1
  have a1 := hF.2.2.2.2.2.2.2.2.2.1
  have a2 := hF.2.2.2.2.2.2.2.2.2.2.1
  have a3 := hF.2.2.2.2.2.2.2.2.2.2.2.1
  have a4 := hF.2.2.2.2.2.2.2.2.2.2.2.2
  have g2 : Cond.static Lib.Math.min.name ∈ lw_tbl := by decide +kernel
  have g3 : Cond.initialized "java/lang/Math" ∈ lw_tbl := by decide +kernel
  have g4 : Cond.code Lib.Math.min.name Lib.Math.min.code 2 (some .int) ∈ lw_tbl := by decide +kernel
  exact va_mmin hF.1 hF.2.1 (by rw [hF.2.2.1]; exact hls.1.symm) hF.2.2.2.2.1 (hts _ (xtbl_in hlk rfl)) (hts _ (xtbl_in g2 rfl)) (hts _ (xtbl_in g3 rfl)) (hts _ (xtbl_in g4 rfl)) (by omega) (by rw [xcats]; omega) (by omega) (by omega) hd (kk G p la e R s m args below meth c Z n0 w0 hF hret H locs ls hH hl hn hw hls)
end
end XC
