/-! THE CONSTRUCTORS, walked inline from the law's first row to its loop (printed by wip/whole/ctors.py) -/
theorem V_callI' {d nM wM : Nat} {M : xM} {pc : Nat} {l : xL} {st0 st : List Value} {h : xH} {Q : Option Value → xH → Prop} {M' : xM} {idx b n' w' k : Nat} (As : List Value) (hd : decode M.2.1 pc = .ok (.invokespecial idx, 3)) (hst : st0 = As.reverse ++ .ref b :: st) (hk : As.length = k) (hlk : xLk M.1.cls idx M') (hM : xIni M' k)
    (hlen : (xFlat (.ref b :: As)).length ≤ M'.2.2.1) (hcat : (st.map fun v => v.category).sum ≤ 8) (h1 : h.1.1 ≤ n') (h2 : h.1.2 ≤ w') (h3 : n' ≤ nM) (h4 : w' ≤ wM)
    (hV : V d n' w' M' 0 (xEntry (.ref b :: As) M'.2.2.1) [] h (fun r h' => h'.1 = (n', w') ∧ V (d + 1) nM wM M (pc + 3) l (r.toList ++ st) h' Q)) : V (d + 1) nM wM M pc l st0 h Q :=
  V_callI As hd hst hk hlk hM hlen hcat h1 h2 h3 h4 hV (fun r h' hq => hq.1) (fun r h' hq => hq.2)
/-- the ints behind the constructors -/
def xF00 : xF := fun k j => if k = 1 then (if j = 6 then 1 else 0) else if k = 2 then (if j = 0 then 20 else 0) else if k = 11 then (if j = 0 then 1 else 0) else if k = 18 then (if j = 6 then 1 else 0) else if k = 19 then (if j = 0 then 20 else 0) else if k = 28 then (if j = 0 then 1 else 0) else if k = 35 then (if j = 0 then 20 else 0) else if k = 42 then (if j = 0 then 20 else 0) else if k = 43 then (if j = 0 then 20 else 0) else if k = 44 then (if j = 0 then 20 else 0) else if k = 45 then (if j = 0 then 20 else 0) else if k = 46 then (if j = 0 then 20 else 0) else if k = 65 then (if j = 5 then 63 else 0) else if k = 66 then (if j = 0 then 20 else if j = 8 then 1 else 0) else 0
theorem xk78 {k : Nat} (h : k < 74) : k = 0 ∨ k = 1 ∨ k = 2 ∨ k = 3 ∨ k = 4 ∨ k = 5 ∨ k = 6 ∨ k = 7 ∨ k = 8 ∨ k = 9 ∨ k = 10 ∨ k = 11 ∨ k = 12 ∨ k = 13 ∨ k = 14 ∨ k = 15 ∨ k = 16 ∨ k = 17 ∨ k = 18 ∨ k = 19 ∨ k = 20 ∨ k = 21 ∨ k = 22 ∨ k = 23 ∨ k = 24 ∨ k = 25 ∨ k = 26 ∨ k = 27 ∨ k = 28 ∨ k = 29 ∨ k = 30 ∨ k = 31 ∨ k = 32 ∨ k = 33 ∨ k = 34 ∨ k = 35 ∨ k = 36 ∨ k = 37 ∨ k = 38 ∨ k = 39 ∨ k = 40 ∨ k = 41 ∨ k = 42 ∨ k = 43 ∨ k = 44 ∨ k = 45 ∨ k = 46 ∨ k = 47 ∨ k = 48 ∨ k = 49 ∨ k = 50 ∨ k = 51 ∨ k = 52 ∨ k = 53 ∨ k = 54 ∨ k = 55 ∨ k = 56 ∨ k = 57 ∨ k = 58 ∨ k = 59 ∨ k = 60 ∨ k = 61 ∨ k = 62 ∨ k = 63 ∨ k = 64 ∨ k = 65 ∨ k = 66 ∨ k = 67 ∨ k = 68 ∨ k = 69 ∨ k = 70 ∨ k = 71 ∨ k = 72 ∨ k = 73 := by omega
section XL
variable {d nM wM n w n' w' : Nat} {M : xM} {pc : Nat} {l : xL} {st : List Value} {K : Nat → Nat × Nat} {f : Nat → Nat → Value} {Q : Option Value → xH → Prop}
theorem V_newL {idx ci N : Nat} {row : Nat → Value} (hd : decode M.2.1 pc = .ok (.new idx, 3)) (hc : xNew M.1.cls idx ci N) (hrow : ∃ (q : vw_C) (ty : Nat → FieldType), xcl[ci]? = some q ∧ (∀ k, k < q.2.2 → parseFieldDescriptor (q.2.1 k).2.2.1 = some (ty k)) ∧ ∀ j, j < N → defaultValue (ty j) = row j)
    (e1 : n + 1 = n') (e2 : w + N = w') (hlt : n < 1000000) (h1 : n + 1 ≤ nM) (h2 : w + N ≤ wM) (hnr : ∀ j a, row j ≠ .ref a) (kk : V d nM wM M (pc + 3) l (.ref n :: st) ((n', w'), xkup K n (ci, N), xrow f n row) Q) : V d nM wM M pc l st ((n, w), K, f) Q := by
  subst e1 e2
  exact V_new hd hc hrow hlt h1 h2 hnr kk
theorem V_newarrayL {i : Int32} {N : Nat} (hd : decode M.2.1 pc = .ok (.newarray .int, 2)) (hi0 : ¬ i < 0) (hN : i.toNatClampNeg = N) (e1 : n + 1 = n') (e2 : w + N = w') (hlt : n < 1000000) (h1 : n + 1 ≤ nM) (h2 : w + N ≤ wM) (hb : N ≤ 100000)
    (kk : V d nM wM M (pc + 2) l (.ref n :: st) ((n', w'), xkup K n (100, N), xrow f n (fun _ => .int 0)) Q) : V d nM wM M pc l (.int i :: st) ((n, w), K, f) Q := by
  subst e1 e2
  exact V_newarray hd hi0 hN hlt h1 h2 hb kk
theorem V_anewarrayL {i : Int32} {N idx t : Nat} {C : String} (hd : decode M.2.1 pc = .ok (.anewarray idx, 3)) (hi0 : ¬ i < 0) (hN : i.toNatClampNeg = N) (e1 : n + 1 = n') (e2 : w + N = w') (hlt : n < 1000000) (h1 : n + 1 ≤ nM) (h2 : w + N ≤ wM) (hb : N ≤ 100000)
    (ht : (t = 0 ∧ C = "PastTheRim$Sheet") ∨ (t = 1 ∧ C = "PastTheRim$Car")) (hlk : Cond.classLink M.1.cls idx C ∈ lw_tbl) (hov : Cond.arrayOver (.object C) ∈ lw_tbl)
    (kk : V d nM wM M (pc + 3) l (.ref n :: st) ((n', w'), xkup K n (101 + t, N), xrow f n (fun _ => .null)) Q) : V d nM wM M pc l (.int i :: st) ((n, w), K, f) Q := by
  subst e1 e2
  exact V_anewarray hd hi0 hN hlt h1 h2 hb ht hlk hov kk
end XL
def xdf0 : Nat → Value := fun k => match k with
  | 0 => .int 0
  | 1 => .int 0
  | 2 => .int 0
  | 3 => .int 0
  | 4 => .int 0
  | 5 => .int 0
  | 6 => .int 0
  | _ => .int 0
theorem xdv0 : ∀ j, j < 8 → defaultValue (xY0 j) = xdf0 j := by decide +kernel
theorem xdn0 : ∀ (j a : Nat), xdf0 j ≠ .ref a := by
  intro j a h
  unfold xdf0 at h
  split at h <;> cases h
def xdf1 : Nat → Value := fun k => match k with
  | 0 => .int 0
  | 1 => .null
  | 2 => .null
  | 3 => .int 0
  | _ => .int 0
theorem xdv1 : ∀ j, j < 5 → defaultValue (xY1 j) = xdf1 j := by decide +kernel
theorem xdn1 : ∀ (j a : Nat), xdf1 j ≠ .ref a := by
  intro j a h
  unfold xdf1 at h
  split at h <;> cases h
def xdf2 : Nat → Value := fun k => match k with
  | 0 => .null
  | _ => .int 0
theorem xdv2 : ∀ j, j < 2 → defaultValue (xY2 j) = xdf2 j := by decide +kernel
theorem xdn2 : ∀ (j a : Nat), xdf2 j ≠ .ref a := by
  intro j a h
  unfold xdf2 at h
  split at h <;> cases h
def xdf3 : Nat → Value := fun k => match k with
  | 0 => .null
  | 1 => .null
  | _ => .int 0
theorem xdv3 : ∀ j, j < 3 → defaultValue (xY3 j) = xdf3 j := by decide +kernel
theorem xdn3 : ∀ (j a : Nat), xdf3 j ≠ .ref a := by
  intro j a h
  unfold xdf3 at h
  split at h <;> cases h
def xdf4 : Nat → Value := fun k => match k with
  | 0 => .null
  | 1 => .null
  | 2 => .int 0
  | _ => .int 0
theorem xdv4 : ∀ j, j < 4 → defaultValue (xY4 j) = xdf4 j := by decide +kernel
theorem xdn4 : ∀ (j a : Nat), xdf4 j ≠ .ref a := by
  intro j a h
  unfold xdf4 at h
  split at h <;> cases h
def xdf5 : Nat → Value := fun k => match k with
  | 0 => .null
  | 1 => .null
  | 2 => .null
  | 3 => .null
  | 4 => .int 0
  | 5 => .int 0
  | 6 => .int 0
  | 7 => .int 0
  | _ => .int 0
theorem xdv5 : ∀ j, j < 9 → defaultValue (xY5 j) = xdf5 j := by decide +kernel
theorem xdn5 : ∀ (j a : Nat), xdf5 j ≠ .ref a := by
  intro j a h
  unfold xdf5 at h
  split at h <;> cases h
def xdf6 : Nat → Value := fun k => match k with
  | 0 => .null
  | 1 => .int 0
  | _ => .int 0
theorem xdv6 : ∀ j, j < 3 → defaultValue (xY6 j) = xdf6 j := by decide +kernel
theorem xdn6 : ∀ (j a : Nat), xdf6 j ≠ .ref a := by
  intro j a h
  unfold xdf6 at h
  split at h <;> cases h
def xdf7 : Nat → Value := fun k => match k with
  | 0 => .null
  | 1 => .int 0
  | 2 => .int 0
  | 3 => .int 0
  | 4 => .int 0
  | _ => .int 0
theorem xdv7 : ∀ j, j < 6 → defaultValue (xY7 j) = xdf7 j := by decide +kernel
theorem xdn7 : ∀ (j a : Nat), xdf7 j ≠ .ref a := by
  intro j a h
  unfold xdf7 at h
  split at h <;> cases h
def xdf8 : Nat → Value := fun k => match k with
  | 0 => .null
  | 1 => .null
  | 2 => .null
  | 3 => .null
  | 4 => .null
  | 5 => .null
  | _ => .int 0
theorem xdv8 : ∀ j, j < 7 → defaultValue (xY8 j) = xdf8 j := by decide +kernel
theorem xdn8 : ∀ (j a : Nat), xdf8 j ≠ .ref a := by
  intro j a h
  unfold xdf8 at h
  split at h <;> cases h
def xdf9 : Nat → Value := fun k => match k with
  | 0 => .null
  | 1 => .null
  | 2 => .null
  | 3 => .null
  | 4 => .null
  | 5 => .null
  | 6 => .null
  | 7 => .null
  | _ => .int 0
theorem xdv9 : ∀ j, j < 9 → defaultValue (xY9 j) = xdf9 j := by decide +kernel
theorem xdn9 : ∀ (j a : Nat), xdf9 j ≠ .ref a := by
  intro j a h
  unfold xdf9 at h
  split at h <;> cases h
def xdf10 : Nat → Value := fun k => match k with
  | 0 => .null
  | 1 => .null
  | 2 => .null
  | 3 => .int 0
  | 4 => .null
  | 5 => .int 0
  | 6 => .int 0
  | 7 => .int 0
  | 8 => .int 0
  | 9 => .int 0
  | 10 => .null
  | 11 => .null
  | 12 => .null
  | 13 => .int 0
  | 14 => .int 0
  | 15 => .int 0
  | 16 => .null
  | 17 => .int 0
  | 18 => .int 0
  | 19 => .null
  | 20 => .null
  | 21 => .null
  | _ => .null
theorem xdv10 : ∀ j, j < 23 → defaultValue (xY10 j) = xdf10 j := by decide +kernel
theorem xdn10 : ∀ (j a : Nat), xdf10 j ≠ .ref a := by
  intro j a h
  unfold xdf10 at h
  split at h <;> cases h
def kk_2 (K : Nat → Nat × Nat) : Nat → Nat × Nat := K
def ff_2 (f : Nat → Nat → Value) : Nat → Nat → Value := (xup (xup (xup (xup (xup (xup (xup (xup f 2 0 (.int (20 : Int32))) 2 1 (.int (0 : Int32))) 2 2 (.int (0 : Int32))) 2 3 (.int (0 : Int32))) 2 4 (.int (0 : Int32))) 2 5 (.int (0 : Int32))) 2 6 (.int (0 : Int32))) 2 7 (.int (0 : Int32)))
set_option maxRecDepth 4000 in
theorem ki_2 {d : Nat} {K : Nat → Nat × Nat} {f : Nat → Nat → Value} {Q : Option Value → xH → Prop} (hK : K 2 = (0, 8)) (hQ : Q none ((3, 24), kk_2 K, ff_2 f)) : V (d + 1) 3 24 m_Car_init 0 (xEntry [.ref 2] 1) [] ((3, 24), K, f) Q := by
  refine V.to (l' := [some (.ref 2)]) ?_ rfl rfl rfl rfl
  refine V_aload_n (i := 0) d_Car_init_0 rfl rfl ?_
  refine V_objinit d_Car_init_1 lz_Car_1 (Nat.le_of_ble_eq_true rfl) ?_
  refine V_aload_n (i := 0) d_Car_init_4 rfl rfl ?_
  refine V_bipush (v := 20) d_Car_init_5 rfl ?_
  refine V_put d_Car_init_7 fl_Car_7 (by decide) hK (by decide) rfl rfl ?_
  refine V_aload_n (i := 0) d_Car_init_10 rfl rfl ?_
  refine V_iconst (v := 0) d_Car_init_11 rfl ?_
  refine V_put d_Car_init_12 fl_Car_13 (by decide) hK (by decide) rfl rfl ?_
  refine V_aload_n (i := 0) d_Car_init_15 rfl rfl ?_
  refine V_iconst (v := 0) d_Car_init_16 rfl ?_
  refine V_put d_Car_init_17 fl_Car_16 (by decide) hK (by decide) rfl rfl ?_
  refine V_aload_n (i := 0) d_Car_init_20 rfl rfl ?_
  refine V_iconst (v := 0) d_Car_init_21 rfl ?_
  refine V_put d_Car_init_22 fl_Car_19 (by decide) hK (by decide) rfl rfl ?_
  refine V_aload_n (i := 0) d_Car_init_25 rfl rfl ?_
  refine V_iconst (v := 0) d_Car_init_26 rfl ?_
  refine V_put d_Car_init_27 fl_Car_22 (by decide) hK (by decide) rfl rfl ?_
  refine V_aload_n (i := 0) d_Car_init_30 rfl rfl ?_
  refine V_iconst (v := 0) d_Car_init_31 rfl ?_
  refine V_put d_Car_init_32 fl_Car_25 (by decide) hK (by decide) rfl rfl ?_
  refine V_aload_n (i := 0) d_Car_init_35 rfl rfl ?_
  refine V_iconst (v := 0) d_Car_init_36 rfl ?_
  refine V_put d_Car_init_37 fl_Car_28 (by decide) hK (by decide) rfl rfl ?_
  refine V_aload_n (i := 0) d_Car_init_40 rfl rfl ?_
  refine V_iconst (v := 0) d_Car_init_41 rfl ?_
  refine V_put d_Car_init_42 fl_Car_31 (by decide) hK (by decide) rfl rfl ?_
  exact V_return d_Car_init_45 rfl hQ
def kk_3 (K : Nat → Nat × Nat) : Nat → Nat × Nat := (xkup (xkup K 4 (100, 6)) 5 (100, 6))
def ff_3 (f : Nat → Nat → Value) : Nat → Nat → Value := (xup (xup (xrow (xup (xrow f 4 (fun _ => .int 0)) 3 0 (.ref 4)) 5 (fun _ => .int 0)) 3 1 (.ref 5)) 3 2 (.int (0 : Int32)))
set_option maxRecDepth 4000 in
theorem ki_3 {d : Nat} {K : Nat → Nat × Nat} {f : Nat → Nat → Value} {Q : Option Value → xH → Prop} (hK : K 3 = (3, 3)) (hQ : Q none ((6, 39), kk_3 K, ff_3 f)) : V (d + 1) 6 39 m_Push_init 0 (xEntry [.ref 3] 1) [] ((4, 27), K, f) Q := by
  refine V.to (l' := [some (.ref 3)]) ?_ rfl rfl rfl rfl
  refine V_aload_n (i := 0) d_Push_init_0 rfl rfl ?_
  refine V_objinit d_Push_init_1 lz_Push_3 (Nat.le_of_ble_eq_true rfl) ?_
  refine V_aload_n (i := 0) d_Push_init_4 rfl rfl ?_
  refine V_bipush (v := 6) d_Push_init_5 rfl ?_
  refine V_newarrayL (N := 6) (n' := 5) (w' := 33) d_Push_init_7 (by decide) rfl rfl rfl (by decide) (by decide) (by decide) (by decide) ?_
  refine V_putF d_Push_init_9 ff_Push_9 rfl (by decide) hK (by decide) rfl rfl ?_
  refine V_aload_n (i := 0) d_Push_init_12 rfl rfl ?_
  refine V_bipush (v := 6) d_Push_init_13 rfl ?_
  refine V_newarrayL (N := 6) (n' := 6) (w' := 39) d_Push_init_15 (by decide) rfl rfl rfl (by decide) (by decide) (by decide) (by decide) ?_
  refine V_putF d_Push_init_17 ff_Push_13 rfl (by decide) hK (by decide) rfl rfl ?_
  refine V_aload_n (i := 0) d_Push_init_20 rfl rfl ?_
  refine V_iconst (v := 0) d_Push_init_21 rfl ?_
  refine V_put d_Push_init_22 fl_Push_16 (by decide) hK (by decide) rfl rfl ?_
  exact V_return d_Push_init_25 rfl hQ
def kk_4 (K : Nat → Nat × Nat) : Nat → Nat × Nat := (xkup (xkup K 7 (100, 60)) 8 (100, 60))
def ff_4 (f : Nat → Nat → Value) : Nat → Nat → Value := (xup (xup (xup (xup (xrow (xup (xrow f 7 (fun _ => .int 0)) 6 1 (.ref 7)) 8 (fun _ => .int 0)) 6 2 (.ref 8)) 6 3 (.int (0 : Int32))) 6 4 (.int (0 : Int32))) 6 0 (.int (0 : Int32)))
set_option maxRecDepth 4000 in
theorem ki_4 {d : Nat} {K : Nat → Nat × Nat} {f : Nat → Nat → Value} {Q : Option Value → xH → Prop} (hK : K 6 = (1, 5)) (hQ : Q none ((9, 164), kk_4 K, ff_4 f)) : V (d + 1) 9 164 m_Law_init 0 (xEntry [.ref 6, .int (0 : Int32)] 2) [] ((7, 44), K, f) Q := by
  refine V.to (l' := [some (.ref 6), some (.int (0 : Int32))]) ?_ rfl rfl rfl rfl
  refine V_aload_n (i := 0) d_Law_init_0 rfl rfl ?_
  refine V_objinit d_Law_init_1 lz_Law_1 (Nat.le_of_ble_eq_true rfl) ?_
  refine V_aload_n (i := 0) d_Law_init_4 rfl rfl ?_
  refine V_bipush (v := 60) d_Law_init_5 rfl ?_
  refine V_newarrayL (N := 60) (n' := 8) (w' := 104) d_Law_init_7 (by decide) rfl rfl rfl (by decide) (by decide) (by decide) (by decide) ?_
  refine V_putF d_Law_init_9 ff_Law_9 rfl (by decide) hK (by decide) rfl rfl ?_
  refine V_aload_n (i := 0) d_Law_init_12 rfl rfl ?_
  refine V_bipush (v := 60) d_Law_init_13 rfl ?_
  refine V_newarrayL (N := 60) (n' := 9) (w' := 164) d_Law_init_15 (by decide) rfl rfl rfl (by decide) (by decide) (by decide) (by decide) ?_
  refine V_putF d_Law_init_17 ff_Law_13 rfl (by decide) hK (by decide) rfl rfl ?_
  refine V_aload_n (i := 0) d_Law_init_20 rfl rfl ?_
  refine V_iconst (v := 0) d_Law_init_21 rfl ?_
  refine V_put d_Law_init_22 fl_Law_16 (by decide) hK (by decide) rfl rfl ?_
  refine V_aload_n (i := 0) d_Law_init_25 rfl rfl ?_
  refine V_iconst (v := 0) d_Law_init_26 rfl ?_
  refine V_put d_Law_init_27 fl_Law_20 (by decide) hK (by decide) rfl rfl ?_
  refine V_aload_n (i := 0) d_Law_init_30 rfl rfl ?_
  refine V_iload_n (i := 1) d_Law_init_31 rfl rfl ?_
  refine V_putF d_Law_init_32 ff_Law_24 rfl (by decide) hK (by decide) rfl rfl ?_
  exact V_return d_Law_init_35 rfl hQ
def kk_5 (K : Nat → Nat × Nat) : Nat → Nat × Nat := (xkup (xkup K 10 (100, 60)) 11 (100, 60))
def ff_5 (f : Nat → Nat → Value) : Nat → Nat → Value := (xup (xup (xup (xup (xrow (xup (xrow f 10 (fun _ => .int 0)) 9 1 (.ref 10)) 11 (fun _ => .int 0)) 9 2 (.ref 11)) 9 3 (.int (0 : Int32))) 9 4 (.int (0 : Int32))) 9 0 (.int (1 : Int32)))
set_option maxRecDepth 4000 in
theorem ki_5 {d : Nat} {K : Nat → Nat × Nat} {f : Nat → Nat → Value} {Q : Option Value → xH → Prop} (hK : K 9 = (1, 5)) (hQ : Q none ((12, 289), kk_5 K, ff_5 f)) : V (d + 1) 12 289 m_Law_init 0 (xEntry [.ref 9, .int (1 : Int32)] 2) [] ((10, 169), K, f) Q := by
  refine V.to (l' := [some (.ref 9), some (.int (1 : Int32))]) ?_ rfl rfl rfl rfl
  refine V_aload_n (i := 0) d_Law_init_0 rfl rfl ?_
  refine V_objinit d_Law_init_1 lz_Law_1 (Nat.le_of_ble_eq_true rfl) ?_
  refine V_aload_n (i := 0) d_Law_init_4 rfl rfl ?_
  refine V_bipush (v := 60) d_Law_init_5 rfl ?_
  refine V_newarrayL (N := 60) (n' := 11) (w' := 229) d_Law_init_7 (by decide) rfl rfl rfl (by decide) (by decide) (by decide) (by decide) ?_
  refine V_putF d_Law_init_9 ff_Law_9 rfl (by decide) hK (by decide) rfl rfl ?_
  refine V_aload_n (i := 0) d_Law_init_12 rfl rfl ?_
  refine V_bipush (v := 60) d_Law_init_13 rfl ?_
  refine V_newarrayL (N := 60) (n' := 12) (w' := 289) d_Law_init_15 (by decide) rfl rfl rfl (by decide) (by decide) (by decide) (by decide) ?_
  refine V_putF d_Law_init_17 ff_Law_13 rfl (by decide) hK (by decide) rfl rfl ?_
  refine V_aload_n (i := 0) d_Law_init_20 rfl rfl ?_
  refine V_iconst (v := 0) d_Law_init_21 rfl ?_
  refine V_put d_Law_init_22 fl_Law_16 (by decide) hK (by decide) rfl rfl ?_
  refine V_aload_n (i := 0) d_Law_init_25 rfl rfl ?_
  refine V_iconst (v := 0) d_Law_init_26 rfl ?_
  refine V_put d_Law_init_27 fl_Law_20 (by decide) hK (by decide) rfl rfl ?_
  refine V_aload_n (i := 0) d_Law_init_30 rfl rfl ?_
  refine V_iload_n (i := 1) d_Law_init_31 rfl rfl ?_
  refine V_putF d_Law_init_32 ff_Law_24 rfl (by decide) hK (by decide) rfl rfl ?_
  exact V_return d_Law_init_35 rfl hQ
def kk_6 (K : Nat → Nat × Nat) : Nat → Nat × Nat := (xkup K 13 (100, 60))
def ff_6 (f : Nat → Nat → Value) : Nat → Nat → Value := (xup (xrow (xup f 12 1 (.int (0 : Int32))) 13 (fun _ => .int 0)) 12 0 (.ref 13))
set_option maxRecDepth 4000 in
theorem ki_6 {d : Nat} {K : Nat → Nat × Nat} {f : Nat → Nat → Value} {Q : Option Value → xH → Prop} (hK : K 12 = (2, 2)) (hQ : Q none ((14, 351), kk_6 K, ff_6 f)) : V (d + 1) 14 351 m_Nums_init 0 (xEntry [.ref 12, .int (60 : Int32)] 2) [] ((13, 291), K, f) Q := by
  refine V.to (l' := [some (.ref 12), some (.int (60 : Int32))]) ?_ rfl rfl rfl rfl
  refine V_aload_n (i := 0) d_Nums_init_0 rfl rfl ?_
  refine V_objinit d_Nums_init_1 lz_Nums_1 (Nat.le_of_ble_eq_true rfl) ?_
  refine V_aload_n (i := 0) d_Nums_init_4 rfl rfl ?_
  refine V_iconst (v := 0) d_Nums_init_5 rfl ?_
  refine V_put d_Nums_init_6 fl_Nums_7 (by decide) hK (by decide) rfl rfl ?_
  refine V_aload_n (i := 0) d_Nums_init_9 rfl rfl ?_
  refine V_iload_n (i := 1) d_Nums_init_10 rfl rfl ?_
  refine V_iconst (v := 0) d_Nums_init_11 rfl ?_
  refine V_mmax d_Nums_init_12 lz_Nums_13 (Nat.le_of_ble_eq_true rfl) (Nat.le_of_ble_eq_true rfl) (Nat.le_of_ble_eq_true rfl) ?_
  refine V.to (st' := [.int (60 : Int32), .ref 12]) ?_ rfl rfl (by rfl) rfl
  refine V_newarrayL (N := 60) (n' := 14) (w' := 351) d_Nums_init_15 (by decide) rfl rfl rfl (by decide) (by decide) (by decide) (by decide) ?_
  refine V_putF d_Nums_init_17 ff_Nums_19 rfl (by decide) hK (by decide) rfl rfl ?_
  exact V_return d_Nums_init_20 rfl hQ
def kk_7 (K : Nat → Nat × Nat) : Nat → Nat × Nat := (xkup K 15 (100, 24))
def ff_7 (f : Nat → Nat → Value) : Nat → Nat → Value := (xup (xrow (xup f 14 1 (.int (0 : Int32))) 15 (fun _ => .int 0)) 14 0 (.ref 15))
set_option maxRecDepth 4000 in
theorem ki_7 {d : Nat} {K : Nat → Nat × Nat} {f : Nat → Nat → Value} {Q : Option Value → xH → Prop} (hK : K 14 = (2, 2)) (hQ : Q none ((16, 377), kk_7 K, ff_7 f)) : V (d + 1) 16 377 m_Nums_init 0 (xEntry [.ref 14, .int (24 : Int32)] 2) [] ((15, 353), K, f) Q := by
  refine V.to (l' := [some (.ref 14), some (.int (24 : Int32))]) ?_ rfl rfl rfl rfl
  refine V_aload_n (i := 0) d_Nums_init_0 rfl rfl ?_
  refine V_objinit d_Nums_init_1 lz_Nums_1 (Nat.le_of_ble_eq_true rfl) ?_
  refine V_aload_n (i := 0) d_Nums_init_4 rfl rfl ?_
  refine V_iconst (v := 0) d_Nums_init_5 rfl ?_
  refine V_put d_Nums_init_6 fl_Nums_7 (by decide) hK (by decide) rfl rfl ?_
  refine V_aload_n (i := 0) d_Nums_init_9 rfl rfl ?_
  refine V_iload_n (i := 1) d_Nums_init_10 rfl rfl ?_
  refine V_iconst (v := 0) d_Nums_init_11 rfl ?_
  refine V_mmax d_Nums_init_12 lz_Nums_13 (Nat.le_of_ble_eq_true rfl) (Nat.le_of_ble_eq_true rfl) (Nat.le_of_ble_eq_true rfl) ?_
  refine V.to (st' := [.int (24 : Int32), .ref 14]) ?_ rfl rfl (by rfl) rfl
  refine V_newarrayL (N := 24) (n' := 16) (w' := 377) d_Nums_init_15 (by decide) rfl rfl rfl (by decide) (by decide) (by decide) (by decide) ?_
  refine V_putF d_Nums_init_17 ff_Nums_19 rfl (by decide) hK (by decide) rfl rfl ?_
  exact V_return d_Nums_init_20 rfl hQ
def kk_1 (K : Nat → Nat × Nat) : Nat → Nat × Nat := (kk_7 (xkup (kk_6 (xkup (kk_5 (xkup (kk_4 (xkup (kk_3 (xkup (kk_2 (xkup K 2 (0, 8))) 3 (3, 3))) 6 (1, 5))) 9 (1, 5))) 12 (2, 2))) 14 (2, 2)))
def ff_1 (f : Nat → Nat → Value) : Nat → Nat → Value := (xup (xup (ff_7 (xrow (xup (ff_6 (xrow (xup (ff_5 (xrow (xup (ff_4 (xrow (xup (ff_3 (xrow (xup (ff_2 (xrow f 2 xdf0)) 1 0 (.ref 2)) 3 xdf3)) 1 1 (.ref 3)) 6 xdf1)) 1 2 (.ref 6)) 9 xdf1)) 1 3 (.ref 9)) 12 xdf2)) 1 4 (.ref 12)) 14 xdf2)) 1 5 (.ref 14)) 1 6 (.int (1 : Int32)))
set_option maxRecDepth 4000 in
theorem ki_1 {d : Nat} {K : Nat → Nat × Nat} {f : Nat → Nat → Value} {Q : Option Value → xH → Prop} (hK : K 1 = (8, 7)) (hQ : Q none ((16, 377), kk_1 K, ff_1 f)) : V (d + 2) 16 377 m_World_init 0 (xEntry [.ref 1] 1) [] ((2, 16), K, f) Q := by
  refine V.to (l' := [some (.ref 1)]) ?_ rfl rfl rfl rfl
  refine V_aload_n (i := 0) d_World_init_0 rfl rfl ?_
  refine V_objinit d_World_init_1 lz_World_1 (Nat.le_of_ble_eq_true rfl) ?_
  refine V_aload_n (i := 0) d_World_init_4 rfl rfl ?_
  refine V_newL (n' := 3) (w' := 24) d_World_init_5 nw_World_7 ⟨_, xY0, rfl, xFt0, xdv0⟩ rfl rfl (by decide) (by decide) (by decide) xdn0 ?_
  refine V_dup d_World_init_8 rfl ?_
  refine V_callI' (n' := 3) (w' := 24) [] d_World_init_9 rfl rfl lk_World_9 mo_Car_init (Nat.le_of_ble_eq_true rfl) (Nat.le_of_ble_eq_true rfl) (Nat.le_of_ble_eq_true rfl) (Nat.le_of_ble_eq_true rfl) (Nat.le_of_ble_eq_true rfl) (Nat.le_of_ble_eq_true rfl) ?_
  refine ki_2 rfl ⟨rfl, ?_⟩
  refine V.to (st' := [.ref 2, .ref 1]) ?_ rfl rfl rfl rfl
  refine V_putF d_World_init_12 ff_World_10 rfl (by decide) hK (by decide) rfl rfl ?_
  refine V_aload_n (i := 0) d_World_init_15 rfl rfl ?_
  refine V_newL (n' := 4) (w' := 27) d_World_init_16 nw_World_16 ⟨_, xY3, rfl, xFt3, xdv3⟩ rfl rfl (by decide) (by decide) (by decide) xdn3 ?_
  refine V_dup d_World_init_19 rfl ?_
  refine V_callI' (n' := 6) (w' := 39) [] d_World_init_20 rfl rfl lk_World_18 mo_Push_init (Nat.le_of_ble_eq_true rfl) (Nat.le_of_ble_eq_true rfl) (Nat.le_of_ble_eq_true rfl) (Nat.le_of_ble_eq_true rfl) (Nat.le_of_ble_eq_true rfl) (Nat.le_of_ble_eq_true rfl) ?_
  refine ki_3 rfl ⟨rfl, ?_⟩
  refine V.to (st' := [.ref 3, .ref 1]) ?_ rfl rfl rfl rfl
  refine V_putF d_World_init_23 ff_World_19 rfl (by decide) hK (by decide) rfl rfl ?_
  refine V_aload_n (i := 0) d_World_init_26 rfl rfl ?_
  refine V_newL (n' := 7) (w' := 44) d_World_init_27 nw_World_23 ⟨_, xY1, rfl, xFt1, xdv1⟩ rfl rfl (by decide) (by decide) (by decide) xdn1 ?_
  refine V_dup d_World_init_30 rfl ?_
  refine V_iconst (v := 0) d_World_init_31 rfl ?_
  refine V_callI' (n' := 9) (w' := 164) [.int (0 : Int32)] d_World_init_32 rfl rfl lk_World_25 mo_Law_init (Nat.le_of_ble_eq_true rfl) (Nat.le_of_ble_eq_true rfl) (Nat.le_of_ble_eq_true rfl) (Nat.le_of_ble_eq_true rfl) (Nat.le_of_ble_eq_true rfl) (Nat.le_of_ble_eq_true rfl) ?_
  refine ki_4 rfl ⟨rfl, ?_⟩
  refine V.to (st' := [.ref 6, .ref 1]) ?_ rfl rfl rfl rfl
  refine V_putF d_World_init_35 ff_World_28 rfl (by decide) hK (by decide) rfl rfl ?_
  refine V_aload_n (i := 0) d_World_init_38 rfl rfl ?_
  refine V_newL (n' := 10) (w' := 169) d_World_init_39 nw_World_23 ⟨_, xY1, rfl, xFt1, xdv1⟩ rfl rfl (by decide) (by decide) (by decide) xdn1 ?_
  refine V_dup d_World_init_42 rfl ?_
  refine V_iconst (v := 1) d_World_init_43 rfl ?_
  refine V_callI' (n' := 12) (w' := 289) [.int (1 : Int32)] d_World_init_44 rfl rfl lk_World_25 mo_Law_init (Nat.le_of_ble_eq_true rfl) (Nat.le_of_ble_eq_true rfl) (Nat.le_of_ble_eq_true rfl) (Nat.le_of_ble_eq_true rfl) (Nat.le_of_ble_eq_true rfl) (Nat.le_of_ble_eq_true rfl) ?_
  refine ki_5 rfl ⟨rfl, ?_⟩
  refine V.to (st' := [.ref 9, .ref 1]) ?_ rfl rfl rfl rfl
  refine V_putF d_World_init_47 ff_World_32 rfl (by decide) hK (by decide) rfl rfl ?_
  refine V_aload_n (i := 0) d_World_init_50 rfl rfl ?_
  refine V_newL (n' := 13) (w' := 291) d_World_init_51 nw_World_35 ⟨_, xY2, rfl, xFt2, xdv2⟩ rfl rfl (by decide) (by decide) (by decide) xdn2 ?_
  refine V_dup d_World_init_54 rfl ?_
  refine V_bipush (v := 60) d_World_init_55 rfl ?_
  refine V_callI' (n' := 14) (w' := 351) [.int (60 : Int32)] d_World_init_57 rfl rfl lk_World_37 mo_Nums_init (Nat.le_of_ble_eq_true rfl) (Nat.le_of_ble_eq_true rfl) (Nat.le_of_ble_eq_true rfl) (Nat.le_of_ble_eq_true rfl) (Nat.le_of_ble_eq_true rfl) (Nat.le_of_ble_eq_true rfl) ?_
  refine ki_6 rfl ⟨rfl, ?_⟩
  refine V.to (st' := [.ref 12, .ref 1]) ?_ rfl rfl rfl rfl
  refine V_putF d_World_init_60 ff_World_38 rfl (by decide) hK (by decide) rfl rfl ?_
  refine V_aload_n (i := 0) d_World_init_63 rfl rfl ?_
  refine V_newL (n' := 15) (w' := 353) d_World_init_64 nw_World_35 ⟨_, xY2, rfl, xFt2, xdv2⟩ rfl rfl (by decide) (by decide) (by decide) xdn2 ?_
  refine V_dup d_World_init_67 rfl ?_
  refine V_bipush (v := 24) d_World_init_68 rfl ?_
  refine V_callI' (n' := 16) (w' := 377) [.int (24 : Int32)] d_World_init_70 rfl rfl lk_World_37 mo_Nums_init (Nat.le_of_ble_eq_true rfl) (Nat.le_of_ble_eq_true rfl) (Nat.le_of_ble_eq_true rfl) (Nat.le_of_ble_eq_true rfl) (Nat.le_of_ble_eq_true rfl) (Nat.le_of_ble_eq_true rfl) ?_
  refine ki_7 rfl ⟨rfl, ?_⟩
  refine V.to (st' := [.ref 14, .ref 1]) ?_ rfl rfl rfl rfl
  refine V_putF d_World_init_73 ff_World_42 rfl (by decide) hK (by decide) rfl rfl ?_
  refine V_aload_n (i := 0) d_World_init_76 rfl rfl ?_
  refine V_iconst (v := 1) d_World_init_77 rfl ?_
  refine V_put d_World_init_78 fl_World_45 (by decide) hK (by decide) rfl rfl ?_
  exact V_return d_World_init_81 rfl hQ
def kk_9 (K : Nat → Nat × Nat) : Nat → Nat × Nat := K
def ff_9 (f : Nat → Nat → Value) : Nat → Nat → Value := (xup (xup (xup (xup (xup (xup (xup (xup f 17 0 (.int (20 : Int32))) 17 1 (.int (0 : Int32))) 17 2 (.int (0 : Int32))) 17 3 (.int (0 : Int32))) 17 4 (.int (0 : Int32))) 17 5 (.int (0 : Int32))) 17 6 (.int (0 : Int32))) 17 7 (.int (0 : Int32)))
set_option maxRecDepth 4000 in
theorem ki_9 {d : Nat} {K : Nat → Nat × Nat} {f : Nat → Nat → Value} {Q : Option Value → xH → Prop} (hK : K 17 = (0, 8)) (hQ : Q none ((18, 392), kk_9 K, ff_9 f)) : V (d + 1) 18 392 m_Car_init 0 (xEntry [.ref 17] 1) [] ((18, 392), K, f) Q := by
  refine V.to (l' := [some (.ref 17)]) ?_ rfl rfl rfl rfl
  refine V_aload_n (i := 0) d_Car_init_0 rfl rfl ?_
  refine V_objinit d_Car_init_1 lz_Car_1 (Nat.le_of_ble_eq_true rfl) ?_
  refine V_aload_n (i := 0) d_Car_init_4 rfl rfl ?_
  refine V_bipush (v := 20) d_Car_init_5 rfl ?_
  refine V_put d_Car_init_7 fl_Car_7 (by decide) hK (by decide) rfl rfl ?_
  refine V_aload_n (i := 0) d_Car_init_10 rfl rfl ?_
  refine V_iconst (v := 0) d_Car_init_11 rfl ?_
  refine V_put d_Car_init_12 fl_Car_13 (by decide) hK (by decide) rfl rfl ?_
  refine V_aload_n (i := 0) d_Car_init_15 rfl rfl ?_
  refine V_iconst (v := 0) d_Car_init_16 rfl ?_
  refine V_put d_Car_init_17 fl_Car_16 (by decide) hK (by decide) rfl rfl ?_
  refine V_aload_n (i := 0) d_Car_init_20 rfl rfl ?_
  refine V_iconst (v := 0) d_Car_init_21 rfl ?_
  refine V_put d_Car_init_22 fl_Car_19 (by decide) hK (by decide) rfl rfl ?_
  refine V_aload_n (i := 0) d_Car_init_25 rfl rfl ?_
  refine V_iconst (v := 0) d_Car_init_26 rfl ?_
  refine V_put d_Car_init_27 fl_Car_22 (by decide) hK (by decide) rfl rfl ?_
  refine V_aload_n (i := 0) d_Car_init_30 rfl rfl ?_
  refine V_iconst (v := 0) d_Car_init_31 rfl ?_
  refine V_put d_Car_init_32 fl_Car_25 (by decide) hK (by decide) rfl rfl ?_
  refine V_aload_n (i := 0) d_Car_init_35 rfl rfl ?_
  refine V_iconst (v := 0) d_Car_init_36 rfl ?_
  refine V_put d_Car_init_37 fl_Car_28 (by decide) hK (by decide) rfl rfl ?_
  refine V_aload_n (i := 0) d_Car_init_40 rfl rfl ?_
  refine V_iconst (v := 0) d_Car_init_41 rfl ?_
  refine V_put d_Car_init_42 fl_Car_31 (by decide) hK (by decide) rfl rfl ?_
  exact V_return d_Car_init_45 rfl hQ
def kk_10 (K : Nat → Nat × Nat) : Nat → Nat × Nat := (xkup (xkup K 19 (100, 6)) 20 (100, 6))
def ff_10 (f : Nat → Nat → Value) : Nat → Nat → Value := (xup (xup (xrow (xup (xrow f 19 (fun _ => .int 0)) 18 0 (.ref 19)) 20 (fun _ => .int 0)) 18 1 (.ref 20)) 18 2 (.int (0 : Int32)))
set_option maxRecDepth 4000 in
theorem ki_10 {d : Nat} {K : Nat → Nat × Nat} {f : Nat → Nat → Value} {Q : Option Value → xH → Prop} (hK : K 18 = (3, 3)) (hQ : Q none ((21, 407), kk_10 K, ff_10 f)) : V (d + 1) 21 407 m_Push_init 0 (xEntry [.ref 18] 1) [] ((19, 395), K, f) Q := by
  refine V.to (l' := [some (.ref 18)]) ?_ rfl rfl rfl rfl
  refine V_aload_n (i := 0) d_Push_init_0 rfl rfl ?_
  refine V_objinit d_Push_init_1 lz_Push_3 (Nat.le_of_ble_eq_true rfl) ?_
  refine V_aload_n (i := 0) d_Push_init_4 rfl rfl ?_
  refine V_bipush (v := 6) d_Push_init_5 rfl ?_
  refine V_newarrayL (N := 6) (n' := 20) (w' := 401) d_Push_init_7 (by decide) rfl rfl rfl (by decide) (by decide) (by decide) (by decide) ?_
  refine V_putF d_Push_init_9 ff_Push_9 rfl (by decide) hK (by decide) rfl rfl ?_
  refine V_aload_n (i := 0) d_Push_init_12 rfl rfl ?_
  refine V_bipush (v := 6) d_Push_init_13 rfl ?_
  refine V_newarrayL (N := 6) (n' := 21) (w' := 407) d_Push_init_15 (by decide) rfl rfl rfl (by decide) (by decide) (by decide) (by decide) ?_
  refine V_putF d_Push_init_17 ff_Push_13 rfl (by decide) hK (by decide) rfl rfl ?_
  refine V_aload_n (i := 0) d_Push_init_20 rfl rfl ?_
  refine V_iconst (v := 0) d_Push_init_21 rfl ?_
  refine V_put d_Push_init_22 fl_Push_16 (by decide) hK (by decide) rfl rfl ?_
  exact V_return d_Push_init_25 rfl hQ
def kk_11 (K : Nat → Nat × Nat) : Nat → Nat × Nat := (xkup (xkup K 22 (100, 60)) 23 (100, 60))
def ff_11 (f : Nat → Nat → Value) : Nat → Nat → Value := (xup (xup (xup (xup (xrow (xup (xrow f 22 (fun _ => .int 0)) 21 1 (.ref 22)) 23 (fun _ => .int 0)) 21 2 (.ref 23)) 21 3 (.int (0 : Int32))) 21 4 (.int (0 : Int32))) 21 0 (.int (0 : Int32)))
set_option maxRecDepth 4000 in
theorem ki_11 {d : Nat} {K : Nat → Nat × Nat} {f : Nat → Nat → Value} {Q : Option Value → xH → Prop} (hK : K 21 = (1, 5)) (hQ : Q none ((24, 532), kk_11 K, ff_11 f)) : V (d + 1) 24 532 m_Law_init 0 (xEntry [.ref 21, .int (0 : Int32)] 2) [] ((22, 412), K, f) Q := by
  refine V.to (l' := [some (.ref 21), some (.int (0 : Int32))]) ?_ rfl rfl rfl rfl
  refine V_aload_n (i := 0) d_Law_init_0 rfl rfl ?_
  refine V_objinit d_Law_init_1 lz_Law_1 (Nat.le_of_ble_eq_true rfl) ?_
  refine V_aload_n (i := 0) d_Law_init_4 rfl rfl ?_
  refine V_bipush (v := 60) d_Law_init_5 rfl ?_
  refine V_newarrayL (N := 60) (n' := 23) (w' := 472) d_Law_init_7 (by decide) rfl rfl rfl (by decide) (by decide) (by decide) (by decide) ?_
  refine V_putF d_Law_init_9 ff_Law_9 rfl (by decide) hK (by decide) rfl rfl ?_
  refine V_aload_n (i := 0) d_Law_init_12 rfl rfl ?_
  refine V_bipush (v := 60) d_Law_init_13 rfl ?_
  refine V_newarrayL (N := 60) (n' := 24) (w' := 532) d_Law_init_15 (by decide) rfl rfl rfl (by decide) (by decide) (by decide) (by decide) ?_
  refine V_putF d_Law_init_17 ff_Law_13 rfl (by decide) hK (by decide) rfl rfl ?_
  refine V_aload_n (i := 0) d_Law_init_20 rfl rfl ?_
  refine V_iconst (v := 0) d_Law_init_21 rfl ?_
  refine V_put d_Law_init_22 fl_Law_16 (by decide) hK (by decide) rfl rfl ?_
  refine V_aload_n (i := 0) d_Law_init_25 rfl rfl ?_
  refine V_iconst (v := 0) d_Law_init_26 rfl ?_
  refine V_put d_Law_init_27 fl_Law_20 (by decide) hK (by decide) rfl rfl ?_
  refine V_aload_n (i := 0) d_Law_init_30 rfl rfl ?_
  refine V_iload_n (i := 1) d_Law_init_31 rfl rfl ?_
  refine V_putF d_Law_init_32 ff_Law_24 rfl (by decide) hK (by decide) rfl rfl ?_
  exact V_return d_Law_init_35 rfl hQ
def kk_12 (K : Nat → Nat × Nat) : Nat → Nat × Nat := (xkup (xkup K 25 (100, 60)) 26 (100, 60))
def ff_12 (f : Nat → Nat → Value) : Nat → Nat → Value := (xup (xup (xup (xup (xrow (xup (xrow f 25 (fun _ => .int 0)) 24 1 (.ref 25)) 26 (fun _ => .int 0)) 24 2 (.ref 26)) 24 3 (.int (0 : Int32))) 24 4 (.int (0 : Int32))) 24 0 (.int (1 : Int32)))
set_option maxRecDepth 4000 in
theorem ki_12 {d : Nat} {K : Nat → Nat × Nat} {f : Nat → Nat → Value} {Q : Option Value → xH → Prop} (hK : K 24 = (1, 5)) (hQ : Q none ((27, 657), kk_12 K, ff_12 f)) : V (d + 1) 27 657 m_Law_init 0 (xEntry [.ref 24, .int (1 : Int32)] 2) [] ((25, 537), K, f) Q := by
  refine V.to (l' := [some (.ref 24), some (.int (1 : Int32))]) ?_ rfl rfl rfl rfl
  refine V_aload_n (i := 0) d_Law_init_0 rfl rfl ?_
  refine V_objinit d_Law_init_1 lz_Law_1 (Nat.le_of_ble_eq_true rfl) ?_
  refine V_aload_n (i := 0) d_Law_init_4 rfl rfl ?_
  refine V_bipush (v := 60) d_Law_init_5 rfl ?_
  refine V_newarrayL (N := 60) (n' := 26) (w' := 597) d_Law_init_7 (by decide) rfl rfl rfl (by decide) (by decide) (by decide) (by decide) ?_
  refine V_putF d_Law_init_9 ff_Law_9 rfl (by decide) hK (by decide) rfl rfl ?_
  refine V_aload_n (i := 0) d_Law_init_12 rfl rfl ?_
  refine V_bipush (v := 60) d_Law_init_13 rfl ?_
  refine V_newarrayL (N := 60) (n' := 27) (w' := 657) d_Law_init_15 (by decide) rfl rfl rfl (by decide) (by decide) (by decide) (by decide) ?_
  refine V_putF d_Law_init_17 ff_Law_13 rfl (by decide) hK (by decide) rfl rfl ?_
  refine V_aload_n (i := 0) d_Law_init_20 rfl rfl ?_
  refine V_iconst (v := 0) d_Law_init_21 rfl ?_
  refine V_put d_Law_init_22 fl_Law_16 (by decide) hK (by decide) rfl rfl ?_
  refine V_aload_n (i := 0) d_Law_init_25 rfl rfl ?_
  refine V_iconst (v := 0) d_Law_init_26 rfl ?_
  refine V_put d_Law_init_27 fl_Law_20 (by decide) hK (by decide) rfl rfl ?_
  refine V_aload_n (i := 0) d_Law_init_30 rfl rfl ?_
  refine V_iload_n (i := 1) d_Law_init_31 rfl rfl ?_
  refine V_putF d_Law_init_32 ff_Law_24 rfl (by decide) hK (by decide) rfl rfl ?_
  exact V_return d_Law_init_35 rfl hQ
def kk_13 (K : Nat → Nat × Nat) : Nat → Nat × Nat := (xkup K 28 (100, 60))
def ff_13 (f : Nat → Nat → Value) : Nat → Nat → Value := (xup (xrow (xup f 27 1 (.int (0 : Int32))) 28 (fun _ => .int 0)) 27 0 (.ref 28))
set_option maxRecDepth 4000 in
theorem ki_13 {d : Nat} {K : Nat → Nat × Nat} {f : Nat → Nat → Value} {Q : Option Value → xH → Prop} (hK : K 27 = (2, 2)) (hQ : Q none ((29, 719), kk_13 K, ff_13 f)) : V (d + 1) 29 719 m_Nums_init 0 (xEntry [.ref 27, .int (60 : Int32)] 2) [] ((28, 659), K, f) Q := by
  refine V.to (l' := [some (.ref 27), some (.int (60 : Int32))]) ?_ rfl rfl rfl rfl
  refine V_aload_n (i := 0) d_Nums_init_0 rfl rfl ?_
  refine V_objinit d_Nums_init_1 lz_Nums_1 (Nat.le_of_ble_eq_true rfl) ?_
  refine V_aload_n (i := 0) d_Nums_init_4 rfl rfl ?_
  refine V_iconst (v := 0) d_Nums_init_5 rfl ?_
  refine V_put d_Nums_init_6 fl_Nums_7 (by decide) hK (by decide) rfl rfl ?_
  refine V_aload_n (i := 0) d_Nums_init_9 rfl rfl ?_
  refine V_iload_n (i := 1) d_Nums_init_10 rfl rfl ?_
  refine V_iconst (v := 0) d_Nums_init_11 rfl ?_
  refine V_mmax d_Nums_init_12 lz_Nums_13 (Nat.le_of_ble_eq_true rfl) (Nat.le_of_ble_eq_true rfl) (Nat.le_of_ble_eq_true rfl) ?_
  refine V.to (st' := [.int (60 : Int32), .ref 27]) ?_ rfl rfl (by rfl) rfl
  refine V_newarrayL (N := 60) (n' := 29) (w' := 719) d_Nums_init_15 (by decide) rfl rfl rfl (by decide) (by decide) (by decide) (by decide) ?_
  refine V_putF d_Nums_init_17 ff_Nums_19 rfl (by decide) hK (by decide) rfl rfl ?_
  exact V_return d_Nums_init_20 rfl hQ
def kk_14 (K : Nat → Nat × Nat) : Nat → Nat × Nat := (xkup K 30 (100, 24))
def ff_14 (f : Nat → Nat → Value) : Nat → Nat → Value := (xup (xrow (xup f 29 1 (.int (0 : Int32))) 30 (fun _ => .int 0)) 29 0 (.ref 30))
set_option maxRecDepth 4000 in
theorem ki_14 {d : Nat} {K : Nat → Nat × Nat} {f : Nat → Nat → Value} {Q : Option Value → xH → Prop} (hK : K 29 = (2, 2)) (hQ : Q none ((31, 745), kk_14 K, ff_14 f)) : V (d + 1) 31 745 m_Nums_init 0 (xEntry [.ref 29, .int (24 : Int32)] 2) [] ((30, 721), K, f) Q := by
  refine V.to (l' := [some (.ref 29), some (.int (24 : Int32))]) ?_ rfl rfl rfl rfl
  refine V_aload_n (i := 0) d_Nums_init_0 rfl rfl ?_
  refine V_objinit d_Nums_init_1 lz_Nums_1 (Nat.le_of_ble_eq_true rfl) ?_
  refine V_aload_n (i := 0) d_Nums_init_4 rfl rfl ?_
  refine V_iconst (v := 0) d_Nums_init_5 rfl ?_
  refine V_put d_Nums_init_6 fl_Nums_7 (by decide) hK (by decide) rfl rfl ?_
  refine V_aload_n (i := 0) d_Nums_init_9 rfl rfl ?_
  refine V_iload_n (i := 1) d_Nums_init_10 rfl rfl ?_
  refine V_iconst (v := 0) d_Nums_init_11 rfl ?_
  refine V_mmax d_Nums_init_12 lz_Nums_13 (Nat.le_of_ble_eq_true rfl) (Nat.le_of_ble_eq_true rfl) (Nat.le_of_ble_eq_true rfl) ?_
  refine V.to (st' := [.int (24 : Int32), .ref 29]) ?_ rfl rfl (by rfl) rfl
  refine V_newarrayL (N := 24) (n' := 31) (w' := 745) d_Nums_init_15 (by decide) rfl rfl rfl (by decide) (by decide) (by decide) (by decide) ?_
  refine V_putF d_Nums_init_17 ff_Nums_19 rfl (by decide) hK (by decide) rfl rfl ?_
  exact V_return d_Nums_init_20 rfl hQ
def kk_8 (K : Nat → Nat × Nat) : Nat → Nat × Nat := (kk_14 (xkup (kk_13 (xkup (kk_12 (xkup (kk_11 (xkup (kk_10 (xkup (kk_9 (xkup K 17 (0, 8))) 18 (3, 3))) 21 (1, 5))) 24 (1, 5))) 27 (2, 2))) 29 (2, 2)))
def ff_8 (f : Nat → Nat → Value) : Nat → Nat → Value := (xup (xup (ff_14 (xrow (xup (ff_13 (xrow (xup (ff_12 (xrow (xup (ff_11 (xrow (xup (ff_10 (xrow (xup (ff_9 (xrow f 17 xdf0)) 16 0 (.ref 17)) 18 xdf3)) 16 1 (.ref 18)) 21 xdf1)) 16 2 (.ref 21)) 24 xdf1)) 16 3 (.ref 24)) 27 xdf2)) 16 4 (.ref 27)) 29 xdf2)) 16 5 (.ref 29)) 16 6 (.int (1 : Int32)))
set_option maxRecDepth 4000 in
theorem ki_8 {d : Nat} {K : Nat → Nat × Nat} {f : Nat → Nat → Value} {Q : Option Value → xH → Prop} (hK : K 16 = (8, 7)) (hQ : Q none ((31, 745), kk_8 K, ff_8 f)) : V (d + 2) 31 745 m_World_init 0 (xEntry [.ref 16] 1) [] ((17, 384), K, f) Q := by
  refine V.to (l' := [some (.ref 16)]) ?_ rfl rfl rfl rfl
  refine V_aload_n (i := 0) d_World_init_0 rfl rfl ?_
  refine V_objinit d_World_init_1 lz_World_1 (Nat.le_of_ble_eq_true rfl) ?_
  refine V_aload_n (i := 0) d_World_init_4 rfl rfl ?_
  refine V_newL (n' := 18) (w' := 392) d_World_init_5 nw_World_7 ⟨_, xY0, rfl, xFt0, xdv0⟩ rfl rfl (by decide) (by decide) (by decide) xdn0 ?_
  refine V_dup d_World_init_8 rfl ?_
  refine V_callI' (n' := 18) (w' := 392) [] d_World_init_9 rfl rfl lk_World_9 mo_Car_init (Nat.le_of_ble_eq_true rfl) (Nat.le_of_ble_eq_true rfl) (Nat.le_of_ble_eq_true rfl) (Nat.le_of_ble_eq_true rfl) (Nat.le_of_ble_eq_true rfl) (Nat.le_of_ble_eq_true rfl) ?_
  refine ki_9 rfl ⟨rfl, ?_⟩
  refine V.to (st' := [.ref 17, .ref 16]) ?_ rfl rfl rfl rfl
  refine V_putF d_World_init_12 ff_World_10 rfl (by decide) hK (by decide) rfl rfl ?_
  refine V_aload_n (i := 0) d_World_init_15 rfl rfl ?_
  refine V_newL (n' := 19) (w' := 395) d_World_init_16 nw_World_16 ⟨_, xY3, rfl, xFt3, xdv3⟩ rfl rfl (by decide) (by decide) (by decide) xdn3 ?_
  refine V_dup d_World_init_19 rfl ?_
  refine V_callI' (n' := 21) (w' := 407) [] d_World_init_20 rfl rfl lk_World_18 mo_Push_init (Nat.le_of_ble_eq_true rfl) (Nat.le_of_ble_eq_true rfl) (Nat.le_of_ble_eq_true rfl) (Nat.le_of_ble_eq_true rfl) (Nat.le_of_ble_eq_true rfl) (Nat.le_of_ble_eq_true rfl) ?_
  refine ki_10 rfl ⟨rfl, ?_⟩
  refine V.to (st' := [.ref 18, .ref 16]) ?_ rfl rfl rfl rfl
  refine V_putF d_World_init_23 ff_World_19 rfl (by decide) hK (by decide) rfl rfl ?_
  refine V_aload_n (i := 0) d_World_init_26 rfl rfl ?_
  refine V_newL (n' := 22) (w' := 412) d_World_init_27 nw_World_23 ⟨_, xY1, rfl, xFt1, xdv1⟩ rfl rfl (by decide) (by decide) (by decide) xdn1 ?_
  refine V_dup d_World_init_30 rfl ?_
  refine V_iconst (v := 0) d_World_init_31 rfl ?_
  refine V_callI' (n' := 24) (w' := 532) [.int (0 : Int32)] d_World_init_32 rfl rfl lk_World_25 mo_Law_init (Nat.le_of_ble_eq_true rfl) (Nat.le_of_ble_eq_true rfl) (Nat.le_of_ble_eq_true rfl) (Nat.le_of_ble_eq_true rfl) (Nat.le_of_ble_eq_true rfl) (Nat.le_of_ble_eq_true rfl) ?_
  refine ki_11 rfl ⟨rfl, ?_⟩
  refine V.to (st' := [.ref 21, .ref 16]) ?_ rfl rfl rfl rfl
  refine V_putF d_World_init_35 ff_World_28 rfl (by decide) hK (by decide) rfl rfl ?_
  refine V_aload_n (i := 0) d_World_init_38 rfl rfl ?_
  refine V_newL (n' := 25) (w' := 537) d_World_init_39 nw_World_23 ⟨_, xY1, rfl, xFt1, xdv1⟩ rfl rfl (by decide) (by decide) (by decide) xdn1 ?_
  refine V_dup d_World_init_42 rfl ?_
  refine V_iconst (v := 1) d_World_init_43 rfl ?_
  refine V_callI' (n' := 27) (w' := 657) [.int (1 : Int32)] d_World_init_44 rfl rfl lk_World_25 mo_Law_init (Nat.le_of_ble_eq_true rfl) (Nat.le_of_ble_eq_true rfl) (Nat.le_of_ble_eq_true rfl) (Nat.le_of_ble_eq_true rfl) (Nat.le_of_ble_eq_true rfl) (Nat.le_of_ble_eq_true rfl) ?_
  refine ki_12 rfl ⟨rfl, ?_⟩
  refine V.to (st' := [.ref 24, .ref 16]) ?_ rfl rfl rfl rfl
  refine V_putF d_World_init_47 ff_World_32 rfl (by decide) hK (by decide) rfl rfl ?_
  refine V_aload_n (i := 0) d_World_init_50 rfl rfl ?_
  refine V_newL (n' := 28) (w' := 659) d_World_init_51 nw_World_35 ⟨_, xY2, rfl, xFt2, xdv2⟩ rfl rfl (by decide) (by decide) (by decide) xdn2 ?_
  refine V_dup d_World_init_54 rfl ?_
  refine V_bipush (v := 60) d_World_init_55 rfl ?_
  refine V_callI' (n' := 29) (w' := 719) [.int (60 : Int32)] d_World_init_57 rfl rfl lk_World_37 mo_Nums_init (Nat.le_of_ble_eq_true rfl) (Nat.le_of_ble_eq_true rfl) (Nat.le_of_ble_eq_true rfl) (Nat.le_of_ble_eq_true rfl) (Nat.le_of_ble_eq_true rfl) (Nat.le_of_ble_eq_true rfl) ?_
  refine ki_13 rfl ⟨rfl, ?_⟩
  refine V.to (st' := [.ref 27, .ref 16]) ?_ rfl rfl rfl rfl
  refine V_putF d_World_init_60 ff_World_38 rfl (by decide) hK (by decide) rfl rfl ?_
  refine V_aload_n (i := 0) d_World_init_63 rfl rfl ?_
  refine V_newL (n' := 30) (w' := 721) d_World_init_64 nw_World_35 ⟨_, xY2, rfl, xFt2, xdv2⟩ rfl rfl (by decide) (by decide) (by decide) xdn2 ?_
  refine V_dup d_World_init_67 rfl ?_
  refine V_bipush (v := 24) d_World_init_68 rfl ?_
  refine V_callI' (n' := 31) (w' := 745) [.int (24 : Int32)] d_World_init_70 rfl rfl lk_World_37 mo_Nums_init (Nat.le_of_ble_eq_true rfl) (Nat.le_of_ble_eq_true rfl) (Nat.le_of_ble_eq_true rfl) (Nat.le_of_ble_eq_true rfl) (Nat.le_of_ble_eq_true rfl) (Nat.le_of_ble_eq_true rfl) ?_
  refine ki_14 rfl ⟨rfl, ?_⟩
  refine V.to (st' := [.ref 29, .ref 16]) ?_ rfl rfl rfl rfl
  refine V_putF d_World_init_73 ff_World_42 rfl (by decide) hK (by decide) rfl rfl ?_
  refine V_aload_n (i := 0) d_World_init_76 rfl rfl ?_
  refine V_iconst (v := 1) d_World_init_77 rfl ?_
  refine V_put d_World_init_78 fl_World_45 (by decide) hK (by decide) rfl rfl ?_
  exact V_return d_World_init_81 rfl hQ
def kk_15 (K : Nat → Nat × Nat) : Nat → Nat × Nat := K
def ff_15 (f : Nat → Nat → Value) : Nat → Nat → Value := (xup (xup (xup (xup (xup (xup (xup (xup f 31 0 (.int (20 : Int32))) 31 1 (.int (0 : Int32))) 31 2 (.int (0 : Int32))) 31 3 (.int (0 : Int32))) 31 4 (.int (0 : Int32))) 31 5 (.int (0 : Int32))) 31 6 (.int (0 : Int32))) 31 7 (.int (0 : Int32)))
set_option maxRecDepth 4000 in
theorem ki_15 {d : Nat} {K : Nat → Nat × Nat} {f : Nat → Nat → Value} {Q : Option Value → xH → Prop} (hK : K 31 = (0, 8)) (hQ : Q none ((32, 753), kk_15 K, ff_15 f)) : V (d + 1) 32 753 m_Car_init 0 (xEntry [.ref 31] 1) [] ((32, 753), K, f) Q := by
  refine V.to (l' := [some (.ref 31)]) ?_ rfl rfl rfl rfl
  refine V_aload_n (i := 0) d_Car_init_0 rfl rfl ?_
  refine V_objinit d_Car_init_1 lz_Car_1 (Nat.le_of_ble_eq_true rfl) ?_
  refine V_aload_n (i := 0) d_Car_init_4 rfl rfl ?_
  refine V_bipush (v := 20) d_Car_init_5 rfl ?_
  refine V_put d_Car_init_7 fl_Car_7 (by decide) hK (by decide) rfl rfl ?_
  refine V_aload_n (i := 0) d_Car_init_10 rfl rfl ?_
  refine V_iconst (v := 0) d_Car_init_11 rfl ?_
  refine V_put d_Car_init_12 fl_Car_13 (by decide) hK (by decide) rfl rfl ?_
  refine V_aload_n (i := 0) d_Car_init_15 rfl rfl ?_
  refine V_iconst (v := 0) d_Car_init_16 rfl ?_
  refine V_put d_Car_init_17 fl_Car_16 (by decide) hK (by decide) rfl rfl ?_
  refine V_aload_n (i := 0) d_Car_init_20 rfl rfl ?_
  refine V_iconst (v := 0) d_Car_init_21 rfl ?_
  refine V_put d_Car_init_22 fl_Car_19 (by decide) hK (by decide) rfl rfl ?_
  refine V_aload_n (i := 0) d_Car_init_25 rfl rfl ?_
  refine V_iconst (v := 0) d_Car_init_26 rfl ?_
  refine V_put d_Car_init_27 fl_Car_22 (by decide) hK (by decide) rfl rfl ?_
  refine V_aload_n (i := 0) d_Car_init_30 rfl rfl ?_
  refine V_iconst (v := 0) d_Car_init_31 rfl ?_
  refine V_put d_Car_init_32 fl_Car_25 (by decide) hK (by decide) rfl rfl ?_
  refine V_aload_n (i := 0) d_Car_init_35 rfl rfl ?_
  refine V_iconst (v := 0) d_Car_init_36 rfl ?_
  refine V_put d_Car_init_37 fl_Car_28 (by decide) hK (by decide) rfl rfl ?_
  refine V_aload_n (i := 0) d_Car_init_40 rfl rfl ?_
  refine V_iconst (v := 0) d_Car_init_41 rfl ?_
  refine V_put d_Car_init_42 fl_Car_31 (by decide) hK (by decide) rfl rfl ?_
  exact V_return d_Car_init_45 rfl hQ
def kk_17 (K : Nat → Nat × Nat) : Nat → Nat × Nat := (xkup K 35 (100, 3))
def ff_17 (f : Nat → Nat → Value) : Nat → Nat → Value := (xup (xrow (xup f 34 1 (.int (0 : Int32))) 35 (fun _ => .int 0)) 34 0 (.ref 35))
set_option maxRecDepth 4000 in
theorem ki_17 {d : Nat} {K : Nat → Nat × Nat} {f : Nat → Nat → Value} {Q : Option Value → xH → Prop} (hK : K 34 = (2, 2)) (hQ : Q none ((36, 772), kk_17 K, ff_17 f)) : V (d + 1) 36 772 m_Nums_init 0 (xEntry [.ref 34, .int (3 : Int32)] 2) [] ((35, 769), K, f) Q := by
  refine V.to (l' := [some (.ref 34), some (.int (3 : Int32))]) ?_ rfl rfl rfl rfl
  refine V_aload_n (i := 0) d_Nums_init_0 rfl rfl ?_
  refine V_objinit d_Nums_init_1 lz_Nums_1 (Nat.le_of_ble_eq_true rfl) ?_
  refine V_aload_n (i := 0) d_Nums_init_4 rfl rfl ?_
  refine V_iconst (v := 0) d_Nums_init_5 rfl ?_
  refine V_put d_Nums_init_6 fl_Nums_7 (by decide) hK (by decide) rfl rfl ?_
  refine V_aload_n (i := 0) d_Nums_init_9 rfl rfl ?_
  refine V_iload_n (i := 1) d_Nums_init_10 rfl rfl ?_
  refine V_iconst (v := 0) d_Nums_init_11 rfl ?_
  refine V_mmax d_Nums_init_12 lz_Nums_13 (Nat.le_of_ble_eq_true rfl) (Nat.le_of_ble_eq_true rfl) (Nat.le_of_ble_eq_true rfl) ?_
  refine V.to (st' := [.int (3 : Int32), .ref 34]) ?_ rfl rfl (by rfl) rfl
  refine V_newarrayL (N := 3) (n' := 36) (w' := 772) d_Nums_init_15 (by decide) rfl rfl rfl (by decide) (by decide) (by decide) (by decide) ?_
  refine V_putF d_Nums_init_17 ff_Nums_19 rfl (by decide) hK (by decide) rfl rfl ?_
  exact V_return d_Nums_init_20 rfl hQ
def kk_18 (K : Nat → Nat × Nat) : Nat → Nat × Nat := K
def ff_18 (f : Nat → Nat → Value) : Nat → Nat → Value := (xup (xup (xup (xup (xup (xup (xup (xup f 38 0 (.int (20 : Int32))) 38 1 (.int (0 : Int32))) 38 2 (.int (0 : Int32))) 38 3 (.int (0 : Int32))) 38 4 (.int (0 : Int32))) 38 5 (.int (0 : Int32))) 38 6 (.int (0 : Int32))) 38 7 (.int (0 : Int32)))
set_option maxRecDepth 4000 in
theorem ki_18 {d : Nat} {K : Nat → Nat × Nat} {f : Nat → Nat → Value} {Q : Option Value → xH → Prop} (hK : K 38 = (0, 8)) (hQ : Q none ((39, 788), kk_18 K, ff_18 f)) : V (d + 1) 39 788 m_Car_init 0 (xEntry [.ref 38] 1) [] ((39, 788), K, f) Q := by
  refine V.to (l' := [some (.ref 38)]) ?_ rfl rfl rfl rfl
  refine V_aload_n (i := 0) d_Car_init_0 rfl rfl ?_
  refine V_objinit d_Car_init_1 lz_Car_1 (Nat.le_of_ble_eq_true rfl) ?_
  refine V_aload_n (i := 0) d_Car_init_4 rfl rfl ?_
  refine V_bipush (v := 20) d_Car_init_5 rfl ?_
  refine V_put d_Car_init_7 fl_Car_7 (by decide) hK (by decide) rfl rfl ?_
  refine V_aload_n (i := 0) d_Car_init_10 rfl rfl ?_
  refine V_iconst (v := 0) d_Car_init_11 rfl ?_
  refine V_put d_Car_init_12 fl_Car_13 (by decide) hK (by decide) rfl rfl ?_
  refine V_aload_n (i := 0) d_Car_init_15 rfl rfl ?_
  refine V_iconst (v := 0) d_Car_init_16 rfl ?_
  refine V_put d_Car_init_17 fl_Car_16 (by decide) hK (by decide) rfl rfl ?_
  refine V_aload_n (i := 0) d_Car_init_20 rfl rfl ?_
  refine V_iconst (v := 0) d_Car_init_21 rfl ?_
  refine V_put d_Car_init_22 fl_Car_19 (by decide) hK (by decide) rfl rfl ?_
  refine V_aload_n (i := 0) d_Car_init_25 rfl rfl ?_
  refine V_iconst (v := 0) d_Car_init_26 rfl ?_
  refine V_put d_Car_init_27 fl_Car_22 (by decide) hK (by decide) rfl rfl ?_
  refine V_aload_n (i := 0) d_Car_init_30 rfl rfl ?_
  refine V_iconst (v := 0) d_Car_init_31 rfl ?_
  refine V_put d_Car_init_32 fl_Car_25 (by decide) hK (by decide) rfl rfl ?_
  refine V_aload_n (i := 0) d_Car_init_35 rfl rfl ?_
  refine V_iconst (v := 0) d_Car_init_36 rfl ?_
  refine V_put d_Car_init_37 fl_Car_28 (by decide) hK (by decide) rfl rfl ?_
  refine V_aload_n (i := 0) d_Car_init_40 rfl rfl ?_
  refine V_iconst (v := 0) d_Car_init_41 rfl ?_
  refine V_put d_Car_init_42 fl_Car_31 (by decide) hK (by decide) rfl rfl ?_
  exact V_return d_Car_init_45 rfl hQ
def kk_19 (K : Nat → Nat × Nat) : Nat → Nat × Nat := K
def ff_19 (f : Nat → Nat → Value) : Nat → Nat → Value := (xup (xup (xup (xup (xup (xup (xup (xup f 39 0 (.int (20 : Int32))) 39 1 (.int (0 : Int32))) 39 2 (.int (0 : Int32))) 39 3 (.int (0 : Int32))) 39 4 (.int (0 : Int32))) 39 5 (.int (0 : Int32))) 39 6 (.int (0 : Int32))) 39 7 (.int (0 : Int32)))
set_option maxRecDepth 4000 in
theorem ki_19 {d : Nat} {K : Nat → Nat × Nat} {f : Nat → Nat → Value} {Q : Option Value → xH → Prop} (hK : K 39 = (0, 8)) (hQ : Q none ((40, 796), kk_19 K, ff_19 f)) : V (d + 1) 40 796 m_Car_init 0 (xEntry [.ref 39] 1) [] ((40, 796), K, f) Q := by
  refine V.to (l' := [some (.ref 39)]) ?_ rfl rfl rfl rfl
  refine V_aload_n (i := 0) d_Car_init_0 rfl rfl ?_
  refine V_objinit d_Car_init_1 lz_Car_1 (Nat.le_of_ble_eq_true rfl) ?_
  refine V_aload_n (i := 0) d_Car_init_4 rfl rfl ?_
  refine V_bipush (v := 20) d_Car_init_5 rfl ?_
  refine V_put d_Car_init_7 fl_Car_7 (by decide) hK (by decide) rfl rfl ?_
  refine V_aload_n (i := 0) d_Car_init_10 rfl rfl ?_
  refine V_iconst (v := 0) d_Car_init_11 rfl ?_
  refine V_put d_Car_init_12 fl_Car_13 (by decide) hK (by decide) rfl rfl ?_
  refine V_aload_n (i := 0) d_Car_init_15 rfl rfl ?_
  refine V_iconst (v := 0) d_Car_init_16 rfl ?_
  refine V_put d_Car_init_17 fl_Car_16 (by decide) hK (by decide) rfl rfl ?_
  refine V_aload_n (i := 0) d_Car_init_20 rfl rfl ?_
  refine V_iconst (v := 0) d_Car_init_21 rfl ?_
  refine V_put d_Car_init_22 fl_Car_19 (by decide) hK (by decide) rfl rfl ?_
  refine V_aload_n (i := 0) d_Car_init_25 rfl rfl ?_
  refine V_iconst (v := 0) d_Car_init_26 rfl ?_
  refine V_put d_Car_init_27 fl_Car_22 (by decide) hK (by decide) rfl rfl ?_
  refine V_aload_n (i := 0) d_Car_init_30 rfl rfl ?_
  refine V_iconst (v := 0) d_Car_init_31 rfl ?_
  refine V_put d_Car_init_32 fl_Car_25 (by decide) hK (by decide) rfl rfl ?_
  refine V_aload_n (i := 0) d_Car_init_35 rfl rfl ?_
  refine V_iconst (v := 0) d_Car_init_36 rfl ?_
  refine V_put d_Car_init_37 fl_Car_28 (by decide) hK (by decide) rfl rfl ?_
  refine V_aload_n (i := 0) d_Car_init_40 rfl rfl ?_
  refine V_iconst (v := 0) d_Car_init_41 rfl ?_
  refine V_put d_Car_init_42 fl_Car_31 (by decide) hK (by decide) rfl rfl ?_
  exact V_return d_Car_init_45 rfl hQ
def kk_20 (K : Nat → Nat × Nat) : Nat → Nat × Nat := K
def ff_20 (f : Nat → Nat → Value) : Nat → Nat → Value := (xup (xup (xup (xup (xup (xup (xup (xup f 40 0 (.int (20 : Int32))) 40 1 (.int (0 : Int32))) 40 2 (.int (0 : Int32))) 40 3 (.int (0 : Int32))) 40 4 (.int (0 : Int32))) 40 5 (.int (0 : Int32))) 40 6 (.int (0 : Int32))) 40 7 (.int (0 : Int32)))
set_option maxRecDepth 4000 in
theorem ki_20 {d : Nat} {K : Nat → Nat × Nat} {f : Nat → Nat → Value} {Q : Option Value → xH → Prop} (hK : K 40 = (0, 8)) (hQ : Q none ((41, 804), kk_20 K, ff_20 f)) : V (d + 1) 41 804 m_Car_init 0 (xEntry [.ref 40] 1) [] ((41, 804), K, f) Q := by
  refine V.to (l' := [some (.ref 40)]) ?_ rfl rfl rfl rfl
  refine V_aload_n (i := 0) d_Car_init_0 rfl rfl ?_
  refine V_objinit d_Car_init_1 lz_Car_1 (Nat.le_of_ble_eq_true rfl) ?_
  refine V_aload_n (i := 0) d_Car_init_4 rfl rfl ?_
  refine V_bipush (v := 20) d_Car_init_5 rfl ?_
  refine V_put d_Car_init_7 fl_Car_7 (by decide) hK (by decide) rfl rfl ?_
  refine V_aload_n (i := 0) d_Car_init_10 rfl rfl ?_
  refine V_iconst (v := 0) d_Car_init_11 rfl ?_
  refine V_put d_Car_init_12 fl_Car_13 (by decide) hK (by decide) rfl rfl ?_
  refine V_aload_n (i := 0) d_Car_init_15 rfl rfl ?_
  refine V_iconst (v := 0) d_Car_init_16 rfl ?_
  refine V_put d_Car_init_17 fl_Car_16 (by decide) hK (by decide) rfl rfl ?_
  refine V_aload_n (i := 0) d_Car_init_20 rfl rfl ?_
  refine V_iconst (v := 0) d_Car_init_21 rfl ?_
  refine V_put d_Car_init_22 fl_Car_19 (by decide) hK (by decide) rfl rfl ?_
  refine V_aload_n (i := 0) d_Car_init_25 rfl rfl ?_
  refine V_iconst (v := 0) d_Car_init_26 rfl ?_
  refine V_put d_Car_init_27 fl_Car_22 (by decide) hK (by decide) rfl rfl ?_
  refine V_aload_n (i := 0) d_Car_init_30 rfl rfl ?_
  refine V_iconst (v := 0) d_Car_init_31 rfl ?_
  refine V_put d_Car_init_32 fl_Car_25 (by decide) hK (by decide) rfl rfl ?_
  refine V_aload_n (i := 0) d_Car_init_35 rfl rfl ?_
  refine V_iconst (v := 0) d_Car_init_36 rfl ?_
  refine V_put d_Car_init_37 fl_Car_28 (by decide) hK (by decide) rfl rfl ?_
  refine V_aload_n (i := 0) d_Car_init_40 rfl rfl ?_
  refine V_iconst (v := 0) d_Car_init_41 rfl ?_
  refine V_put d_Car_init_42 fl_Car_31 (by decide) hK (by decide) rfl rfl ?_
  exact V_return d_Car_init_45 rfl hQ
def kk_21 (K : Nat → Nat × Nat) : Nat → Nat × Nat := K
def ff_21 (f : Nat → Nat → Value) : Nat → Nat → Value := (xup (xup (xup (xup (xup (xup (xup (xup f 41 0 (.int (20 : Int32))) 41 1 (.int (0 : Int32))) 41 2 (.int (0 : Int32))) 41 3 (.int (0 : Int32))) 41 4 (.int (0 : Int32))) 41 5 (.int (0 : Int32))) 41 6 (.int (0 : Int32))) 41 7 (.int (0 : Int32)))
set_option maxRecDepth 4000 in
theorem ki_21 {d : Nat} {K : Nat → Nat × Nat} {f : Nat → Nat → Value} {Q : Option Value → xH → Prop} (hK : K 41 = (0, 8)) (hQ : Q none ((42, 812), kk_21 K, ff_21 f)) : V (d + 1) 42 812 m_Car_init 0 (xEntry [.ref 41] 1) [] ((42, 812), K, f) Q := by
  refine V.to (l' := [some (.ref 41)]) ?_ rfl rfl rfl rfl
  refine V_aload_n (i := 0) d_Car_init_0 rfl rfl ?_
  refine V_objinit d_Car_init_1 lz_Car_1 (Nat.le_of_ble_eq_true rfl) ?_
  refine V_aload_n (i := 0) d_Car_init_4 rfl rfl ?_
  refine V_bipush (v := 20) d_Car_init_5 rfl ?_
  refine V_put d_Car_init_7 fl_Car_7 (by decide) hK (by decide) rfl rfl ?_
  refine V_aload_n (i := 0) d_Car_init_10 rfl rfl ?_
  refine V_iconst (v := 0) d_Car_init_11 rfl ?_
  refine V_put d_Car_init_12 fl_Car_13 (by decide) hK (by decide) rfl rfl ?_
  refine V_aload_n (i := 0) d_Car_init_15 rfl rfl ?_
  refine V_iconst (v := 0) d_Car_init_16 rfl ?_
  refine V_put d_Car_init_17 fl_Car_16 (by decide) hK (by decide) rfl rfl ?_
  refine V_aload_n (i := 0) d_Car_init_20 rfl rfl ?_
  refine V_iconst (v := 0) d_Car_init_21 rfl ?_
  refine V_put d_Car_init_22 fl_Car_19 (by decide) hK (by decide) rfl rfl ?_
  refine V_aload_n (i := 0) d_Car_init_25 rfl rfl ?_
  refine V_iconst (v := 0) d_Car_init_26 rfl ?_
  refine V_put d_Car_init_27 fl_Car_22 (by decide) hK (by decide) rfl rfl ?_
  refine V_aload_n (i := 0) d_Car_init_30 rfl rfl ?_
  refine V_iconst (v := 0) d_Car_init_31 rfl ?_
  refine V_put d_Car_init_32 fl_Car_25 (by decide) hK (by decide) rfl rfl ?_
  refine V_aload_n (i := 0) d_Car_init_35 rfl rfl ?_
  refine V_iconst (v := 0) d_Car_init_36 rfl ?_
  refine V_put d_Car_init_37 fl_Car_28 (by decide) hK (by decide) rfl rfl ?_
  refine V_aload_n (i := 0) d_Car_init_40 rfl rfl ?_
  refine V_iconst (v := 0) d_Car_init_41 rfl ?_
  refine V_put d_Car_init_42 fl_Car_31 (by decide) hK (by decide) rfl rfl ?_
  exact V_return d_Car_init_45 rfl hQ
def kk_22 (K : Nat → Nat × Nat) : Nat → Nat × Nat := K
def ff_22 (f : Nat → Nat → Value) : Nat → Nat → Value := (xup (xup (xup (xup (xup (xup (xup (xup f 42 0 (.int (20 : Int32))) 42 1 (.int (0 : Int32))) 42 2 (.int (0 : Int32))) 42 3 (.int (0 : Int32))) 42 4 (.int (0 : Int32))) 42 5 (.int (0 : Int32))) 42 6 (.int (0 : Int32))) 42 7 (.int (0 : Int32)))
set_option maxRecDepth 4000 in
theorem ki_22 {d : Nat} {K : Nat → Nat × Nat} {f : Nat → Nat → Value} {Q : Option Value → xH → Prop} (hK : K 42 = (0, 8)) (hQ : Q none ((43, 820), kk_22 K, ff_22 f)) : V (d + 1) 43 820 m_Car_init 0 (xEntry [.ref 42] 1) [] ((43, 820), K, f) Q := by
  refine V.to (l' := [some (.ref 42)]) ?_ rfl rfl rfl rfl
  refine V_aload_n (i := 0) d_Car_init_0 rfl rfl ?_
  refine V_objinit d_Car_init_1 lz_Car_1 (Nat.le_of_ble_eq_true rfl) ?_
  refine V_aload_n (i := 0) d_Car_init_4 rfl rfl ?_
  refine V_bipush (v := 20) d_Car_init_5 rfl ?_
  refine V_put d_Car_init_7 fl_Car_7 (by decide) hK (by decide) rfl rfl ?_
  refine V_aload_n (i := 0) d_Car_init_10 rfl rfl ?_
  refine V_iconst (v := 0) d_Car_init_11 rfl ?_
  refine V_put d_Car_init_12 fl_Car_13 (by decide) hK (by decide) rfl rfl ?_
  refine V_aload_n (i := 0) d_Car_init_15 rfl rfl ?_
  refine V_iconst (v := 0) d_Car_init_16 rfl ?_
  refine V_put d_Car_init_17 fl_Car_16 (by decide) hK (by decide) rfl rfl ?_
  refine V_aload_n (i := 0) d_Car_init_20 rfl rfl ?_
  refine V_iconst (v := 0) d_Car_init_21 rfl ?_
  refine V_put d_Car_init_22 fl_Car_19 (by decide) hK (by decide) rfl rfl ?_
  refine V_aload_n (i := 0) d_Car_init_25 rfl rfl ?_
  refine V_iconst (v := 0) d_Car_init_26 rfl ?_
  refine V_put d_Car_init_27 fl_Car_22 (by decide) hK (by decide) rfl rfl ?_
  refine V_aload_n (i := 0) d_Car_init_30 rfl rfl ?_
  refine V_iconst (v := 0) d_Car_init_31 rfl ?_
  refine V_put d_Car_init_32 fl_Car_25 (by decide) hK (by decide) rfl rfl ?_
  refine V_aload_n (i := 0) d_Car_init_35 rfl rfl ?_
  refine V_iconst (v := 0) d_Car_init_36 rfl ?_
  refine V_put d_Car_init_37 fl_Car_28 (by decide) hK (by decide) rfl rfl ?_
  refine V_aload_n (i := 0) d_Car_init_40 rfl rfl ?_
  refine V_iconst (v := 0) d_Car_init_41 rfl ?_
  refine V_put d_Car_init_42 fl_Car_31 (by decide) hK (by decide) rfl rfl ?_
  exact V_return d_Car_init_45 rfl hQ
def kk_16 (K : Nat → Nat × Nat) : Nat → Nat × Nat := (kk_22 (xkup (kk_21 (xkup (kk_20 (xkup (kk_19 (xkup (kk_18 (xkup (xkup (xkup (kk_17 (xkup (xkup K 33 (101 + 1, 5)) 34 (2, 2))) 36 (100, 4)) 37 (100, 4)) 38 (0, 8))) 39 (0, 8))) 40 (0, 8))) 41 (0, 8))) 42 (0, 8)))
def ff_16 (f : Nat → Nat → Value) : Nat → Nat → Value := (xup (ff_22 (xrow (xup (ff_21 (xrow (xup (ff_20 (xrow (xup (ff_19 (xrow (xup (ff_18 (xrow (xup (xup (xup (xup (xup (xup (xrow (xup (xrow (xup (ff_17 (xrow (xup (xrow f 33 (fun _ => .null)) 32 0 (.ref 33)) 34 xdf2)) 32 1 (.ref 34)) 36 (fun _ => .int 0)) 32 2 (.ref 36)) 37 (fun _ => .int 0)) 32 3 (.ref 37)) 32 4 (.int (0 : Int32))) 32 5 (.int (0 : Int32))) 32 6 (.int (0 : Int32))) 32 7 (.int (0 : Int32))) 32 8 (.int (0 : Int32))) 38 xdf0)) 33 0 (.ref 38)) 39 xdf0)) 33 1 (.ref 39)) 40 xdf0)) 33 2 (.ref 40)) 41 xdf0)) 33 3 (.ref 41)) 42 xdf0)) 33 4 (.ref 42))
set_option maxRecDepth 4000 in
theorem ki_16 {d : Nat} {K : Nat → Nat × Nat} {f : Nat → Nat → Value} {Q : Option Value → xH → Prop} (hK : K 32 = (5, 9)) (hQ : Q none ((43, 820), kk_16 K, ff_16 f)) : V (d + 2) 43 820 m_Rows_init 0 (xEntry [.ref 32] 2) [] ((33, 762), K, f) Q := by
  refine V.to (l' := [some (.ref 32), none]) ?_ rfl rfl rfl rfl
  refine V_aload_n (i := 0) d_Rows_init_0 rfl rfl ?_
  refine V_objinit d_Rows_init_1 lz_Rows_3 (Nat.le_of_ble_eq_true rfl) ?_
  refine V_aload_n (i := 0) d_Rows_init_4 rfl rfl ?_
  refine V_iconst (v := 5) d_Rows_init_5 rfl ?_
  refine V_anewarrayL (N := 5) (t := 1) (n' := 34) (w' := 767) d_Rows_init_6 (by decide) rfl rfl rfl (by decide) (by decide) (by decide) (by decide) (by decide) cl_Rows_11 av_Car ?_
  refine V_putF d_Rows_init_9 ff_Rows_13 rfl (by decide) hK (by decide) rfl rfl ?_
  refine V_aload_n (i := 0) d_Rows_init_12 rfl rfl ?_
  refine V_newL (n' := 35) (w' := 769) d_Rows_init_13 nw_Rows_17 ⟨_, xY2, rfl, xFt2, xdv2⟩ rfl rfl (by decide) (by decide) (by decide) xdn2 ?_
  refine V_dup d_Rows_init_16 rfl ?_
  refine V_iconst (v := 3) d_Rows_init_17 rfl ?_
  refine V_callI' (n' := 36) (w' := 772) [.int (3 : Int32)] d_Rows_init_18 rfl rfl lk_Rows_19 mo_Nums_init (Nat.le_of_ble_eq_true rfl) (Nat.le_of_ble_eq_true rfl) (Nat.le_of_ble_eq_true rfl) (Nat.le_of_ble_eq_true rfl) (Nat.le_of_ble_eq_true rfl) (Nat.le_of_ble_eq_true rfl) ?_
  refine ki_17 rfl ⟨rfl, ?_⟩
  refine V.to (st' := [.ref 34, .ref 32]) ?_ rfl rfl rfl rfl
  refine V_putF d_Rows_init_21 ff_Rows_22 rfl (by decide) hK (by decide) rfl rfl ?_
  refine V_aload_n (i := 0) d_Rows_init_24 rfl rfl ?_
  refine V_iconst (v := 4) d_Rows_init_25 rfl ?_
  refine V_newarrayL (N := 4) (n' := 37) (w' := 776) d_Rows_init_26 (by decide) rfl rfl rfl (by decide) (by decide) (by decide) (by decide) ?_
  refine V_putF d_Rows_init_28 ff_Rows_26 rfl (by decide) hK (by decide) rfl rfl ?_
  refine V_aload_n (i := 0) d_Rows_init_31 rfl rfl ?_
  refine V_iconst (v := 4) d_Rows_init_32 rfl ?_
  refine V_newarrayL (N := 4) (n' := 38) (w' := 780) d_Rows_init_33 (by decide) rfl rfl rfl (by decide) (by decide) (by decide) (by decide) ?_
  refine V_putF d_Rows_init_35 ff_Rows_30 rfl (by decide) hK (by decide) rfl rfl ?_
  refine V_aload_n (i := 0) d_Rows_init_38 rfl rfl ?_
  refine V_iconst (v := 0) d_Rows_init_39 rfl ?_
  refine V_put d_Rows_init_40 fl_Rows_33 (by decide) hK (by decide) rfl rfl ?_
  refine V_aload_n (i := 0) d_Rows_init_43 rfl rfl ?_
  refine V_iconst (v := 0) d_Rows_init_44 rfl ?_
  refine V_put d_Rows_init_45 fl_Rows_37 (by decide) hK (by decide) rfl rfl ?_
  refine V_aload_n (i := 0) d_Rows_init_48 rfl rfl ?_
  refine V_iconst (v := 0) d_Rows_init_49 rfl ?_
  refine V_put d_Rows_init_50 fl_Rows_40 (by decide) hK (by decide) rfl rfl ?_
  refine V_aload_n (i := 0) d_Rows_init_53 rfl rfl ?_
  refine V_iconst (v := 0) d_Rows_init_54 rfl ?_
  refine V_put d_Rows_init_55 fl_Rows_43 (by decide) hK (by decide) rfl rfl ?_
  refine V_aload_n (i := 0) d_Rows_init_58 rfl rfl ?_
  refine V_iconst (v := 0) d_Rows_init_59 rfl ?_
  refine V_put d_Rows_init_60 fl_Rows_46 (by decide) hK (by decide) rfl rfl ?_
  refine V_iconst (v := 0) d_Rows_init_63 rfl ?_
  refine V_istore_n (i := 1) (l' := [some (.ref 32), some (.int (0 : Int32))]) d_Rows_init_64 rfl (xst_r (Nat.le_of_ble_eq_true rfl) rfl rfl) ?_
  refine V_iload_n (i := 1) d_Rows_init_65 rfl rfl ?_
  refine V_aload_n (i := 0) d_Rows_init_66 rfl rfl ?_
  refine V_get d_Rows_init_67 fl_Rows_13 (by decide) hK (by decide) ?_
  refine V.to (st' := [.ref 33, .int (0 : Int32)]) ?_ rfl rfl rfl rfl
  refine V_alen (t := 2) (len := 5) d_Rows_init_70 (by decide) rfl (by decide) ?_
  refine V.to (st' := [.int (5 : Int32), .int (0 : Int32)]) ?_ rfl rfl rfl rfl
  refine V_icmp_ge (tgt := 93) d_Rows_init_71 rfl (fun c => absurd c (by decide)) (fun _ => ?_)
  refine V_aload_n (i := 0) d_Rows_init_74 rfl rfl ?_
  refine V_get d_Rows_init_75 fl_Rows_13 (by decide) hK (by decide) ?_
  refine V.to (st' := [.ref 33]) ?_ rfl rfl rfl rfl
  refine V_iload_n (i := 1) d_Rows_init_78 rfl rfl ?_
  refine V_newL (n' := 39) (w' := 788) d_Rows_init_79 nw_Rows_11 ⟨_, xY0, rfl, xFt0, xdv0⟩ rfl rfl (by decide) (by decide) (by decide) xdn0 ?_
  refine V_dup d_Rows_init_82 rfl ?_
  refine V_callI' (n' := 39) (w' := 788) [] d_Rows_init_83 rfl rfl lk_Rows_49 mo_Car_init (Nat.le_of_ble_eq_true rfl) (Nat.le_of_ble_eq_true rfl) (Nat.le_of_ble_eq_true rfl) (Nat.le_of_ble_eq_true rfl) (Nat.le_of_ble_eq_true rfl) (Nat.le_of_ble_eq_true rfl) ?_
  refine ki_18 rfl ⟨rfl, ?_⟩
  refine V.to (st' := [.ref 38, .int (0 : Int32), .ref 33]) ?_ rfl rfl rfl rfl
  refine V_aastore (t := 1) (ci := 0) (sz := 8) d_Rows_init_86 (by decide) rfl (by decide) rfl (by decide) (xixA (n := 0) rfl (by decide) (by decide)) ?_
  refine V.to (h' := ((39, 788), (kk_18 (xkup (xkup (xkup (kk_17 (xkup (xkup K 33 (101 + 1, 5)) 34 (2, 2))) 36 (100, 4)) 37 (100, 4)) 38 (0, 8))), (xup (ff_18 (xrow (xup (xup (xup (xup (xup (xup (xrow (xup (xrow (xup (ff_17 (xrow (xup (xrow f 33 (fun _ => .null)) 32 0 (.ref 33)) 34 xdf2)) 32 1 (.ref 34)) 36 (fun _ => .int 0)) 32 2 (.ref 36)) 37 (fun _ => .int 0)) 32 3 (.ref 37)) 32 4 (.int (0 : Int32))) 32 5 (.int (0 : Int32))) 32 6 (.int (0 : Int32))) 32 7 (.int (0 : Int32))) 32 8 (.int (0 : Int32))) 38 xdf0)) 33 0 (.ref 38)))) ?_ rfl rfl rfl rfl
  refine V_iinc (i := 1) (v := 1) (l' := [some (.ref 32), some (.int (1 : Int32))]) d_Rows_init_87 rfl rfl (xst_r (Nat.le_of_ble_eq_true rfl) rfl rfl) ?_
  refine V_goto (tgt := 65) d_Rows_init_90 rfl ?_
  refine V_iload_n (i := 1) d_Rows_init_65 rfl rfl ?_
  refine V_aload_n (i := 0) d_Rows_init_66 rfl rfl ?_
  refine V_get d_Rows_init_67 fl_Rows_13 (by decide) hK (by decide) ?_
  refine V.to (st' := [.ref 33, .int (1 : Int32)]) ?_ rfl rfl rfl rfl
  refine V_alen (t := 2) (len := 5) d_Rows_init_70 (by decide) rfl (by decide) ?_
  refine V.to (st' := [.int (5 : Int32), .int (1 : Int32)]) ?_ rfl rfl rfl rfl
  refine V_icmp_ge (tgt := 93) d_Rows_init_71 rfl (fun c => absurd c (by decide)) (fun _ => ?_)
  refine V_aload_n (i := 0) d_Rows_init_74 rfl rfl ?_
  refine V_get d_Rows_init_75 fl_Rows_13 (by decide) hK (by decide) ?_
  refine V.to (st' := [.ref 33]) ?_ rfl rfl rfl rfl
  refine V_iload_n (i := 1) d_Rows_init_78 rfl rfl ?_
  refine V_newL (n' := 40) (w' := 796) d_Rows_init_79 nw_Rows_11 ⟨_, xY0, rfl, xFt0, xdv0⟩ rfl rfl (by decide) (by decide) (by decide) xdn0 ?_
  refine V_dup d_Rows_init_82 rfl ?_
  refine V_callI' (n' := 40) (w' := 796) [] d_Rows_init_83 rfl rfl lk_Rows_49 mo_Car_init (Nat.le_of_ble_eq_true rfl) (Nat.le_of_ble_eq_true rfl) (Nat.le_of_ble_eq_true rfl) (Nat.le_of_ble_eq_true rfl) (Nat.le_of_ble_eq_true rfl) (Nat.le_of_ble_eq_true rfl) ?_
  refine ki_19 rfl ⟨rfl, ?_⟩
  refine V.to (st' := [.ref 39, .int (1 : Int32), .ref 33]) ?_ rfl rfl rfl rfl
  refine V_aastore (t := 1) (ci := 0) (sz := 8) d_Rows_init_86 (by decide) rfl (by decide) rfl (by decide) (xixA (n := 1) rfl (by decide) (by decide)) ?_
  refine V.to (h' := ((40, 796), (kk_19 (xkup (kk_18 (xkup (xkup (xkup (kk_17 (xkup (xkup K 33 (101 + 1, 5)) 34 (2, 2))) 36 (100, 4)) 37 (100, 4)) 38 (0, 8))) 39 (0, 8))), (xup (ff_19 (xrow (xup (ff_18 (xrow (xup (xup (xup (xup (xup (xup (xrow (xup (xrow (xup (ff_17 (xrow (xup (xrow f 33 (fun _ => .null)) 32 0 (.ref 33)) 34 xdf2)) 32 1 (.ref 34)) 36 (fun _ => .int 0)) 32 2 (.ref 36)) 37 (fun _ => .int 0)) 32 3 (.ref 37)) 32 4 (.int (0 : Int32))) 32 5 (.int (0 : Int32))) 32 6 (.int (0 : Int32))) 32 7 (.int (0 : Int32))) 32 8 (.int (0 : Int32))) 38 xdf0)) 33 0 (.ref 38)) 39 xdf0)) 33 1 (.ref 39)))) ?_ rfl rfl rfl rfl
  refine V_iinc (i := 1) (v := 2) (l' := [some (.ref 32), some (.int (2 : Int32))]) d_Rows_init_87 rfl rfl (xst_r (Nat.le_of_ble_eq_true rfl) rfl rfl) ?_
  refine V_goto (tgt := 65) d_Rows_init_90 rfl ?_
  refine V_iload_n (i := 1) d_Rows_init_65 rfl rfl ?_
  refine V_aload_n (i := 0) d_Rows_init_66 rfl rfl ?_
  refine V_get d_Rows_init_67 fl_Rows_13 (by decide) hK (by decide) ?_
  refine V.to (st' := [.ref 33, .int (2 : Int32)]) ?_ rfl rfl rfl rfl
  refine V_alen (t := 2) (len := 5) d_Rows_init_70 (by decide) rfl (by decide) ?_
  refine V.to (st' := [.int (5 : Int32), .int (2 : Int32)]) ?_ rfl rfl rfl rfl
  refine V_icmp_ge (tgt := 93) d_Rows_init_71 rfl (fun c => absurd c (by decide)) (fun _ => ?_)
  refine V_aload_n (i := 0) d_Rows_init_74 rfl rfl ?_
  refine V_get d_Rows_init_75 fl_Rows_13 (by decide) hK (by decide) ?_
  refine V.to (st' := [.ref 33]) ?_ rfl rfl rfl rfl
  refine V_iload_n (i := 1) d_Rows_init_78 rfl rfl ?_
  refine V_newL (n' := 41) (w' := 804) d_Rows_init_79 nw_Rows_11 ⟨_, xY0, rfl, xFt0, xdv0⟩ rfl rfl (by decide) (by decide) (by decide) xdn0 ?_
  refine V_dup d_Rows_init_82 rfl ?_
  refine V_callI' (n' := 41) (w' := 804) [] d_Rows_init_83 rfl rfl lk_Rows_49 mo_Car_init (Nat.le_of_ble_eq_true rfl) (Nat.le_of_ble_eq_true rfl) (Nat.le_of_ble_eq_true rfl) (Nat.le_of_ble_eq_true rfl) (Nat.le_of_ble_eq_true rfl) (Nat.le_of_ble_eq_true rfl) ?_
  refine ki_20 rfl ⟨rfl, ?_⟩
  refine V.to (st' := [.ref 40, .int (2 : Int32), .ref 33]) ?_ rfl rfl rfl rfl
  refine V_aastore (t := 1) (ci := 0) (sz := 8) d_Rows_init_86 (by decide) rfl (by decide) rfl (by decide) (xixA (n := 2) rfl (by decide) (by decide)) ?_
  refine V.to (h' := ((41, 804), (kk_20 (xkup (kk_19 (xkup (kk_18 (xkup (xkup (xkup (kk_17 (xkup (xkup K 33 (101 + 1, 5)) 34 (2, 2))) 36 (100, 4)) 37 (100, 4)) 38 (0, 8))) 39 (0, 8))) 40 (0, 8))), (xup (ff_20 (xrow (xup (ff_19 (xrow (xup (ff_18 (xrow (xup (xup (xup (xup (xup (xup (xrow (xup (xrow (xup (ff_17 (xrow (xup (xrow f 33 (fun _ => .null)) 32 0 (.ref 33)) 34 xdf2)) 32 1 (.ref 34)) 36 (fun _ => .int 0)) 32 2 (.ref 36)) 37 (fun _ => .int 0)) 32 3 (.ref 37)) 32 4 (.int (0 : Int32))) 32 5 (.int (0 : Int32))) 32 6 (.int (0 : Int32))) 32 7 (.int (0 : Int32))) 32 8 (.int (0 : Int32))) 38 xdf0)) 33 0 (.ref 38)) 39 xdf0)) 33 1 (.ref 39)) 40 xdf0)) 33 2 (.ref 40)))) ?_ rfl rfl rfl rfl
  refine V_iinc (i := 1) (v := 3) (l' := [some (.ref 32), some (.int (3 : Int32))]) d_Rows_init_87 rfl rfl (xst_r (Nat.le_of_ble_eq_true rfl) rfl rfl) ?_
  refine V_goto (tgt := 65) d_Rows_init_90 rfl ?_
  refine V_iload_n (i := 1) d_Rows_init_65 rfl rfl ?_
  refine V_aload_n (i := 0) d_Rows_init_66 rfl rfl ?_
  refine V_get d_Rows_init_67 fl_Rows_13 (by decide) hK (by decide) ?_
  refine V.to (st' := [.ref 33, .int (3 : Int32)]) ?_ rfl rfl rfl rfl
  refine V_alen (t := 2) (len := 5) d_Rows_init_70 (by decide) rfl (by decide) ?_
  refine V.to (st' := [.int (5 : Int32), .int (3 : Int32)]) ?_ rfl rfl rfl rfl
  refine V_icmp_ge (tgt := 93) d_Rows_init_71 rfl (fun c => absurd c (by decide)) (fun _ => ?_)
  refine V_aload_n (i := 0) d_Rows_init_74 rfl rfl ?_
  refine V_get d_Rows_init_75 fl_Rows_13 (by decide) hK (by decide) ?_
  refine V.to (st' := [.ref 33]) ?_ rfl rfl rfl rfl
  refine V_iload_n (i := 1) d_Rows_init_78 rfl rfl ?_
  refine V_newL (n' := 42) (w' := 812) d_Rows_init_79 nw_Rows_11 ⟨_, xY0, rfl, xFt0, xdv0⟩ rfl rfl (by decide) (by decide) (by decide) xdn0 ?_
  refine V_dup d_Rows_init_82 rfl ?_
  refine V_callI' (n' := 42) (w' := 812) [] d_Rows_init_83 rfl rfl lk_Rows_49 mo_Car_init (Nat.le_of_ble_eq_true rfl) (Nat.le_of_ble_eq_true rfl) (Nat.le_of_ble_eq_true rfl) (Nat.le_of_ble_eq_true rfl) (Nat.le_of_ble_eq_true rfl) (Nat.le_of_ble_eq_true rfl) ?_
  refine ki_21 rfl ⟨rfl, ?_⟩
  refine V.to (st' := [.ref 41, .int (3 : Int32), .ref 33]) ?_ rfl rfl rfl rfl
  refine V_aastore (t := 1) (ci := 0) (sz := 8) d_Rows_init_86 (by decide) rfl (by decide) rfl (by decide) (xixA (n := 3) rfl (by decide) (by decide)) ?_
  refine V.to (h' := ((42, 812), (kk_21 (xkup (kk_20 (xkup (kk_19 (xkup (kk_18 (xkup (xkup (xkup (kk_17 (xkup (xkup K 33 (101 + 1, 5)) 34 (2, 2))) 36 (100, 4)) 37 (100, 4)) 38 (0, 8))) 39 (0, 8))) 40 (0, 8))) 41 (0, 8))), (xup (ff_21 (xrow (xup (ff_20 (xrow (xup (ff_19 (xrow (xup (ff_18 (xrow (xup (xup (xup (xup (xup (xup (xrow (xup (xrow (xup (ff_17 (xrow (xup (xrow f 33 (fun _ => .null)) 32 0 (.ref 33)) 34 xdf2)) 32 1 (.ref 34)) 36 (fun _ => .int 0)) 32 2 (.ref 36)) 37 (fun _ => .int 0)) 32 3 (.ref 37)) 32 4 (.int (0 : Int32))) 32 5 (.int (0 : Int32))) 32 6 (.int (0 : Int32))) 32 7 (.int (0 : Int32))) 32 8 (.int (0 : Int32))) 38 xdf0)) 33 0 (.ref 38)) 39 xdf0)) 33 1 (.ref 39)) 40 xdf0)) 33 2 (.ref 40)) 41 xdf0)) 33 3 (.ref 41)))) ?_ rfl rfl rfl rfl
  refine V_iinc (i := 1) (v := 4) (l' := [some (.ref 32), some (.int (4 : Int32))]) d_Rows_init_87 rfl rfl (xst_r (Nat.le_of_ble_eq_true rfl) rfl rfl) ?_
  refine V_goto (tgt := 65) d_Rows_init_90 rfl ?_
  refine V_iload_n (i := 1) d_Rows_init_65 rfl rfl ?_
  refine V_aload_n (i := 0) d_Rows_init_66 rfl rfl ?_
  refine V_get d_Rows_init_67 fl_Rows_13 (by decide) hK (by decide) ?_
  refine V.to (st' := [.ref 33, .int (4 : Int32)]) ?_ rfl rfl rfl rfl
  refine V_alen (t := 2) (len := 5) d_Rows_init_70 (by decide) rfl (by decide) ?_
  refine V.to (st' := [.int (5 : Int32), .int (4 : Int32)]) ?_ rfl rfl rfl rfl
  refine V_icmp_ge (tgt := 93) d_Rows_init_71 rfl (fun c => absurd c (by decide)) (fun _ => ?_)
  refine V_aload_n (i := 0) d_Rows_init_74 rfl rfl ?_
  refine V_get d_Rows_init_75 fl_Rows_13 (by decide) hK (by decide) ?_
  refine V.to (st' := [.ref 33]) ?_ rfl rfl rfl rfl
  refine V_iload_n (i := 1) d_Rows_init_78 rfl rfl ?_
  refine V_newL (n' := 43) (w' := 820) d_Rows_init_79 nw_Rows_11 ⟨_, xY0, rfl, xFt0, xdv0⟩ rfl rfl (by decide) (by decide) (by decide) xdn0 ?_
  refine V_dup d_Rows_init_82 rfl ?_
  refine V_callI' (n' := 43) (w' := 820) [] d_Rows_init_83 rfl rfl lk_Rows_49 mo_Car_init (Nat.le_of_ble_eq_true rfl) (Nat.le_of_ble_eq_true rfl) (Nat.le_of_ble_eq_true rfl) (Nat.le_of_ble_eq_true rfl) (Nat.le_of_ble_eq_true rfl) (Nat.le_of_ble_eq_true rfl) ?_
  refine ki_22 rfl ⟨rfl, ?_⟩
  refine V.to (st' := [.ref 42, .int (4 : Int32), .ref 33]) ?_ rfl rfl rfl rfl
  refine V_aastore (t := 1) (ci := 0) (sz := 8) d_Rows_init_86 (by decide) rfl (by decide) rfl (by decide) (xixA (n := 4) rfl (by decide) (by decide)) ?_
  refine V.to (h' := ((43, 820), (kk_22 (xkup (kk_21 (xkup (kk_20 (xkup (kk_19 (xkup (kk_18 (xkup (xkup (xkup (kk_17 (xkup (xkup K 33 (101 + 1, 5)) 34 (2, 2))) 36 (100, 4)) 37 (100, 4)) 38 (0, 8))) 39 (0, 8))) 40 (0, 8))) 41 (0, 8))) 42 (0, 8))), (xup (ff_22 (xrow (xup (ff_21 (xrow (xup (ff_20 (xrow (xup (ff_19 (xrow (xup (ff_18 (xrow (xup (xup (xup (xup (xup (xup (xrow (xup (xrow (xup (ff_17 (xrow (xup (xrow f 33 (fun _ => .null)) 32 0 (.ref 33)) 34 xdf2)) 32 1 (.ref 34)) 36 (fun _ => .int 0)) 32 2 (.ref 36)) 37 (fun _ => .int 0)) 32 3 (.ref 37)) 32 4 (.int (0 : Int32))) 32 5 (.int (0 : Int32))) 32 6 (.int (0 : Int32))) 32 7 (.int (0 : Int32))) 32 8 (.int (0 : Int32))) 38 xdf0)) 33 0 (.ref 38)) 39 xdf0)) 33 1 (.ref 39)) 40 xdf0)) 33 2 (.ref 40)) 41 xdf0)) 33 3 (.ref 41)) 42 xdf0)) 33 4 (.ref 42)))) ?_ rfl rfl rfl rfl
  refine V_iinc (i := 1) (v := 5) (l' := [some (.ref 32), some (.int (5 : Int32))]) d_Rows_init_87 rfl rfl (xst_r (Nat.le_of_ble_eq_true rfl) rfl rfl) ?_
  refine V_goto (tgt := 65) d_Rows_init_90 rfl ?_
  refine V_iload_n (i := 1) d_Rows_init_65 rfl rfl ?_
  refine V_aload_n (i := 0) d_Rows_init_66 rfl rfl ?_
  refine V_get d_Rows_init_67 fl_Rows_13 (by decide) hK (by decide) ?_
  refine V.to (st' := [.ref 33, .int (5 : Int32)]) ?_ rfl rfl rfl rfl
  refine V_alen (t := 2) (len := 5) d_Rows_init_70 (by decide) rfl (by decide) ?_
  refine V.to (st' := [.int (5 : Int32), .int (5 : Int32)]) ?_ rfl rfl rfl rfl
  refine V_icmp_ge (tgt := 93) d_Rows_init_71 rfl (fun _ => ?_) (fun c => absurd (by decide) c)
  exact V_return d_Rows_init_93 rfl hQ
def kk_24 (K : Nat → Nat × Nat) : Nat → Nat × Nat := (xkup K 45 (100, 60))
def ff_24 (f : Nat → Nat → Value) : Nat → Nat → Value := (xup (xrow (xup f 44 1 (.int (0 : Int32))) 45 (fun _ => .int 0)) 44 0 (.ref 45))
set_option maxRecDepth 4000 in
theorem ki_24 {d : Nat} {K : Nat → Nat × Nat} {f : Nat → Nat → Value} {Q : Option Value → xH → Prop} (hK : K 44 = (2, 2)) (hQ : Q none ((46, 886), kk_24 K, ff_24 f)) : V (d + 1) 46 886 m_Nums_init 0 (xEntry [.ref 44, .int (60 : Int32)] 2) [] ((45, 826), K, f) Q := by
  refine V.to (l' := [some (.ref 44), some (.int (60 : Int32))]) ?_ rfl rfl rfl rfl
  refine V_aload_n (i := 0) d_Nums_init_0 rfl rfl ?_
  refine V_objinit d_Nums_init_1 lz_Nums_1 (Nat.le_of_ble_eq_true rfl) ?_
  refine V_aload_n (i := 0) d_Nums_init_4 rfl rfl ?_
  refine V_iconst (v := 0) d_Nums_init_5 rfl ?_
  refine V_put d_Nums_init_6 fl_Nums_7 (by decide) hK (by decide) rfl rfl ?_
  refine V_aload_n (i := 0) d_Nums_init_9 rfl rfl ?_
  refine V_iload_n (i := 1) d_Nums_init_10 rfl rfl ?_
  refine V_iconst (v := 0) d_Nums_init_11 rfl ?_
  refine V_mmax d_Nums_init_12 lz_Nums_13 (Nat.le_of_ble_eq_true rfl) (Nat.le_of_ble_eq_true rfl) (Nat.le_of_ble_eq_true rfl) ?_
  refine V.to (st' := [.int (60 : Int32), .ref 44]) ?_ rfl rfl (by rfl) rfl
  refine V_newarrayL (N := 60) (n' := 46) (w' := 886) d_Nums_init_15 (by decide) rfl rfl rfl (by decide) (by decide) (by decide) (by decide) ?_
  refine V_putF d_Nums_init_17 ff_Nums_19 rfl (by decide) hK (by decide) rfl rfl ?_
  exact V_return d_Nums_init_20 rfl hQ
def kk_25 (K : Nat → Nat × Nat) : Nat → Nat × Nat := (xkup K 47 (100, 60))
def ff_25 (f : Nat → Nat → Value) : Nat → Nat → Value := (xup (xrow (xup f 46 1 (.int (0 : Int32))) 47 (fun _ => .int 0)) 46 0 (.ref 47))
set_option maxRecDepth 4000 in
theorem ki_25 {d : Nat} {K : Nat → Nat × Nat} {f : Nat → Nat → Value} {Q : Option Value → xH → Prop} (hK : K 46 = (2, 2)) (hQ : Q none ((48, 948), kk_25 K, ff_25 f)) : V (d + 1) 48 948 m_Nums_init 0 (xEntry [.ref 46, .int (60 : Int32)] 2) [] ((47, 888), K, f) Q := by
  refine V.to (l' := [some (.ref 46), some (.int (60 : Int32))]) ?_ rfl rfl rfl rfl
  refine V_aload_n (i := 0) d_Nums_init_0 rfl rfl ?_
  refine V_objinit d_Nums_init_1 lz_Nums_1 (Nat.le_of_ble_eq_true rfl) ?_
  refine V_aload_n (i := 0) d_Nums_init_4 rfl rfl ?_
  refine V_iconst (v := 0) d_Nums_init_5 rfl ?_
  refine V_put d_Nums_init_6 fl_Nums_7 (by decide) hK (by decide) rfl rfl ?_
  refine V_aload_n (i := 0) d_Nums_init_9 rfl rfl ?_
  refine V_iload_n (i := 1) d_Nums_init_10 rfl rfl ?_
  refine V_iconst (v := 0) d_Nums_init_11 rfl ?_
  refine V_mmax d_Nums_init_12 lz_Nums_13 (Nat.le_of_ble_eq_true rfl) (Nat.le_of_ble_eq_true rfl) (Nat.le_of_ble_eq_true rfl) ?_
  refine V.to (st' := [.int (60 : Int32), .ref 46]) ?_ rfl rfl (by rfl) rfl
  refine V_newarrayL (N := 60) (n' := 48) (w' := 948) d_Nums_init_15 (by decide) rfl rfl rfl (by decide) (by decide) (by decide) (by decide) ?_
  refine V_putF d_Nums_init_17 ff_Nums_19 rfl (by decide) hK (by decide) rfl rfl ?_
  exact V_return d_Nums_init_20 rfl hQ
def kk_23 (K : Nat → Nat × Nat) : Nat → Nat × Nat := (kk_25 (xkup (kk_24 (xkup K 44 (2, 2))) 46 (2, 2)))
def ff_23 (f : Nat → Nat → Value) : Nat → Nat → Value := (xup (xup (xup (ff_25 (xrow (xup (ff_24 (xrow f 44 xdf2)) 43 0 (.ref 44)) 46 xdf2)) 43 1 (.ref 46)) 43 2 (.int (0 : Int32))) 43 3 (.int (0 : Int32)))
set_option maxRecDepth 4000 in
theorem ki_23 {d : Nat} {K : Nat → Nat × Nat} {f : Nat → Nat → Value} {Q : Option Value → xH → Prop} (hK : K 43 = (4, 4)) (hQ : Q none ((48, 948), kk_23 K, ff_23 f)) : V (d + 2) 48 948 m_Read_init 0 (xEntry [.ref 43] 1) [] ((44, 824), K, f) Q := by
  refine V.to (l' := [some (.ref 43)]) ?_ rfl rfl rfl rfl
  refine V_aload_n (i := 0) d_Read_init_0 rfl rfl ?_
  refine V_objinit d_Read_init_1 lz_Read_1 (Nat.le_of_ble_eq_true rfl) ?_
  refine V_aload_n (i := 0) d_Read_init_4 rfl rfl ?_
  refine V_newL (n' := 45) (w' := 826) d_Read_init_5 nw_Read_7 ⟨_, xY2, rfl, xFt2, xdv2⟩ rfl rfl (by decide) (by decide) (by decide) xdn2 ?_
  refine V_dup d_Read_init_8 rfl ?_
  refine V_bipush (v := 60) d_Read_init_9 rfl ?_
  refine V_callI' (n' := 46) (w' := 886) [.int (60 : Int32)] d_Read_init_11 rfl rfl lk_Read_11 mo_Nums_init (Nat.le_of_ble_eq_true rfl) (Nat.le_of_ble_eq_true rfl) (Nat.le_of_ble_eq_true rfl) (Nat.le_of_ble_eq_true rfl) (Nat.le_of_ble_eq_true rfl) (Nat.le_of_ble_eq_true rfl) ?_
  refine ki_24 rfl ⟨rfl, ?_⟩
  refine V.to (st' := [.ref 44, .ref 43]) ?_ rfl rfl rfl rfl
  refine V_putF d_Read_init_14 ff_Read_14 rfl (by decide) hK (by decide) rfl rfl ?_
  refine V_aload_n (i := 0) d_Read_init_17 rfl rfl ?_
  refine V_newL (n' := 47) (w' := 888) d_Read_init_18 nw_Read_7 ⟨_, xY2, rfl, xFt2, xdv2⟩ rfl rfl (by decide) (by decide) (by decide) xdn2 ?_
  refine V_dup d_Read_init_21 rfl ?_
  refine V_bipush (v := 60) d_Read_init_22 rfl ?_
  refine V_callI' (n' := 48) (w' := 948) [.int (60 : Int32)] d_Read_init_24 rfl rfl lk_Read_11 mo_Nums_init (Nat.le_of_ble_eq_true rfl) (Nat.le_of_ble_eq_true rfl) (Nat.le_of_ble_eq_true rfl) (Nat.le_of_ble_eq_true rfl) (Nat.le_of_ble_eq_true rfl) (Nat.le_of_ble_eq_true rfl) ?_
  refine ki_25 rfl ⟨rfl, ?_⟩
  refine V.to (st' := [.ref 46, .ref 43]) ?_ rfl rfl rfl rfl
  refine V_putF d_Read_init_27 ff_Read_20 rfl (by decide) hK (by decide) rfl rfl ?_
  refine V_aload_n (i := 0) d_Read_init_30 rfl rfl ?_
  refine V_iconst (v := 0) d_Read_init_31 rfl ?_
  refine V_put d_Read_init_32 fl_Read_23 (by decide) hK (by decide) rfl rfl ?_
  refine V_aload_n (i := 0) d_Read_init_35 rfl rfl ?_
  refine V_iconst (v := 0) d_Read_init_36 rfl ?_
  refine V_put d_Read_init_37 fl_Read_27 (by decide) hK (by decide) rfl rfl ?_
  exact V_return d_Read_init_40 rfl hQ
def kk_27 (K : Nat → Nat × Nat) : Nat → Nat × Nat := (xkup K 50 (100, 30))
def ff_27 (f : Nat → Nat → Value) : Nat → Nat → Value := (xup (xrow (xup f 49 1 (.int (0 : Int32))) 50 (fun _ => .int 0)) 49 0 (.ref 50))
set_option maxRecDepth 4000 in
theorem ki_27 {d : Nat} {K : Nat → Nat × Nat} {f : Nat → Nat → Value} {Q : Option Value → xH → Prop} (hK : K 49 = (2, 2)) (hQ : Q none ((51, 986), kk_27 K, ff_27 f)) : V (d + 1) 51 986 m_Nums_init 0 (xEntry [.ref 49, .int (30 : Int32)] 2) [] ((50, 956), K, f) Q := by
  refine V.to (l' := [some (.ref 49), some (.int (30 : Int32))]) ?_ rfl rfl rfl rfl
  refine V_aload_n (i := 0) d_Nums_init_0 rfl rfl ?_
  refine V_objinit d_Nums_init_1 lz_Nums_1 (Nat.le_of_ble_eq_true rfl) ?_
  refine V_aload_n (i := 0) d_Nums_init_4 rfl rfl ?_
  refine V_iconst (v := 0) d_Nums_init_5 rfl ?_
  refine V_put d_Nums_init_6 fl_Nums_7 (by decide) hK (by decide) rfl rfl ?_
  refine V_aload_n (i := 0) d_Nums_init_9 rfl rfl ?_
  refine V_iload_n (i := 1) d_Nums_init_10 rfl rfl ?_
  refine V_iconst (v := 0) d_Nums_init_11 rfl ?_
  refine V_mmax d_Nums_init_12 lz_Nums_13 (Nat.le_of_ble_eq_true rfl) (Nat.le_of_ble_eq_true rfl) (Nat.le_of_ble_eq_true rfl) ?_
  refine V.to (st' := [.int (30 : Int32), .ref 49]) ?_ rfl rfl (by rfl) rfl
  refine V_newarrayL (N := 30) (n' := 51) (w' := 986) d_Nums_init_15 (by decide) rfl rfl rfl (by decide) (by decide) (by decide) (by decide) ?_
  refine V_putF d_Nums_init_17 ff_Nums_19 rfl (by decide) hK (by decide) rfl rfl ?_
  exact V_return d_Nums_init_20 rfl hQ
def kk_26 (K : Nat → Nat × Nat) : Nat → Nat × Nat := (kk_27 (xkup K 49 (2, 2)))
def ff_26 (f : Nat → Nat → Value) : Nat → Nat → Value := (xup (xup (xup (xup (xup (xup (ff_27 (xrow f 49 xdf2)) 48 0 (.ref 49)) 48 1 (.int (0 : Int32))) 48 2 (.int (0 : Int32))) 48 3 (.int (0 : Int32))) 48 4 (.int (0 : Int32))) 48 5 (.int (0 : Int32)))
set_option maxRecDepth 4000 in
theorem ki_26 {d : Nat} {K : Nat → Nat × Nat} {f : Nat → Nat → Value} {Q : Option Value → xH → Prop} (hK : K 48 = (7, 6)) (hQ : Q none ((51, 986), kk_26 K, ff_26 f)) : V (d + 2) 51 986 m_Voi_init 0 (xEntry [.ref 48] 1) [] ((49, 954), K, f) Q := by
  refine V.to (l' := [some (.ref 48)]) ?_ rfl rfl rfl rfl
  refine V_aload_n (i := 0) d_Voi_init_0 rfl rfl ?_
  refine V_objinit d_Voi_init_1 lz_Voi_1 (Nat.le_of_ble_eq_true rfl) ?_
  refine V_aload_n (i := 0) d_Voi_init_4 rfl rfl ?_
  refine V_newL (n' := 50) (w' := 956) d_Voi_init_5 nw_Voi_7 ⟨_, xY2, rfl, xFt2, xdv2⟩ rfl rfl (by decide) (by decide) (by decide) xdn2 ?_
  refine V_dup d_Voi_init_8 rfl ?_
  refine V_bipush (v := 30) d_Voi_init_9 rfl ?_
  refine V_callI' (n' := 51) (w' := 986) [.int (30 : Int32)] d_Voi_init_11 rfl rfl lk_Voi_11 mo_Nums_init (Nat.le_of_ble_eq_true rfl) (Nat.le_of_ble_eq_true rfl) (Nat.le_of_ble_eq_true rfl) (Nat.le_of_ble_eq_true rfl) (Nat.le_of_ble_eq_true rfl) (Nat.le_of_ble_eq_true rfl) ?_
  refine ki_27 rfl ⟨rfl, ?_⟩
  refine V.to (st' := [.ref 49, .ref 48]) ?_ rfl rfl rfl rfl
  refine V_putF d_Voi_init_14 ff_Voi_14 rfl (by decide) hK (by decide) rfl rfl ?_
  refine V_aload_n (i := 0) d_Voi_init_17 rfl rfl ?_
  refine V_iconst (v := 0) d_Voi_init_18 rfl ?_
  refine V_put d_Voi_init_19 fl_Voi_18 (by decide) hK (by decide) rfl rfl ?_
  refine V_aload_n (i := 0) d_Voi_init_22 rfl rfl ?_
  refine V_iconst (v := 0) d_Voi_init_23 rfl ?_
  refine V_put d_Voi_init_24 fl_Voi_22 (by decide) hK (by decide) rfl rfl ?_
  refine V_aload_n (i := 0) d_Voi_init_27 rfl rfl ?_
  refine V_iconst (v := 0) d_Voi_init_28 rfl ?_
  refine V_put d_Voi_init_29 fl_Voi_25 (by decide) hK (by decide) rfl rfl ?_
  refine V_aload_n (i := 0) d_Voi_init_32 rfl rfl ?_
  refine V_iconst (v := 0) d_Voi_init_33 rfl ?_
  refine V_put d_Voi_init_34 fl_Voi_28 (by decide) hK (by decide) rfl rfl ?_
  refine V_aload_n (i := 0) d_Voi_init_37 rfl rfl ?_
  refine V_iconst (v := 0) d_Voi_init_38 rfl ?_
  refine V_put d_Voi_init_39 fl_Voi_31 (by decide) hK (by decide) rfl rfl ?_
  exact V_return d_Voi_init_42 rfl hQ
def kk_28 (K : Nat → Nat × Nat) : Nat → Nat × Nat := (xkup K 54 (100, 24))
def ff_28 (f : Nat → Nat → Value) : Nat → Nat → Value := (xup (xup (xup (xrow f 54 (fun _ => .int 0)) 53 0 (.ref 54)) 53 1 (.int (0 : Int32))) 53 2 (.int (0 : Int32)))
set_option maxRecDepth 4000 in
theorem ki_28 {d : Nat} {K : Nat → Nat × Nat} {f : Nat → Nat → Value} {Q : Option Value → xH → Prop} (hK : K 53 = (6, 3)) (hQ : Q none ((55, 1024), kk_28 K, ff_28 f)) : V (d + 1) 55 1024 m_Sheet_init 0 (xEntry [.ref 53] 1) [] ((54, 1000), K, f) Q := by
  refine V.to (l' := [some (.ref 53)]) ?_ rfl rfl rfl rfl
  refine V_aload_n (i := 0) d_Sheet_init_0 rfl rfl ?_
  refine V_objinit d_Sheet_init_1 lz_Sheet_1 (Nat.le_of_ble_eq_true rfl) ?_
  refine V_aload_n (i := 0) d_Sheet_init_4 rfl rfl ?_
  refine V_bipush (v := 24) d_Sheet_init_5 rfl ?_
  refine V_newarrayL (N := 24) (n' := 55) (w' := 1024) d_Sheet_init_7 (by decide) rfl rfl rfl (by decide) (by decide) (by decide) (by decide) ?_
  refine V_putF d_Sheet_init_9 ff_Sheet_9 rfl (by decide) hK (by decide) rfl rfl ?_
  refine V_aload_n (i := 0) d_Sheet_init_12 rfl rfl ?_
  refine V_iconst (v := 0) d_Sheet_init_13 rfl ?_
  refine V_put d_Sheet_init_14 fl_Sheet_13 (by decide) hK (by decide) rfl rfl ?_
  refine V_aload_n (i := 0) d_Sheet_init_17 rfl rfl ?_
  refine V_iconst (v := 0) d_Sheet_init_18 rfl ?_
  refine V_put d_Sheet_init_19 fl_Sheet_17 (by decide) hK (by decide) rfl rfl ?_
  exact V_return d_Sheet_init_22 rfl hQ
def kk_29 (K : Nat → Nat × Nat) : Nat → Nat × Nat := (xkup K 56 (100, 24))
def ff_29 (f : Nat → Nat → Value) : Nat → Nat → Value := (xup (xup (xup (xrow f 56 (fun _ => .int 0)) 55 0 (.ref 56)) 55 1 (.int (0 : Int32))) 55 2 (.int (0 : Int32)))
set_option maxRecDepth 4000 in
theorem ki_29 {d : Nat} {K : Nat → Nat × Nat} {f : Nat → Nat → Value} {Q : Option Value → xH → Prop} (hK : K 55 = (6, 3)) (hQ : Q none ((57, 1051), kk_29 K, ff_29 f)) : V (d + 1) 57 1051 m_Sheet_init 0 (xEntry [.ref 55] 1) [] ((56, 1027), K, f) Q := by
  refine V.to (l' := [some (.ref 55)]) ?_ rfl rfl rfl rfl
  refine V_aload_n (i := 0) d_Sheet_init_0 rfl rfl ?_
  refine V_objinit d_Sheet_init_1 lz_Sheet_1 (Nat.le_of_ble_eq_true rfl) ?_
  refine V_aload_n (i := 0) d_Sheet_init_4 rfl rfl ?_
  refine V_bipush (v := 24) d_Sheet_init_5 rfl ?_
  refine V_newarrayL (N := 24) (n' := 57) (w' := 1051) d_Sheet_init_7 (by decide) rfl rfl rfl (by decide) (by decide) (by decide) (by decide) ?_
  refine V_putF d_Sheet_init_9 ff_Sheet_9 rfl (by decide) hK (by decide) rfl rfl ?_
  refine V_aload_n (i := 0) d_Sheet_init_12 rfl rfl ?_
  refine V_iconst (v := 0) d_Sheet_init_13 rfl ?_
  refine V_put d_Sheet_init_14 fl_Sheet_13 (by decide) hK (by decide) rfl rfl ?_
  refine V_aload_n (i := 0) d_Sheet_init_17 rfl rfl ?_
  refine V_iconst (v := 0) d_Sheet_init_18 rfl ?_
  refine V_put d_Sheet_init_19 fl_Sheet_17 (by decide) hK (by decide) rfl rfl ?_
  exact V_return d_Sheet_init_22 rfl hQ
def kk_30 (K : Nat → Nat × Nat) : Nat → Nat × Nat := (xkup K 58 (100, 24))
def ff_30 (f : Nat → Nat → Value) : Nat → Nat → Value := (xup (xup (xup (xrow f 58 (fun _ => .int 0)) 57 0 (.ref 58)) 57 1 (.int (0 : Int32))) 57 2 (.int (0 : Int32)))
set_option maxRecDepth 4000 in
theorem ki_30 {d : Nat} {K : Nat → Nat × Nat} {f : Nat → Nat → Value} {Q : Option Value → xH → Prop} (hK : K 57 = (6, 3)) (hQ : Q none ((59, 1078), kk_30 K, ff_30 f)) : V (d + 1) 59 1078 m_Sheet_init 0 (xEntry [.ref 57] 1) [] ((58, 1054), K, f) Q := by
  refine V.to (l' := [some (.ref 57)]) ?_ rfl rfl rfl rfl
  refine V_aload_n (i := 0) d_Sheet_init_0 rfl rfl ?_
  refine V_objinit d_Sheet_init_1 lz_Sheet_1 (Nat.le_of_ble_eq_true rfl) ?_
  refine V_aload_n (i := 0) d_Sheet_init_4 rfl rfl ?_
  refine V_bipush (v := 24) d_Sheet_init_5 rfl ?_
  refine V_newarrayL (N := 24) (n' := 59) (w' := 1078) d_Sheet_init_7 (by decide) rfl rfl rfl (by decide) (by decide) (by decide) (by decide) ?_
  refine V_putF d_Sheet_init_9 ff_Sheet_9 rfl (by decide) hK (by decide) rfl rfl ?_
  refine V_aload_n (i := 0) d_Sheet_init_12 rfl rfl ?_
  refine V_iconst (v := 0) d_Sheet_init_13 rfl ?_
  refine V_put d_Sheet_init_14 fl_Sheet_13 (by decide) hK (by decide) rfl rfl ?_
  refine V_aload_n (i := 0) d_Sheet_init_17 rfl rfl ?_
  refine V_iconst (v := 0) d_Sheet_init_18 rfl ?_
  refine V_put d_Sheet_init_19 fl_Sheet_17 (by decide) hK (by decide) rfl rfl ?_
  exact V_return d_Sheet_init_22 rfl hQ
def kk_31 (K : Nat → Nat × Nat) : Nat → Nat × Nat := (xkup K 60 (100, 24))
def ff_31 (f : Nat → Nat → Value) : Nat → Nat → Value := (xup (xup (xup (xrow f 60 (fun _ => .int 0)) 59 0 (.ref 60)) 59 1 (.int (0 : Int32))) 59 2 (.int (0 : Int32)))
set_option maxRecDepth 4000 in
theorem ki_31 {d : Nat} {K : Nat → Nat × Nat} {f : Nat → Nat → Value} {Q : Option Value → xH → Prop} (hK : K 59 = (6, 3)) (hQ : Q none ((61, 1105), kk_31 K, ff_31 f)) : V (d + 1) 61 1105 m_Sheet_init 0 (xEntry [.ref 59] 1) [] ((60, 1081), K, f) Q := by
  refine V.to (l' := [some (.ref 59)]) ?_ rfl rfl rfl rfl
  refine V_aload_n (i := 0) d_Sheet_init_0 rfl rfl ?_
  refine V_objinit d_Sheet_init_1 lz_Sheet_1 (Nat.le_of_ble_eq_true rfl) ?_
  refine V_aload_n (i := 0) d_Sheet_init_4 rfl rfl ?_
  refine V_bipush (v := 24) d_Sheet_init_5 rfl ?_
  refine V_newarrayL (N := 24) (n' := 61) (w' := 1105) d_Sheet_init_7 (by decide) rfl rfl rfl (by decide) (by decide) (by decide) (by decide) ?_
  refine V_putF d_Sheet_init_9 ff_Sheet_9 rfl (by decide) hK (by decide) rfl rfl ?_
  refine V_aload_n (i := 0) d_Sheet_init_12 rfl rfl ?_
  refine V_iconst (v := 0) d_Sheet_init_13 rfl ?_
  refine V_put d_Sheet_init_14 fl_Sheet_13 (by decide) hK (by decide) rfl rfl ?_
  refine V_aload_n (i := 0) d_Sheet_init_17 rfl rfl ?_
  refine V_iconst (v := 0) d_Sheet_init_18 rfl ?_
  refine V_put d_Sheet_init_19 fl_Sheet_17 (by decide) hK (by decide) rfl rfl ?_
  exact V_return d_Sheet_init_22 rfl hQ
def kk_0 (K : Nat → Nat × Nat) : Nat → Nat × Nat := (kk_31 (xkup (kk_30 (xkup (kk_29 (xkup (kk_28 (xkup (xkup (xkup (kk_26 (xkup (kk_23 (xkup (kk_16 (xkup (kk_15 (xkup (kk_8 (xkup (kk_1 (xkup K 1 (8, 7))) 16 (8, 7))) 31 (0, 8))) 32 (5, 9))) 43 (4, 4))) 48 (7, 6))) 51 (101 + 0, 4)) 52 (100, 7)) 53 (6, 3))) 55 (6, 3))) 57 (6, 3))) 59 (6, 3)))
def ff_0 (f : Nat → Nat → Value) : Nat → Nat → Value := (xup (ff_31 (xrow (xup (ff_30 (xrow (xup (ff_29 (xrow (xup (ff_28 (xrow (xup (xup (xrow (xup (xrow (xup (ff_26 (xrow (xup (ff_23 (xrow (xup (ff_16 (xrow (xup (ff_15 (xrow (xup (ff_8 (xrow (xup (ff_1 (xrow f 1 xdf8)) 0 0 (.ref 1)) 16 xdf8)) 0 1 (.ref 16)) 31 xdf0)) 0 2 (.ref 31)) 32 xdf5)) 0 3 (.ref 32)) 43 xdf4)) 0 4 (.ref 43)) 48 xdf7)) 0 5 (.ref 48)) 51 (fun _ => .null)) 0 6 (.ref 51)) 52 (fun _ => .int 0)) 0 7 (.ref 52)) 0 8 (.int (0 : Int32))) 53 xdf6)) 51 0 (.ref 53)) 55 xdf6)) 51 1 (.ref 55)) 57 xdf6)) 51 2 (.ref 57)) 59 xdf6)) 51 3 (.ref 59))
set_option maxRecDepth 4000 in
theorem ki_0 {d : Nat} {K : Nat → Nat × Nat} {f : Nat → Nat → Value} {Q : Option Value → xH → Prop} (hK : K 0 = (9, 9)) (hQ : Q none ((61, 1105), kk_0 K, ff_0 f)) : V (d + 3) 61 1105 m_P_init 0 (xEntry [.ref 0] 2) [] ((1, 9), K, f) Q := by
  refine V.to (l' := [some (.ref 0), none]) ?_ rfl rfl rfl rfl
  refine V_aload_n (i := 0) d_P_init_0 rfl rfl ?_
  refine V_objinit d_P_init_1 lz_P_1 (Nat.le_of_ble_eq_true rfl) ?_
  refine V_aload_n (i := 0) d_P_init_4 rfl rfl ?_
  refine V_newL (n' := 2) (w' := 16) d_P_init_5 nw_P_7 ⟨_, xY8, rfl, xFt8, xdv8⟩ rfl rfl (by decide) (by decide) (by decide) xdn8 ?_
  refine V_dup d_P_init_8 rfl ?_
  refine V_callI' (n' := 16) (w' := 377) [] d_P_init_9 rfl rfl lk_P_9 mo_World_init (Nat.le_of_ble_eq_true rfl) (Nat.le_of_ble_eq_true rfl) (Nat.le_of_ble_eq_true rfl) (Nat.le_of_ble_eq_true rfl) (Nat.le_of_ble_eq_true rfl) (Nat.le_of_ble_eq_true rfl) ?_
  refine ki_1 rfl ⟨rfl, ?_⟩
  refine V.to (st' := [.ref 1, .ref 0]) ?_ rfl rfl rfl rfl
  refine V_putF d_P_init_12 ff_P_10 rfl (by decide) hK (by decide) rfl rfl ?_
  refine V_aload_n (i := 0) d_P_init_15 rfl rfl ?_
  refine V_newL (n' := 17) (w' := 384) d_P_init_16 nw_P_7 ⟨_, xY8, rfl, xFt8, xdv8⟩ rfl rfl (by decide) (by decide) (by decide) xdn8 ?_
  refine V_dup d_P_init_19 rfl ?_
  refine V_callI' (n' := 31) (w' := 745) [] d_P_init_20 rfl rfl lk_P_9 mo_World_init (Nat.le_of_ble_eq_true rfl) (Nat.le_of_ble_eq_true rfl) (Nat.le_of_ble_eq_true rfl) (Nat.le_of_ble_eq_true rfl) (Nat.le_of_ble_eq_true rfl) (Nat.le_of_ble_eq_true rfl) ?_
  refine ki_8 rfl ⟨rfl, ?_⟩
  refine V.to (st' := [.ref 16, .ref 0]) ?_ rfl rfl rfl rfl
  refine V_putF d_P_init_23 ff_P_16 rfl (by decide) hK (by decide) rfl rfl ?_
  refine V_aload_n (i := 0) d_P_init_26 rfl rfl ?_
  refine V_newL (n' := 32) (w' := 753) d_P_init_27 nw_P_19 ⟨_, xY0, rfl, xFt0, xdv0⟩ rfl rfl (by decide) (by decide) (by decide) xdn0 ?_
  refine V_dup d_P_init_30 rfl ?_
  refine V_callI' (n' := 32) (w' := 753) [] d_P_init_31 rfl rfl lk_P_21 mo_Car_init (Nat.le_of_ble_eq_true rfl) (Nat.le_of_ble_eq_true rfl) (Nat.le_of_ble_eq_true rfl) (Nat.le_of_ble_eq_true rfl) (Nat.le_of_ble_eq_true rfl) (Nat.le_of_ble_eq_true rfl) ?_
  refine ki_15 rfl ⟨rfl, ?_⟩
  refine V.to (st' := [.ref 31, .ref 0]) ?_ rfl rfl rfl rfl
  refine V_putF d_P_init_34 ff_P_22 rfl (by decide) hK (by decide) rfl rfl ?_
  refine V_aload_n (i := 0) d_P_init_37 rfl rfl ?_
  refine V_newL (n' := 33) (w' := 762) d_P_init_38 nw_P_26 ⟨_, xY5, rfl, xFt5, xdv5⟩ rfl rfl (by decide) (by decide) (by decide) xdn5 ?_
  refine V_dup d_P_init_41 rfl ?_
  refine V_callI' (n' := 43) (w' := 820) [] d_P_init_42 rfl rfl lk_P_28 mo_Rows_init (Nat.le_of_ble_eq_true rfl) (Nat.le_of_ble_eq_true rfl) (Nat.le_of_ble_eq_true rfl) (Nat.le_of_ble_eq_true rfl) (Nat.le_of_ble_eq_true rfl) (Nat.le_of_ble_eq_true rfl) ?_
  refine ki_16 rfl ⟨rfl, ?_⟩
  refine V.to (st' := [.ref 32, .ref 0]) ?_ rfl rfl rfl rfl
  refine V_putF d_P_init_45 ff_P_29 rfl (by decide) hK (by decide) rfl rfl ?_
  refine V_aload_n (i := 0) d_P_init_48 rfl rfl ?_
  refine V_newL (n' := 44) (w' := 824) d_P_init_49 nw_P_33 ⟨_, xY4, rfl, xFt4, xdv4⟩ rfl rfl (by decide) (by decide) (by decide) xdn4 ?_
  refine V_dup d_P_init_52 rfl ?_
  refine V_callI' (n' := 48) (w' := 948) [] d_P_init_53 rfl rfl lk_P_35 mo_Read_init (Nat.le_of_ble_eq_true rfl) (Nat.le_of_ble_eq_true rfl) (Nat.le_of_ble_eq_true rfl) (Nat.le_of_ble_eq_true rfl) (Nat.le_of_ble_eq_true rfl) (Nat.le_of_ble_eq_true rfl) ?_
  refine ki_23 rfl ⟨rfl, ?_⟩
  refine V.to (st' := [.ref 43, .ref 0]) ?_ rfl rfl rfl rfl
  refine V_putF d_P_init_56 ff_P_36 rfl (by decide) hK (by decide) rfl rfl ?_
  refine V_aload_n (i := 0) d_P_init_59 rfl rfl ?_
  refine V_newL (n' := 49) (w' := 954) d_P_init_60 nw_P_40 ⟨_, xY7, rfl, xFt7, xdv7⟩ rfl rfl (by decide) (by decide) (by decide) xdn7 ?_
  refine V_dup d_P_init_63 rfl ?_
  refine V_callI' (n' := 51) (w' := 986) [] d_P_init_64 rfl rfl lk_P_42 mo_Voi_init (Nat.le_of_ble_eq_true rfl) (Nat.le_of_ble_eq_true rfl) (Nat.le_of_ble_eq_true rfl) (Nat.le_of_ble_eq_true rfl) (Nat.le_of_ble_eq_true rfl) (Nat.le_of_ble_eq_true rfl) ?_
  refine ki_26 rfl ⟨rfl, ?_⟩
  refine V.to (st' := [.ref 48, .ref 0]) ?_ rfl rfl rfl rfl
  refine V_putF d_P_init_67 ff_P_43 rfl (by decide) hK (by decide) rfl rfl ?_
  refine V_aload_n (i := 0) d_P_init_70 rfl rfl ?_
  refine V_iconst (v := 4) d_P_init_71 rfl ?_
  refine V_anewarrayL (N := 4) (t := 0) (n' := 52) (w' := 990) d_P_init_72 (by decide) rfl rfl rfl (by decide) (by decide) (by decide) (by decide) (by decide) cl_P_47 av_Sheet ?_
  refine V_putF d_P_init_75 ff_P_49 rfl (by decide) hK (by decide) rfl rfl ?_
  refine V_aload_n (i := 0) d_P_init_78 rfl rfl ?_
  refine V_bipush (v := 7) d_P_init_79 rfl ?_
  refine V_newarrayL (N := 7) (n' := 53) (w' := 997) d_P_init_81 (by decide) rfl rfl rfl (by decide) (by decide) (by decide) (by decide) ?_
  refine V_putF d_P_init_83 ff_P_53 rfl (by decide) hK (by decide) rfl rfl ?_
  refine V_aload_n (i := 0) d_P_init_86 rfl rfl ?_
  refine V_iconst (v := 0) d_P_init_87 rfl ?_
  refine V_put d_P_init_88 fl_P_57 (by decide) hK (by decide) rfl rfl ?_
  refine V_iconst (v := 0) d_P_init_91 rfl ?_
  refine V_istore_n (i := 1) (l' := [some (.ref 0), some (.int (0 : Int32))]) d_P_init_92 rfl (xst_r (Nat.le_of_ble_eq_true rfl) rfl rfl) ?_
  refine V_iload_n (i := 1) d_P_init_93 rfl rfl ?_
  refine V_aload_n (i := 0) d_P_init_94 rfl rfl ?_
  refine V_get d_P_init_95 fl_P_49 (by decide) hK (by decide) ?_
  refine V.to (st' := [.ref 51, .int (0 : Int32)]) ?_ rfl rfl rfl rfl
  refine V_alen (t := 1) (len := 4) d_P_init_98 (by decide) rfl (by decide) ?_
  refine V.to (st' := [.int (4 : Int32), .int (0 : Int32)]) ?_ rfl rfl rfl rfl
  refine V_icmp_ge (tgt := 121) d_P_init_99 rfl (fun c => absurd c (by decide)) (fun _ => ?_)
  refine V_aload_n (i := 0) d_P_init_102 rfl rfl ?_
  refine V_get d_P_init_103 fl_P_49 (by decide) hK (by decide) ?_
  refine V.to (st' := [.ref 51]) ?_ rfl rfl rfl rfl
  refine V_iload_n (i := 1) d_P_init_106 rfl rfl ?_
  refine V_newL (n' := 54) (w' := 1000) d_P_init_107 nw_P_47 ⟨_, xY6, rfl, xFt6, xdv6⟩ rfl rfl (by decide) (by decide) (by decide) xdn6 ?_
  refine V_dup d_P_init_110 rfl ?_
  refine V_callI' (n' := 55) (w' := 1024) [] d_P_init_111 rfl rfl lk_P_61 mo_Sheet_init (Nat.le_of_ble_eq_true rfl) (Nat.le_of_ble_eq_true rfl) (Nat.le_of_ble_eq_true rfl) (Nat.le_of_ble_eq_true rfl) (Nat.le_of_ble_eq_true rfl) (Nat.le_of_ble_eq_true rfl) ?_
  refine ki_28 rfl ⟨rfl, ?_⟩
  refine V.to (st' := [.ref 53, .int (0 : Int32), .ref 51]) ?_ rfl rfl rfl rfl
  refine V_aastore (t := 0) (ci := 6) (sz := 3) d_P_init_114 (by decide) rfl (by decide) rfl (by decide) (xixA (n := 0) rfl (by decide) (by decide)) ?_
  refine V.to (h' := ((55, 1024), (kk_28 (xkup (xkup (xkup (kk_26 (xkup (kk_23 (xkup (kk_16 (xkup (kk_15 (xkup (kk_8 (xkup (kk_1 (xkup K 1 (8, 7))) 16 (8, 7))) 31 (0, 8))) 32 (5, 9))) 43 (4, 4))) 48 (7, 6))) 51 (101 + 0, 4)) 52 (100, 7)) 53 (6, 3))), (xup (ff_28 (xrow (xup (xup (xrow (xup (xrow (xup (ff_26 (xrow (xup (ff_23 (xrow (xup (ff_16 (xrow (xup (ff_15 (xrow (xup (ff_8 (xrow (xup (ff_1 (xrow f 1 xdf8)) 0 0 (.ref 1)) 16 xdf8)) 0 1 (.ref 16)) 31 xdf0)) 0 2 (.ref 31)) 32 xdf5)) 0 3 (.ref 32)) 43 xdf4)) 0 4 (.ref 43)) 48 xdf7)) 0 5 (.ref 48)) 51 (fun _ => .null)) 0 6 (.ref 51)) 52 (fun _ => .int 0)) 0 7 (.ref 52)) 0 8 (.int (0 : Int32))) 53 xdf6)) 51 0 (.ref 53)))) ?_ rfl rfl rfl rfl
  refine V_iinc (i := 1) (v := 1) (l' := [some (.ref 0), some (.int (1 : Int32))]) d_P_init_115 rfl rfl (xst_r (Nat.le_of_ble_eq_true rfl) rfl rfl) ?_
  refine V_goto (tgt := 93) d_P_init_118 rfl ?_
  refine V_iload_n (i := 1) d_P_init_93 rfl rfl ?_
  refine V_aload_n (i := 0) d_P_init_94 rfl rfl ?_
  refine V_get d_P_init_95 fl_P_49 (by decide) hK (by decide) ?_
  refine V.to (st' := [.ref 51, .int (1 : Int32)]) ?_ rfl rfl rfl rfl
  refine V_alen (t := 1) (len := 4) d_P_init_98 (by decide) rfl (by decide) ?_
  refine V.to (st' := [.int (4 : Int32), .int (1 : Int32)]) ?_ rfl rfl rfl rfl
  refine V_icmp_ge (tgt := 121) d_P_init_99 rfl (fun c => absurd c (by decide)) (fun _ => ?_)
  refine V_aload_n (i := 0) d_P_init_102 rfl rfl ?_
  refine V_get d_P_init_103 fl_P_49 (by decide) hK (by decide) ?_
  refine V.to (st' := [.ref 51]) ?_ rfl rfl rfl rfl
  refine V_iload_n (i := 1) d_P_init_106 rfl rfl ?_
  refine V_newL (n' := 56) (w' := 1027) d_P_init_107 nw_P_47 ⟨_, xY6, rfl, xFt6, xdv6⟩ rfl rfl (by decide) (by decide) (by decide) xdn6 ?_
  refine V_dup d_P_init_110 rfl ?_
  refine V_callI' (n' := 57) (w' := 1051) [] d_P_init_111 rfl rfl lk_P_61 mo_Sheet_init (Nat.le_of_ble_eq_true rfl) (Nat.le_of_ble_eq_true rfl) (Nat.le_of_ble_eq_true rfl) (Nat.le_of_ble_eq_true rfl) (Nat.le_of_ble_eq_true rfl) (Nat.le_of_ble_eq_true rfl) ?_
  refine ki_29 rfl ⟨rfl, ?_⟩
  refine V.to (st' := [.ref 55, .int (1 : Int32), .ref 51]) ?_ rfl rfl rfl rfl
  refine V_aastore (t := 0) (ci := 6) (sz := 3) d_P_init_114 (by decide) rfl (by decide) rfl (by decide) (xixA (n := 1) rfl (by decide) (by decide)) ?_
  refine V.to (h' := ((57, 1051), (kk_29 (xkup (kk_28 (xkup (xkup (xkup (kk_26 (xkup (kk_23 (xkup (kk_16 (xkup (kk_15 (xkup (kk_8 (xkup (kk_1 (xkup K 1 (8, 7))) 16 (8, 7))) 31 (0, 8))) 32 (5, 9))) 43 (4, 4))) 48 (7, 6))) 51 (101 + 0, 4)) 52 (100, 7)) 53 (6, 3))) 55 (6, 3))), (xup (ff_29 (xrow (xup (ff_28 (xrow (xup (xup (xrow (xup (xrow (xup (ff_26 (xrow (xup (ff_23 (xrow (xup (ff_16 (xrow (xup (ff_15 (xrow (xup (ff_8 (xrow (xup (ff_1 (xrow f 1 xdf8)) 0 0 (.ref 1)) 16 xdf8)) 0 1 (.ref 16)) 31 xdf0)) 0 2 (.ref 31)) 32 xdf5)) 0 3 (.ref 32)) 43 xdf4)) 0 4 (.ref 43)) 48 xdf7)) 0 5 (.ref 48)) 51 (fun _ => .null)) 0 6 (.ref 51)) 52 (fun _ => .int 0)) 0 7 (.ref 52)) 0 8 (.int (0 : Int32))) 53 xdf6)) 51 0 (.ref 53)) 55 xdf6)) 51 1 (.ref 55)))) ?_ rfl rfl rfl rfl
  refine V_iinc (i := 1) (v := 2) (l' := [some (.ref 0), some (.int (2 : Int32))]) d_P_init_115 rfl rfl (xst_r (Nat.le_of_ble_eq_true rfl) rfl rfl) ?_
  refine V_goto (tgt := 93) d_P_init_118 rfl ?_
  refine V_iload_n (i := 1) d_P_init_93 rfl rfl ?_
  refine V_aload_n (i := 0) d_P_init_94 rfl rfl ?_
  refine V_get d_P_init_95 fl_P_49 (by decide) hK (by decide) ?_
  refine V.to (st' := [.ref 51, .int (2 : Int32)]) ?_ rfl rfl rfl rfl
  refine V_alen (t := 1) (len := 4) d_P_init_98 (by decide) rfl (by decide) ?_
  refine V.to (st' := [.int (4 : Int32), .int (2 : Int32)]) ?_ rfl rfl rfl rfl
  refine V_icmp_ge (tgt := 121) d_P_init_99 rfl (fun c => absurd c (by decide)) (fun _ => ?_)
  refine V_aload_n (i := 0) d_P_init_102 rfl rfl ?_
  refine V_get d_P_init_103 fl_P_49 (by decide) hK (by decide) ?_
  refine V.to (st' := [.ref 51]) ?_ rfl rfl rfl rfl
  refine V_iload_n (i := 1) d_P_init_106 rfl rfl ?_
  refine V_newL (n' := 58) (w' := 1054) d_P_init_107 nw_P_47 ⟨_, xY6, rfl, xFt6, xdv6⟩ rfl rfl (by decide) (by decide) (by decide) xdn6 ?_
  refine V_dup d_P_init_110 rfl ?_
  refine V_callI' (n' := 59) (w' := 1078) [] d_P_init_111 rfl rfl lk_P_61 mo_Sheet_init (Nat.le_of_ble_eq_true rfl) (Nat.le_of_ble_eq_true rfl) (Nat.le_of_ble_eq_true rfl) (Nat.le_of_ble_eq_true rfl) (Nat.le_of_ble_eq_true rfl) (Nat.le_of_ble_eq_true rfl) ?_
  refine ki_30 rfl ⟨rfl, ?_⟩
  refine V.to (st' := [.ref 57, .int (2 : Int32), .ref 51]) ?_ rfl rfl rfl rfl
  refine V_aastore (t := 0) (ci := 6) (sz := 3) d_P_init_114 (by decide) rfl (by decide) rfl (by decide) (xixA (n := 2) rfl (by decide) (by decide)) ?_
  refine V.to (h' := ((59, 1078), (kk_30 (xkup (kk_29 (xkup (kk_28 (xkup (xkup (xkup (kk_26 (xkup (kk_23 (xkup (kk_16 (xkup (kk_15 (xkup (kk_8 (xkup (kk_1 (xkup K 1 (8, 7))) 16 (8, 7))) 31 (0, 8))) 32 (5, 9))) 43 (4, 4))) 48 (7, 6))) 51 (101 + 0, 4)) 52 (100, 7)) 53 (6, 3))) 55 (6, 3))) 57 (6, 3))), (xup (ff_30 (xrow (xup (ff_29 (xrow (xup (ff_28 (xrow (xup (xup (xrow (xup (xrow (xup (ff_26 (xrow (xup (ff_23 (xrow (xup (ff_16 (xrow (xup (ff_15 (xrow (xup (ff_8 (xrow (xup (ff_1 (xrow f 1 xdf8)) 0 0 (.ref 1)) 16 xdf8)) 0 1 (.ref 16)) 31 xdf0)) 0 2 (.ref 31)) 32 xdf5)) 0 3 (.ref 32)) 43 xdf4)) 0 4 (.ref 43)) 48 xdf7)) 0 5 (.ref 48)) 51 (fun _ => .null)) 0 6 (.ref 51)) 52 (fun _ => .int 0)) 0 7 (.ref 52)) 0 8 (.int (0 : Int32))) 53 xdf6)) 51 0 (.ref 53)) 55 xdf6)) 51 1 (.ref 55)) 57 xdf6)) 51 2 (.ref 57)))) ?_ rfl rfl rfl rfl
  refine V_iinc (i := 1) (v := 3) (l' := [some (.ref 0), some (.int (3 : Int32))]) d_P_init_115 rfl rfl (xst_r (Nat.le_of_ble_eq_true rfl) rfl rfl) ?_
  refine V_goto (tgt := 93) d_P_init_118 rfl ?_
  refine V_iload_n (i := 1) d_P_init_93 rfl rfl ?_
  refine V_aload_n (i := 0) d_P_init_94 rfl rfl ?_
  refine V_get d_P_init_95 fl_P_49 (by decide) hK (by decide) ?_
  refine V.to (st' := [.ref 51, .int (3 : Int32)]) ?_ rfl rfl rfl rfl
  refine V_alen (t := 1) (len := 4) d_P_init_98 (by decide) rfl (by decide) ?_
  refine V.to (st' := [.int (4 : Int32), .int (3 : Int32)]) ?_ rfl rfl rfl rfl
  refine V_icmp_ge (tgt := 121) d_P_init_99 rfl (fun c => absurd c (by decide)) (fun _ => ?_)
  refine V_aload_n (i := 0) d_P_init_102 rfl rfl ?_
  refine V_get d_P_init_103 fl_P_49 (by decide) hK (by decide) ?_
  refine V.to (st' := [.ref 51]) ?_ rfl rfl rfl rfl
  refine V_iload_n (i := 1) d_P_init_106 rfl rfl ?_
  refine V_newL (n' := 60) (w' := 1081) d_P_init_107 nw_P_47 ⟨_, xY6, rfl, xFt6, xdv6⟩ rfl rfl (by decide) (by decide) (by decide) xdn6 ?_
  refine V_dup d_P_init_110 rfl ?_
  refine V_callI' (n' := 61) (w' := 1105) [] d_P_init_111 rfl rfl lk_P_61 mo_Sheet_init (Nat.le_of_ble_eq_true rfl) (Nat.le_of_ble_eq_true rfl) (Nat.le_of_ble_eq_true rfl) (Nat.le_of_ble_eq_true rfl) (Nat.le_of_ble_eq_true rfl) (Nat.le_of_ble_eq_true rfl) ?_
  refine ki_31 rfl ⟨rfl, ?_⟩
  refine V.to (st' := [.ref 59, .int (3 : Int32), .ref 51]) ?_ rfl rfl rfl rfl
  refine V_aastore (t := 0) (ci := 6) (sz := 3) d_P_init_114 (by decide) rfl (by decide) rfl (by decide) (xixA (n := 3) rfl (by decide) (by decide)) ?_
  refine V.to (h' := ((61, 1105), (kk_31 (xkup (kk_30 (xkup (kk_29 (xkup (kk_28 (xkup (xkup (xkup (kk_26 (xkup (kk_23 (xkup (kk_16 (xkup (kk_15 (xkup (kk_8 (xkup (kk_1 (xkup K 1 (8, 7))) 16 (8, 7))) 31 (0, 8))) 32 (5, 9))) 43 (4, 4))) 48 (7, 6))) 51 (101 + 0, 4)) 52 (100, 7)) 53 (6, 3))) 55 (6, 3))) 57 (6, 3))) 59 (6, 3))), (xup (ff_31 (xrow (xup (ff_30 (xrow (xup (ff_29 (xrow (xup (ff_28 (xrow (xup (xup (xrow (xup (xrow (xup (ff_26 (xrow (xup (ff_23 (xrow (xup (ff_16 (xrow (xup (ff_15 (xrow (xup (ff_8 (xrow (xup (ff_1 (xrow f 1 xdf8)) 0 0 (.ref 1)) 16 xdf8)) 0 1 (.ref 16)) 31 xdf0)) 0 2 (.ref 31)) 32 xdf5)) 0 3 (.ref 32)) 43 xdf4)) 0 4 (.ref 43)) 48 xdf7)) 0 5 (.ref 48)) 51 (fun _ => .null)) 0 6 (.ref 51)) 52 (fun _ => .int 0)) 0 7 (.ref 52)) 0 8 (.int (0 : Int32))) 53 xdf6)) 51 0 (.ref 53)) 55 xdf6)) 51 1 (.ref 55)) 57 xdf6)) 51 2 (.ref 57)) 59 xdf6)) 51 3 (.ref 59)))) ?_ rfl rfl rfl rfl
  refine V_iinc (i := 1) (v := 4) (l' := [some (.ref 0), some (.int (4 : Int32))]) d_P_init_115 rfl rfl (xst_r (Nat.le_of_ble_eq_true rfl) rfl rfl) ?_
  refine V_goto (tgt := 93) d_P_init_118 rfl ?_
  refine V_iload_n (i := 1) d_P_init_93 rfl rfl ?_
  refine V_aload_n (i := 0) d_P_init_94 rfl rfl ?_
  refine V_get d_P_init_95 fl_P_49 (by decide) hK (by decide) ?_
  refine V.to (st' := [.ref 51, .int (4 : Int32)]) ?_ rfl rfl rfl rfl
  refine V_alen (t := 1) (len := 4) d_P_init_98 (by decide) rfl (by decide) ?_
  refine V.to (st' := [.int (4 : Int32), .int (4 : Int32)]) ?_ rfl rfl rfl rfl
  refine V_icmp_ge (tgt := 121) d_P_init_99 rfl (fun _ => ?_) (fun c => absurd (by decide) c)
  exact V_return d_P_init_121 rfl hQ
def kk_32 (K : Nat → Nat × Nat) : Nat → Nat × Nat := (xkup (xkup (xkup (xkup (xkup (xkup (xkup (xkup (xkup (xkup (xkup (xkup K 62 (100, 358)) 63 (100, 358)) 64 (100, 24)) 65 (100, 7)) 66 (100, 124)) 67 (100, 128)) 68 (100, 64)) 69 (100, 30)) 70 (100, 4)) 71 (100, 4)) 72 (100, 96)) 73 (100, 24))
def ff_32 (f : Nat → Nat → Value) : Nat → Nat → Value := (xup (xup (xup (xrow (xup (xrow (xup (xrow (xup (xrow (xup (xrow (xup (xrow (xup (xrow (xup (xrow (xup (xup (xrow (xup (xrow (xup (xrow (xup (xrow f 62 (fun _ => .int 0)) 61 0 (.ref 62)) 63 (fun _ => .int 0)) 61 1 (.ref 63)) 64 (fun _ => .int 0)) 61 2 (.ref 64)) 65 (fun _ => .int 0)) 61 4 (.ref 65)) 61 5 (.int (63 : Int32))) 66 (fun _ => .int 0)) 61 10 (.ref 66)) 67 (fun _ => .int 0)) 61 11 (.ref 67)) 68 (fun _ => .int 0)) 61 12 (.ref 68)) 69 (fun _ => .int 0)) 61 16 (.ref 69)) 70 (fun _ => .int 0)) 61 19 (.ref 70)) 71 (fun _ => .int 0)) 61 20 (.ref 71)) 72 (fun _ => .int 0)) 61 21 (.ref 72)) 73 (fun _ => .int 0)) 61 22 (.ref 73)) 62 8 (.int (1 : Int32))) 62 0 (.int (20 : Int32)))
set_option maxRecDepth 4000 in
theorem ki_32 {d : Nat} {K : Nat → Nat × Nat} {f : Nat → Nat → Value} {Q : Option Value → xH → Prop} (hK : K 61 = (10, 23)) (hQ : Q none ((74, 2349), kk_32 K, ff_32 f)) : V (d + 1) 74 2349 m_R_init 0 (xEntry [.ref 61] 1) [] ((62, 1128), K, f) Q := by
  refine V.to (l' := [some (.ref 61)]) ?_ rfl rfl rfl rfl
  refine V_aload_n (i := 0) d_R_init_0 rfl rfl ?_
  refine V_objinit d_R_init_1 lz_R_1 (Nat.le_of_ble_eq_true rfl) ?_
  refine V_aload_n (i := 0) d_R_init_4 rfl rfl ?_
  refine V_sipush (v := 358) d_R_init_5 rfl ?_
  refine V_newarrayL (N := 358) (n' := 63) (w' := 1486) d_R_init_8 (by decide) rfl rfl rfl (by decide) (by decide) (by decide) (by decide) ?_
  refine V_putF d_R_init_10 ff_R_7 rfl (by decide) hK (by decide) rfl rfl ?_
  refine V_aload_n (i := 0) d_R_init_13 rfl rfl ?_
  refine V_sipush (v := 358) d_R_init_14 rfl ?_
  refine V_newarrayL (N := 358) (n' := 64) (w' := 1844) d_R_init_17 (by decide) rfl rfl rfl (by decide) (by decide) (by decide) (by decide) ?_
  refine V_putF d_R_init_19 ff_R_13 rfl (by decide) hK (by decide) rfl rfl ?_
  refine V_aload_n (i := 0) d_R_init_22 rfl rfl ?_
  refine V_bipush (v := 24) d_R_init_23 rfl ?_
  refine V_newarrayL (N := 24) (n' := 65) (w' := 1868) d_R_init_25 (by decide) rfl rfl rfl (by decide) (by decide) (by decide) (by decide) ?_
  refine V_putF d_R_init_27 ff_R_16 rfl (by decide) hK (by decide) rfl rfl ?_
  refine V_aload_n (i := 0) d_R_init_30 rfl rfl ?_
  refine V_bipush (v := 7) d_R_init_31 rfl ?_
  refine V_newarrayL (N := 7) (n' := 66) (w' := 1875) d_R_init_33 (by decide) rfl rfl rfl (by decide) (by decide) (by decide) (by decide) ?_
  refine V_putF d_R_init_35 ff_R_19 rfl (by decide) hK (by decide) rfl rfl ?_
  refine V_aload_n (i := 0) d_R_init_38 rfl rfl ?_
  refine V_bipush (v := 63) d_R_init_39 rfl ?_
  refine V_put d_R_init_41 fl_R_22 (by decide) hK (by decide) rfl rfl ?_
  refine V_aload_n (i := 0) d_R_init_44 rfl rfl ?_
  refine V_bipush (v := 124) d_R_init_45 rfl ?_
  refine V_newarrayL (N := 124) (n' := 67) (w' := 1999) d_R_init_47 (by decide) rfl rfl rfl (by decide) (by decide) (by decide) (by decide) ?_
  refine V_putF d_R_init_49 ff_R_26 rfl (by decide) hK (by decide) rfl rfl ?_
  refine V_aload_n (i := 0) d_R_init_52 rfl rfl ?_
  refine V_sipush (v := 128) d_R_init_53 rfl ?_
  refine V_newarrayL (N := 128) (n' := 68) (w' := 2127) d_R_init_56 (by decide) rfl rfl rfl (by decide) (by decide) (by decide) (by decide) ?_
  refine V_putF d_R_init_58 ff_R_29 rfl (by decide) hK (by decide) rfl rfl ?_
  refine V_aload_n (i := 0) d_R_init_61 rfl rfl ?_
  refine V_bipush (v := 64) d_R_init_62 rfl ?_
  refine V_newarrayL (N := 64) (n' := 69) (w' := 2191) d_R_init_64 (by decide) rfl rfl rfl (by decide) (by decide) (by decide) (by decide) ?_
  refine V_putF d_R_init_66 ff_R_32 rfl (by decide) hK (by decide) rfl rfl ?_
  refine V_aload_n (i := 0) d_R_init_69 rfl rfl ?_
  refine V_bipush (v := 30) d_R_init_70 rfl ?_
  refine V_newarrayL (N := 30) (n' := 70) (w' := 2221) d_R_init_72 (by decide) rfl rfl rfl (by decide) (by decide) (by decide) (by decide) ?_
  refine V_putF d_R_init_74 ff_R_35 rfl (by decide) hK (by decide) rfl rfl ?_
  refine V_aload_n (i := 0) d_R_init_77 rfl rfl ?_
  refine V_iconst (v := 4) d_R_init_78 rfl ?_
  refine V_newarrayL (N := 4) (n' := 71) (w' := 2225) d_R_init_79 (by decide) rfl rfl rfl (by decide) (by decide) (by decide) (by decide) ?_
  refine V_putF d_R_init_81 ff_R_38 rfl (by decide) hK (by decide) rfl rfl ?_
  refine V_aload_n (i := 0) d_R_init_84 rfl rfl ?_
  refine V_iconst (v := 4) d_R_init_85 rfl ?_
  refine V_newarrayL (N := 4) (n' := 72) (w' := 2229) d_R_init_86 (by decide) rfl rfl rfl (by decide) (by decide) (by decide) (by decide) ?_
  refine V_putF d_R_init_88 ff_R_41 rfl (by decide) hK (by decide) rfl rfl ?_
  refine V_aload_n (i := 0) d_R_init_91 rfl rfl ?_
  refine V_bipush (v := 96) d_R_init_92 rfl ?_
  refine V_newarrayL (N := 96) (n' := 73) (w' := 2325) d_R_init_94 (by decide) rfl rfl rfl (by decide) (by decide) (by decide) (by decide) ?_
  refine V_putF d_R_init_96 ff_R_44 rfl (by decide) hK (by decide) rfl rfl ?_
  refine V_aload_n (i := 0) d_R_init_99 rfl rfl ?_
  refine V_bipush (v := 24) d_R_init_100 rfl ?_
  refine V_newarrayL (N := 24) (n' := 74) (w' := 2349) d_R_init_102 (by decide) rfl rfl rfl (by decide) (by decide) (by decide) (by decide) ?_
  refine V_putF d_R_init_104 ff_R_47 rfl (by decide) hK (by decide) rfl rfl ?_
  refine V_aload_n (i := 0) d_R_init_107 rfl rfl ?_
  refine V_get d_R_init_108 fl_R_7 (by decide) hK (by decide) ?_
  refine V.to (st' := [.ref 62]) ?_ rfl rfl rfl rfl
  refine V_bipush (v := 8) d_R_init_111 rfl ?_
  refine V_iconst (v := 1) d_R_init_113 rfl ?_
  refine V_iastore d_R_init_114 (by decide) rfl (xixA (n := 8) rfl (by decide) (by decide)) ?_
  refine V.to (h' := ((74, 2349), (xkup (xkup (xkup (xkup (xkup (xkup (xkup (xkup (xkup (xkup (xkup (xkup K 62 (100, 358)) 63 (100, 358)) 64 (100, 24)) 65 (100, 7)) 66 (100, 124)) 67 (100, 128)) 68 (100, 64)) 69 (100, 30)) 70 (100, 4)) 71 (100, 4)) 72 (100, 96)) 73 (100, 24)), (xup (xup (xrow (xup (xrow (xup (xrow (xup (xrow (xup (xrow (xup (xrow (xup (xrow (xup (xrow (xup (xup (xrow (xup (xrow (xup (xrow (xup (xrow f 62 (fun _ => .int 0)) 61 0 (.ref 62)) 63 (fun _ => .int 0)) 61 1 (.ref 63)) 64 (fun _ => .int 0)) 61 2 (.ref 64)) 65 (fun _ => .int 0)) 61 4 (.ref 65)) 61 5 (.int (63 : Int32))) 66 (fun _ => .int 0)) 61 10 (.ref 66)) 67 (fun _ => .int 0)) 61 11 (.ref 67)) 68 (fun _ => .int 0)) 61 12 (.ref 68)) 69 (fun _ => .int 0)) 61 16 (.ref 69)) 70 (fun _ => .int 0)) 61 19 (.ref 70)) 71 (fun _ => .int 0)) 61 20 (.ref 71)) 72 (fun _ => .int 0)) 61 21 (.ref 72)) 73 (fun _ => .int 0)) 61 22 (.ref 73)) 62 8 (.int (1 : Int32))))) ?_ rfl rfl rfl rfl
  refine V_aload_n (i := 0) d_R_init_115 rfl rfl ?_
  refine V_get d_R_init_116 fl_R_7 (by decide) hK (by decide) ?_
  refine V.to (st' := [.ref 62]) ?_ rfl rfl rfl rfl
  refine V_iconst (v := 0) d_R_init_119 rfl ?_
  refine V_bipush (v := 20) d_R_init_120 rfl ?_
  refine V_iastore d_R_init_122 (by decide) rfl (xixA (n := 0) rfl (by decide) (by decide)) ?_
  refine V.to (h' := ((74, 2349), (xkup (xkup (xkup (xkup (xkup (xkup (xkup (xkup (xkup (xkup (xkup (xkup K 62 (100, 358)) 63 (100, 358)) 64 (100, 24)) 65 (100, 7)) 66 (100, 124)) 67 (100, 128)) 68 (100, 64)) 69 (100, 30)) 70 (100, 4)) 71 (100, 4)) 72 (100, 96)) 73 (100, 24)), (xup (xup (xup (xrow (xup (xrow (xup (xrow (xup (xrow (xup (xrow (xup (xrow (xup (xrow (xup (xrow (xup (xup (xrow (xup (xrow (xup (xrow (xup (xrow f 62 (fun _ => .int 0)) 61 0 (.ref 62)) 63 (fun _ => .int 0)) 61 1 (.ref 63)) 64 (fun _ => .int 0)) 61 2 (.ref 64)) 65 (fun _ => .int 0)) 61 4 (.ref 65)) 61 5 (.int (63 : Int32))) 66 (fun _ => .int 0)) 61 10 (.ref 66)) 67 (fun _ => .int 0)) 61 11 (.ref 67)) 68 (fun _ => .int 0)) 61 12 (.ref 68)) 69 (fun _ => .int 0)) 61 16 (.ref 69)) 70 (fun _ => .int 0)) 61 19 (.ref 70)) 71 (fun _ => .int 0)) 61 20 (.ref 71)) 72 (fun _ => .int 0)) 61 21 (.ref 72)) 73 (fun _ => .int 0)) 61 22 (.ref 73)) 62 8 (.int (1 : Int32))) 62 0 (.int (20 : Int32))))) ?_ rfl rfl rfl rfl
  exact V_return d_R_init_123 rfl hQ
theorem xEnt_agree_int {L : Nat} {xs : Nat → Int32} {h : xH} {F : xF} {G : xG} {k n : Nat} (hk : k < 74) (h1 : h.2.1 k = (100, n)) (h2 : xkindsN.getD k (0, 0) = (100, n)) (hF : F (yo k) = fun j => xi (h.2.2 k j)) : xEnt G h k = xEnt G (xHF L xs F) k := by
  have hK : xK0 L k = (100, n) := by unfold xK0; rw [if_pos hk]; exact h2
  rw [xEnt_int h1, xEnt_int (h := xHF L xs F) hK]
  have e : (fun j => xi (xVF xs F k j)) = F (yo k) := by funext j; unfold xVF; rw [if_pos hk, xskN_int hK hk]; rfl
  show _ = Sum.inl (_, _, Sum.inl (fun j => xi (xVF xs F k j)))
  rw [e, hF]
theorem xEnt_agree_obj {L : Nat} {xs : Nat → Int32} {h : xH} {F : xF} {G : xG} {k ci n : Nat} (hk : k < 74) (hc : ci < 11) (h1 : h.2.1 k = (ci, n)) (h2 : xkindsN.getD k (0, 0) = (ci, n)) (hv : ∀ j, j < n → h.2.2 k j = xVF xs F k j) : xEnt G h k = xEnt G (xHF L xs F) k := by
  have hK : xK0 L k = (ci, n) := by unfold xK0; rw [if_pos hk]; exact h2
  rw [xEnt_obj h1 hc, xEnt_obj (h := xHF L xs F) hK hc]
  congr 2
  refine List.map_congr_left fun j hj => ?_
  rw [hv j (List.mem_range.mp hj)]
  rfl
theorem V.agree {L : Nat} {xs : Nat → Int32} {d nM wM : Nat} {M : xM} {pc : Nat} {l : xL} {st : List Value} {h : xH} {Q : Option Value → xH → Prop} (F : xF) (hn : h.1 = (74, 2349)) (hE : ∀ (G : xG) (k : Nat), k < 74 → xEnt G h k = xEnt G (xHF L xs F) k) (h0 : h.2.1 1000000 = (103, L) ∧ h.2.1 1000001 = (103, 7) ∧ h.2.1 1000002 = (103, 28)) (hv : ∀ j, h.2.2 1000000 j = .int (xs j) ∧ h.2.2 1000001 j = .int (xABOVE j) ∧ h.2.2 1000002 j = .int (xBODIES j))
    (k : V d nM wM M pc l st (xHF L xs F) Q) : V d nM wM M pc l st h Q := by
  intro G p la e R s m args below meth c Z n0 w0 hF hret H locs ls hH hl hn0 hw hls
  have e1 : h.1.1 = 74 := by rw [hn]
  have e2 : h.1.2 = 2349 := by rw [hn]
  have hW : xWs G h = xWs G (xHF L xs F) := by
    unfold xWs
    rw [e1]
    exact List.map_congr_left fun k hk => by rw [hE G k (List.mem_range.mp hk)]
  have hz := k G p la e R s m args below meth c Z n0 w0 hF hret H locs ls ⟨by rw [← hW]; exact hH.1, by rw [hH.2.1, e1]; rfl, Nat.le_of_ble_eq_true rfl, fun i L' hi => ?_, hH.2.2.2.2⟩ hl (by rw [e1] at hn0; exact hn0) (by rw [e2] at hw; exact hw) hls
  · rw [e1, e2]
    exact hz
  · obtain ⟨a0, a1, a2⟩ := h0
    have hx : h.2.1 (1000000 + i) = (103, L') ∧ ∀ j, h.2.2 (1000000 + i) j = xVF xs F (1000000 + i) j := by
      rcases i with _ | _ | _ | i
      · have : (xHF L xs F).2.1 1000000 = (103, L) := rfl
        exact ⟨a0.trans (this.symm.trans hi), fun j => (hv j).1⟩
      · have : (xHF L xs F).2.1 1000001 = (103, 7) := rfl
        exact ⟨a1.trans (this.symm.trans hi), fun j => (hv j).2.1⟩
      · have : (xHF L xs F).2.1 1000002 = (103, 28) := rfl
        exact ⟨a2.trans (this.symm.trans hi), fun j => (hv j).2.2⟩
      · have h9 : xK0 L (1000000 + (i + 1 + 1 + 1)) = (0, 0) := by
          unfold xK0
          rw [if_neg (by omega), if_neg (by omega), if_neg (by omega), if_neg (by omega)]
        have h8 : xK0 L (1000000 + (i + 1 + 1 + 1)) = (103, L') := hi
        rw [h9] at h8
        cases h8
    have hr := hH.2.2.2.1 i L' hx.1
    have e3 : (fun j => Value.int (xi (h.2.2 (1000000 + i) j))) = (fun j => Value.int (xi (xVF xs F (1000000 + i) j))) := by funext j; rw [hx.2 j]
    rw [e3] at hr
    exact hr
set_option maxHeartbeats 4000000 in
set_option maxRecDepth 20000 in
theorem law_made {L : Nat} {xs : Nat → Int32} {d : Nat} {Q : Option Value → xH → Prop}
    (hk : ∀ F : xF, F = xF00 → V (d + 4) 74 2349 m_Lw_law 18 [some (.ref 1000000), some (.ref 0), some (.ref 61), some (.int (0 : Int32))] [] (xHF L xs F) Q) : V (d + 4) 74 2349 m_Lw_law 0 (xEntry [.ref 1000000] 4) [] ((0, 0), xKi L, xfi xs) Q := by
  refine V.to (l' := [some (.ref 1000000), none, none, none]) ?_ rfl rfl rfl rfl
  refine V_newL (n' := 1) (w' := 9) d_Lw_law_0 nw_Lw_7 ⟨_, xY9, rfl, xFt9, xdv9⟩ rfl rfl (by decide) (by decide) (by decide) xdn9 ?_
  refine V_dup d_Lw_law_3 rfl ?_
  refine V_callI' (n' := 61) (w' := 1105) [] d_Lw_law_4 rfl rfl lk_Lw_9 mo_P_init (Nat.le_of_ble_eq_true rfl) (Nat.le_of_ble_eq_true rfl) (Nat.le_of_ble_eq_true rfl) (Nat.le_of_ble_eq_true rfl) (Nat.le_of_ble_eq_true rfl) (Nat.le_of_ble_eq_true rfl) ?_
  refine ki_0 rfl ⟨rfl, ?_⟩
  refine V.to (st' := [.ref 0]) ?_ rfl rfl rfl rfl
  refine V_astore_n (i := 1) (l' := [some (.ref 1000000), some (.ref 0), none, none]) d_Lw_law_7 rfl (xst_r (Nat.le_of_ble_eq_true rfl) rfl rfl) ?_
  refine V_newL (n' := 62) (w' := 1128) d_Lw_law_8 nw_Lw_10 ⟨_, xY10, rfl, xFt10, xdv10⟩ rfl rfl (by decide) (by decide) (by decide) xdn10 ?_
  refine V_dup d_Lw_law_11 rfl ?_
  refine V_callI' (n' := 74) (w' := 2349) [] d_Lw_law_12 rfl rfl lk_Lw_12 mo_R_init (Nat.le_of_ble_eq_true rfl) (Nat.le_of_ble_eq_true rfl) (Nat.le_of_ble_eq_true rfl) (Nat.le_of_ble_eq_true rfl) (Nat.le_of_ble_eq_true rfl) (Nat.le_of_ble_eq_true rfl) ?_
  refine ki_32 rfl ⟨rfl, ?_⟩
  refine V.to (st' := [.ref 61]) ?_ rfl rfl rfl rfl
  refine V_astore_n (i := 2) (l' := [some (.ref 1000000), some (.ref 0), some (.ref 61), none]) d_Lw_law_15 rfl (xst_r (Nat.le_of_ble_eq_true rfl) rfl rfl) ?_
  refine V_iconst (v := 0) d_Lw_law_16 rfl ?_
  refine V_istore_n (i := 3) (l' := [some (.ref 1000000), some (.ref 0), some (.ref 61), some (.int (0 : Int32))]) d_Lw_law_17 rfl (xst_r (Nat.le_of_ble_eq_true rfl) rfl rfl) ?_
  refine V.agree xF00 rfl (fun G k hk78 => ?_) ⟨rfl, rfl, rfl⟩ (fun j => ⟨rfl, rfl, rfl⟩) (hk _ rfl)
  rcases xk78 hk78 with rfl | rfl | rfl | rfl | rfl | rfl | rfl | rfl | rfl | rfl | rfl | rfl | rfl | rfl | rfl | rfl | rfl | rfl | rfl | rfl | rfl | rfl | rfl | rfl | rfl | rfl | rfl | rfl | rfl | rfl | rfl | rfl | rfl | rfl | rfl | rfl | rfl | rfl | rfl | rfl | rfl | rfl | rfl | rfl | rfl | rfl | rfl | rfl | rfl | rfl | rfl | rfl | rfl | rfl | rfl | rfl | rfl | rfl | rfl | rfl | rfl | rfl | rfl | rfl | rfl | rfl | rfl | rfl | rfl | rfl | rfl | rfl | rfl | rfl
  · exact xEnt_agree_obj (ci := 9) (n := 9) (by decide) (by decide) rfl rfl (fun j hj => by rcases (show j = 0 ∨ j = 1 ∨ j = 2 ∨ j = 3 ∨ j = 4 ∨ j = 5 ∨ j = 6 ∨ j = 7 ∨ j = 8 by omega) with rfl | rfl | rfl | rfl | rfl | rfl | rfl | rfl | rfl <;> rfl)
  · exact xEnt_agree_obj (ci := 8) (n := 7) (by decide) (by decide) rfl rfl (fun j hj => by rcases (show j = 0 ∨ j = 1 ∨ j = 2 ∨ j = 3 ∨ j = 4 ∨ j = 5 ∨ j = 6 by omega) with rfl | rfl | rfl | rfl | rfl | rfl | rfl <;> rfl)
  · exact xEnt_agree_obj (ci := 0) (n := 8) (by decide) (by decide) rfl rfl (fun j hj => by rcases (show j = 0 ∨ j = 1 ∨ j = 2 ∨ j = 3 ∨ j = 4 ∨ j = 5 ∨ j = 6 ∨ j = 7 by omega) with rfl | rfl | rfl | rfl | rfl | rfl | rfl | rfl <;> rfl)
  · exact xEnt_agree_obj (ci := 3) (n := 3) (by decide) (by decide) rfl rfl (fun j hj => by rcases (show j = 0 ∨ j = 1 ∨ j = 2 by omega) with rfl | rfl | rfl <;> rfl)
  · exact xEnt_agree_int (n := 6) (by decide) rfl rfl (by funext j; rfl)
  · exact xEnt_agree_int (n := 6) (by decide) rfl rfl (by funext j; rfl)
  · exact xEnt_agree_obj (ci := 1) (n := 5) (by decide) (by decide) rfl rfl (fun j hj => by rcases (show j = 0 ∨ j = 1 ∨ j = 2 ∨ j = 3 ∨ j = 4 by omega) with rfl | rfl | rfl | rfl | rfl <;> rfl)
  · exact xEnt_agree_int (n := 60) (by decide) rfl rfl (by funext j; rfl)
  · exact xEnt_agree_int (n := 60) (by decide) rfl rfl (by funext j; rfl)
  · exact xEnt_agree_obj (ci := 1) (n := 5) (by decide) (by decide) rfl rfl (fun j hj => by rcases (show j = 0 ∨ j = 1 ∨ j = 2 ∨ j = 3 ∨ j = 4 by omega) with rfl | rfl | rfl | rfl | rfl <;> rfl)
  · exact xEnt_agree_int (n := 60) (by decide) rfl rfl (by funext j; rfl)
  · exact xEnt_agree_int (n := 60) (by decide) rfl rfl (by funext j; rfl)
  · exact xEnt_agree_obj (ci := 2) (n := 2) (by decide) (by decide) rfl rfl (fun j hj => by rcases (show j = 0 ∨ j = 1 by omega) with rfl | rfl <;> rfl)
  · exact xEnt_agree_int (n := 60) (by decide) rfl rfl (by funext j; rfl)
  · exact xEnt_agree_obj (ci := 2) (n := 2) (by decide) (by decide) rfl rfl (fun j hj => by rcases (show j = 0 ∨ j = 1 by omega) with rfl | rfl <;> rfl)
  · exact xEnt_agree_int (n := 24) (by decide) rfl rfl (by funext j; rfl)
  · exact xEnt_agree_obj (ci := 8) (n := 7) (by decide) (by decide) rfl rfl (fun j hj => by rcases (show j = 0 ∨ j = 1 ∨ j = 2 ∨ j = 3 ∨ j = 4 ∨ j = 5 ∨ j = 6 by omega) with rfl | rfl | rfl | rfl | rfl | rfl | rfl <;> rfl)
  · exact xEnt_agree_obj (ci := 0) (n := 8) (by decide) (by decide) rfl rfl (fun j hj => by rcases (show j = 0 ∨ j = 1 ∨ j = 2 ∨ j = 3 ∨ j = 4 ∨ j = 5 ∨ j = 6 ∨ j = 7 by omega) with rfl | rfl | rfl | rfl | rfl | rfl | rfl | rfl <;> rfl)
  · exact xEnt_agree_obj (ci := 3) (n := 3) (by decide) (by decide) rfl rfl (fun j hj => by rcases (show j = 0 ∨ j = 1 ∨ j = 2 by omega) with rfl | rfl | rfl <;> rfl)
  · exact xEnt_agree_int (n := 6) (by decide) rfl rfl (by funext j; rfl)
  · exact xEnt_agree_int (n := 6) (by decide) rfl rfl (by funext j; rfl)
  · exact xEnt_agree_obj (ci := 1) (n := 5) (by decide) (by decide) rfl rfl (fun j hj => by rcases (show j = 0 ∨ j = 1 ∨ j = 2 ∨ j = 3 ∨ j = 4 by omega) with rfl | rfl | rfl | rfl | rfl <;> rfl)
  · exact xEnt_agree_int (n := 60) (by decide) rfl rfl (by funext j; rfl)
  · exact xEnt_agree_int (n := 60) (by decide) rfl rfl (by funext j; rfl)
  · exact xEnt_agree_obj (ci := 1) (n := 5) (by decide) (by decide) rfl rfl (fun j hj => by rcases (show j = 0 ∨ j = 1 ∨ j = 2 ∨ j = 3 ∨ j = 4 by omega) with rfl | rfl | rfl | rfl | rfl <;> rfl)
  · exact xEnt_agree_int (n := 60) (by decide) rfl rfl (by funext j; rfl)
  · exact xEnt_agree_int (n := 60) (by decide) rfl rfl (by funext j; rfl)
  · exact xEnt_agree_obj (ci := 2) (n := 2) (by decide) (by decide) rfl rfl (fun j hj => by rcases (show j = 0 ∨ j = 1 by omega) with rfl | rfl <;> rfl)
  · exact xEnt_agree_int (n := 60) (by decide) rfl rfl (by funext j; rfl)
  · exact xEnt_agree_obj (ci := 2) (n := 2) (by decide) (by decide) rfl rfl (fun j hj => by rcases (show j = 0 ∨ j = 1 by omega) with rfl | rfl <;> rfl)
  · exact xEnt_agree_int (n := 24) (by decide) rfl rfl (by funext j; rfl)
  · exact xEnt_agree_obj (ci := 0) (n := 8) (by decide) (by decide) rfl rfl (fun j hj => by rcases (show j = 0 ∨ j = 1 ∨ j = 2 ∨ j = 3 ∨ j = 4 ∨ j = 5 ∨ j = 6 ∨ j = 7 by omega) with rfl | rfl | rfl | rfl | rfl | rfl | rfl | rfl <;> rfl)
  · exact xEnt_agree_obj (ci := 5) (n := 9) (by decide) (by decide) rfl rfl (fun j hj => by rcases (show j = 0 ∨ j = 1 ∨ j = 2 ∨ j = 3 ∨ j = 4 ∨ j = 5 ∨ j = 6 ∨ j = 7 ∨ j = 8 by omega) with rfl | rfl | rfl | rfl | rfl | rfl | rfl | rfl | rfl <;> rfl)
  · rw [xEnt_cars (sz := 5) rfl, xEnt_cars (sz := 5) (h := xHF L xs xF00) rfl]
    congr 7
    funext j
    rcases j with _ | _ | _ | _ | _ | j <;> rfl
  · exact xEnt_agree_obj (ci := 2) (n := 2) (by decide) (by decide) rfl rfl (fun j hj => by rcases (show j = 0 ∨ j = 1 by omega) with rfl | rfl <;> rfl)
  · exact xEnt_agree_int (n := 3) (by decide) rfl rfl (by funext j; rfl)
  · exact xEnt_agree_int (n := 4) (by decide) rfl rfl (by funext j; rfl)
  · exact xEnt_agree_int (n := 4) (by decide) rfl rfl (by funext j; rfl)
  · exact xEnt_agree_obj (ci := 0) (n := 8) (by decide) (by decide) rfl rfl (fun j hj => by rcases (show j = 0 ∨ j = 1 ∨ j = 2 ∨ j = 3 ∨ j = 4 ∨ j = 5 ∨ j = 6 ∨ j = 7 by omega) with rfl | rfl | rfl | rfl | rfl | rfl | rfl | rfl <;> rfl)
  · exact xEnt_agree_obj (ci := 0) (n := 8) (by decide) (by decide) rfl rfl (fun j hj => by rcases (show j = 0 ∨ j = 1 ∨ j = 2 ∨ j = 3 ∨ j = 4 ∨ j = 5 ∨ j = 6 ∨ j = 7 by omega) with rfl | rfl | rfl | rfl | rfl | rfl | rfl | rfl <;> rfl)
  · exact xEnt_agree_obj (ci := 0) (n := 8) (by decide) (by decide) rfl rfl (fun j hj => by rcases (show j = 0 ∨ j = 1 ∨ j = 2 ∨ j = 3 ∨ j = 4 ∨ j = 5 ∨ j = 6 ∨ j = 7 by omega) with rfl | rfl | rfl | rfl | rfl | rfl | rfl | rfl <;> rfl)
  · exact xEnt_agree_obj (ci := 0) (n := 8) (by decide) (by decide) rfl rfl (fun j hj => by rcases (show j = 0 ∨ j = 1 ∨ j = 2 ∨ j = 3 ∨ j = 4 ∨ j = 5 ∨ j = 6 ∨ j = 7 by omega) with rfl | rfl | rfl | rfl | rfl | rfl | rfl | rfl <;> rfl)
  · exact xEnt_agree_obj (ci := 0) (n := 8) (by decide) (by decide) rfl rfl (fun j hj => by rcases (show j = 0 ∨ j = 1 ∨ j = 2 ∨ j = 3 ∨ j = 4 ∨ j = 5 ∨ j = 6 ∨ j = 7 by omega) with rfl | rfl | rfl | rfl | rfl | rfl | rfl | rfl <;> rfl)
  · exact xEnt_agree_obj (ci := 4) (n := 4) (by decide) (by decide) rfl rfl (fun j hj => by rcases (show j = 0 ∨ j = 1 ∨ j = 2 ∨ j = 3 by omega) with rfl | rfl | rfl | rfl <;> rfl)
  · exact xEnt_agree_obj (ci := 2) (n := 2) (by decide) (by decide) rfl rfl (fun j hj => by rcases (show j = 0 ∨ j = 1 by omega) with rfl | rfl <;> rfl)
  · exact xEnt_agree_int (n := 60) (by decide) rfl rfl (by funext j; rfl)
  · exact xEnt_agree_obj (ci := 2) (n := 2) (by decide) (by decide) rfl rfl (fun j hj => by rcases (show j = 0 ∨ j = 1 by omega) with rfl | rfl <;> rfl)
  · exact xEnt_agree_int (n := 60) (by decide) rfl rfl (by funext j; rfl)
  · exact xEnt_agree_obj (ci := 7) (n := 6) (by decide) (by decide) rfl rfl (fun j hj => by rcases (show j = 0 ∨ j = 1 ∨ j = 2 ∨ j = 3 ∨ j = 4 ∨ j = 5 by omega) with rfl | rfl | rfl | rfl | rfl | rfl <;> rfl)
  · exact xEnt_agree_obj (ci := 2) (n := 2) (by decide) (by decide) rfl rfl (fun j hj => by rcases (show j = 0 ∨ j = 1 by omega) with rfl | rfl <;> rfl)
  · exact xEnt_agree_int (n := 30) (by decide) rfl rfl (by funext j; rfl)
  · rw [xEnt_sheets (sz := 4) rfl, xEnt_sheets (sz := 4) (h := xHF L xs xF00) rfl]
    congr 7
    funext j
    rcases j with _ | _ | _ | _ | j <;> rfl
  · exact xEnt_agree_int (n := 7) (by decide) rfl rfl (by funext j; rfl)
  · exact xEnt_agree_obj (ci := 6) (n := 3) (by decide) (by decide) rfl rfl (fun j hj => by rcases (show j = 0 ∨ j = 1 ∨ j = 2 by omega) with rfl | rfl | rfl <;> rfl)
  · exact xEnt_agree_int (n := 24) (by decide) rfl rfl (by funext j; rfl)
  · exact xEnt_agree_obj (ci := 6) (n := 3) (by decide) (by decide) rfl rfl (fun j hj => by rcases (show j = 0 ∨ j = 1 ∨ j = 2 by omega) with rfl | rfl | rfl <;> rfl)
  · exact xEnt_agree_int (n := 24) (by decide) rfl rfl (by funext j; rfl)
  · exact xEnt_agree_obj (ci := 6) (n := 3) (by decide) (by decide) rfl rfl (fun j hj => by rcases (show j = 0 ∨ j = 1 ∨ j = 2 by omega) with rfl | rfl | rfl <;> rfl)
  · exact xEnt_agree_int (n := 24) (by decide) rfl rfl (by funext j; rfl)
  · exact xEnt_agree_obj (ci := 6) (n := 3) (by decide) (by decide) rfl rfl (fun j hj => by rcases (show j = 0 ∨ j = 1 ∨ j = 2 by omega) with rfl | rfl | rfl <;> rfl)
  · exact xEnt_agree_int (n := 24) (by decide) rfl rfl (by funext j; rfl)
  · exact xEnt_agree_obj (ci := 10) (n := 23) (by decide) (by decide) rfl rfl (fun j hj => by rcases (show j = 0 ∨ j = 1 ∨ j = 2 ∨ j = 3 ∨ j = 4 ∨ j = 5 ∨ j = 6 ∨ j = 7 ∨ j = 8 ∨ j = 9 ∨ j = 10 ∨ j = 11 ∨ j = 12 ∨ j = 13 ∨ j = 14 ∨ j = 15 ∨ j = 16 ∨ j = 17 ∨ j = 18 ∨ j = 19 ∨ j = 20 ∨ j = 21 ∨ j = 22 by omega) with rfl | rfl | rfl | rfl | rfl | rfl | rfl | rfl | rfl | rfl | rfl | rfl | rfl | rfl | rfl | rfl | rfl | rfl | rfl | rfl | rfl | rfl | rfl <;> rfl)
  · exact xEnt_agree_int (n := 358) (by decide) rfl rfl (by funext j; rcases j with _ | _ | _ | _ | _ | _ | _ | _ | _ | j <;> rfl)
  · exact xEnt_agree_int (n := 358) (by decide) rfl rfl (by funext j; rfl)
  · exact xEnt_agree_int (n := 24) (by decide) rfl rfl (by funext j; rfl)
  · exact xEnt_agree_int (n := 7) (by decide) rfl rfl (by funext j; rfl)
  · exact xEnt_agree_int (n := 124) (by decide) rfl rfl (by funext j; rfl)
  · exact xEnt_agree_int (n := 128) (by decide) rfl rfl (by funext j; rfl)
  · exact xEnt_agree_int (n := 64) (by decide) rfl rfl (by funext j; rfl)
  · exact xEnt_agree_int (n := 30) (by decide) rfl rfl (by funext j; rfl)
  · exact xEnt_agree_int (n := 4) (by decide) rfl rfl (by funext j; rfl)
  · exact xEnt_agree_int (n := 4) (by decide) rfl rfl (by funext j; rfl)
  · exact xEnt_agree_int (n := 96) (by decide) rfl rfl (by funext j; rfl)
  · exact xEnt_agree_int (n := 24) (by decide) rfl rfl (by funext j; rfl)
