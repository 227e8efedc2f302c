/-! V, instruction by instruction: constants, locals, arithmetic, branches (printed by wip/whole/gen_rules.py) -/
section XR
variable {d nM wM : Nat} {M : xM} {pc : Nat} {l : xL} {st : List Value} {h : xH} {Q : Option Value → xH → Prop}
theorem V_iconst {n : Int} {v : Int32} (hd : decode M.2.1 pc = .ok (.iconst n, 1)) (hv : Int32.ofInt n = v) (k : V d nM wM M (pc + 1) l (.int v :: st) h Q) : V d nM wM M pc l (st) h Q := by
  intro G p la e R s m args below meth c Z n0 w0 hF hret H locs ls hH hl hn hw hls
  exact lv_iconst hF.1 hF.2.1 hd hv (k G p la e R s m args below meth c Z n0 w0 hF hret H locs _ hH hl hn hw hls)
theorem V_bipush {n : Int} {v : Int32} (hd : decode M.2.1 pc = .ok (.bipush n, 2)) (hv : (Int8.ofInt n).toInt32 = v) (k : V d nM wM M (pc + 2) l (.int v :: st) h Q) : V d nM wM M pc l (st) h Q := by
  intro G p la e R s m args below meth c Z n0 w0 hF hret H locs ls hH hl hn hw hls
  exact lv_bipush hF.1 hF.2.1 hd hv (k G p la e R s m args below meth c Z n0 w0 hF hret H locs _ hH hl hn hw hls)
theorem V_sipush {n : Int} {v : Int32} (hd : decode M.2.1 pc = .ok (.sipush n, 3)) (hv : (Int16.ofInt n).toInt32 = v) (k : V d nM wM M (pc + 3) l (.int v :: st) h Q) : V d nM wM M pc l (st) h Q := by
  intro G p la e R s m args below meth c Z n0 w0 hF hret H locs ls hH hl hn hw hls
  exact lv_sipush hF.1 hF.2.1 hd hv (k G p la e R s m args below meth c Z n0 w0 hF hret H locs _ hH hl hn hw hls)
theorem V_null (hd : decode M.2.1 pc = .ok (.aconst_null, 1)) (k : V d nM wM M (pc + 1) l (.null :: st) h Q) : V d nM wM M pc l (st) h Q := by
  intro G p la e R s m args below meth c Z n0 w0 hF hret H locs ls hH hl hn hw hls
  exact lv_null hF.1 hF.2.1 hd (k G p la e R s m args below meth c Z n0 w0 hF hret H locs _ hH hl hn hw hls)
theorem V_iload_n {j : Fin 4} {i : Nat} {x : Int32} (hd : decode M.2.1 pc = .ok (.iload_n j, 1)) (hi : (j : Nat) = i) (hl0 : l[i]? = some (some (.int x))) (k : V d nM wM M (pc + 1) l (.int x :: st) h Q) : V d nM wM M pc l (st) h Q := by
  intro G p la e R s m args below meth c Z n0 w0 hF hret H locs ls hH hl hn hw hls
  exact lv_iload_n hF.1 hF.2.1 hd hi (hls.at hl0) (k G p la e R s m args below meth c Z n0 w0 hF hret H locs _ hH hl hn hw hls)
theorem V_iload {i : Nat} {x : Int32} (hd : decode M.2.1 pc = .ok (.iload i, 2)) (hl0 : l[i]? = some (some (.int x))) (k : V d nM wM M (pc + 2) l (.int x :: st) h Q) : V d nM wM M pc l (st) h Q := by
  intro G p la e R s m args below meth c Z n0 w0 hF hret H locs ls hH hl hn hw hls
  exact lv_iload hF.1 hF.2.1 hd (hls.at hl0) (k G p la e R s m args below meth c Z n0 w0 hF hret H locs _ hH hl hn hw hls)
theorem V_lload_n {j : Fin 4} {i : Nat} {x : Int64} (hd : decode M.2.1 pc = .ok (.lload_n j, 1)) (hi : (j : Nat) = i) (hl0 : l[i]? = some (some (.long x))) (k : V d nM wM M (pc + 1) l (.long x :: st) h Q) : V d nM wM M pc l (st) h Q := by
  intro G p la e R s m args below meth c Z n0 w0 hF hret H locs ls hH hl hn hw hls
  exact lv_lload_n hF.1 hF.2.1 hd hi (hls.at hl0) (k G p la e R s m args below meth c Z n0 w0 hF hret H locs _ hH hl hn hw hls)
theorem V_lload {i : Nat} {x : Int64} (hd : decode M.2.1 pc = .ok (.lload i, 2)) (hl0 : l[i]? = some (some (.long x))) (k : V d nM wM M (pc + 2) l (.long x :: st) h Q) : V d nM wM M pc l (st) h Q := by
  intro G p la e R s m args below meth c Z n0 w0 hF hret H locs ls hH hl hn hw hls
  exact lv_lload hF.1 hF.2.1 hd (hls.at hl0) (k G p la e R s m args below meth c Z n0 w0 hF hret H locs _ hH hl hn hw hls)
theorem V_aload_n {j : Fin 4} {i : Nat} {x : Nat} (hd : decode M.2.1 pc = .ok (.aload_n j, 1)) (hi : (j : Nat) = i) (hl0 : l[i]? = some (some (.ref x))) (k : V d nM wM M (pc + 1) l (.ref x :: st) h Q) : V d nM wM M pc l (st) h Q := by
  intro G p la e R s m args below meth c Z n0 w0 hF hret H locs ls hH hl hn hw hls
  exact lv_aload_n hF.1 hF.2.1 hd hi (hls.at hl0) (k G p la e R s m args below meth c Z n0 w0 hF hret H locs _ hH hl hn hw hls)
theorem V_aload {i : Nat} {x : Nat} (hd : decode M.2.1 pc = .ok (.aload i, 2)) (hl0 : l[i]? = some (some (.ref x))) (k : V d nM wM M (pc + 2) l (.ref x :: st) h Q) : V d nM wM M pc l (st) h Q := by
  intro G p la e R s m args below meth c Z n0 w0 hF hret H locs ls hH hl hn hw hls
  exact lv_aload hF.1 hF.2.1 hd (hls.at hl0) (k G p la e R s m args below meth c Z n0 w0 hF hret H locs _ hH hl hn hw hls)
theorem V_aload_nN {j : Fin 4} {i : Nat} (hd : decode M.2.1 pc = .ok (.aload_n j, 1)) (hi : (j : Nat) = i) (hl0 : l[i]? = some (some (.null))) (k : V d nM wM M (pc + 1) l (.null :: st) h Q) : V d nM wM M pc l (st) h Q := by
  intro G p la e R s m args below meth c Z n0 w0 hF hret H locs ls hH hl hn hw hls
  exact lv_aload_nN hF.1 hF.2.1 hd hi (hls.at hl0) (k G p la e R s m args below meth c Z n0 w0 hF hret H locs _ hH hl hn hw hls)
theorem V_aloadN {i : Nat} (hd : decode M.2.1 pc = .ok (.aload i, 2)) (hl0 : l[i]? = some (some (.null))) (k : V d nM wM M (pc + 2) l (.null :: st) h Q) : V d nM wM M pc l (st) h Q := by
  intro G p la e R s m args below meth c Z n0 w0 hF hret H locs ls hH hl hn hw hls
  exact lv_aloadN hF.1 hF.2.1 hd (hls.at hl0) (k G p la e R s m args below meth c Z n0 w0 hF hret H locs _ hH hl hn hw hls)
theorem V_istore_n {j : Fin 4} {i : Nat} {x : Int32} {l' : xL} (hd : decode M.2.1 pc = .ok (.istore_n j, 1)) (hi : (j : Nat) = i) (hs : xst l i (.int x) l') (k : V d nM wM M (pc + 1) l' (st) h Q) : V d nM wM M pc l (.int x :: st) h Q := by
  intro G p la e R s m args below meth c Z n0 w0 hF hret H locs ls hH hl hn hw hls
  exact lv_istore_n hF.1 hF.2.1 hd hi hls.has (hls.lt hs.1) rfl (fun ls2 hl2 => k G p la e R s m args below meth c Z n0 w0 hF hret H locs _ hH hl hn hw (hls.store hs hl2))
theorem V_istore {i : Nat} {x : Int32} {l' : xL} (hd : decode M.2.1 pc = .ok (.istore i, 2)) (hs : xst l i (.int x) l') (k : V d nM wM M (pc + 2) l' (st) h Q) : V d nM wM M pc l (.int x :: st) h Q := by
  intro G p la e R s m args below meth c Z n0 w0 hF hret H locs ls hH hl hn hw hls
  exact lv_istore hF.1 hF.2.1 hd hls.has (hls.lt hs.1) rfl (fun ls2 hl2 => k G p la e R s m args below meth c Z n0 w0 hF hret H locs _ hH hl hn hw (hls.store hs hl2))
theorem V_astore_n {j : Fin 4} {i : Nat} {x : Nat} {l' : xL} (hd : decode M.2.1 pc = .ok (.astore_n j, 1)) (hi : (j : Nat) = i) (hs : xst l i (.ref x) l') (k : V d nM wM M (pc + 1) l' (st) h Q) : V d nM wM M pc l (.ref x :: st) h Q := by
  intro G p la e R s m args below meth c Z n0 w0 hF hret H locs ls hH hl hn hw hls
  exact lv_astore_n hF.1 hF.2.1 hd hi hls.has (hls.lt hs.1) rfl (fun ls2 hl2 => k G p la e R s m args below meth c Z n0 w0 hF hret H locs _ hH hl hn hw (hls.store hs hl2))
theorem V_astore {i : Nat} {x : Nat} {l' : xL} (hd : decode M.2.1 pc = .ok (.astore i, 2)) (hs : xst l i (.ref x) l') (k : V d nM wM M (pc + 2) l' (st) h Q) : V d nM wM M pc l (.ref x :: st) h Q := by
  intro G p la e R s m args below meth c Z n0 w0 hF hret H locs ls hH hl hn hw hls
  exact lv_astore hF.1 hF.2.1 hd hls.has (hls.lt hs.1) rfl (fun ls2 hl2 => k G p la e R s m args below meth c Z n0 w0 hF hret H locs _ hH hl hn hw (hls.store hs hl2))
theorem V_astore_nN {j : Fin 4} {i : Nat} {l' : xL} (hd : decode M.2.1 pc = .ok (.astore_n j, 1)) (hi : (j : Nat) = i) (hs : xst l i (.null) l') (k : V d nM wM M (pc + 1) l' (st) h Q) : V d nM wM M pc l (.null :: st) h Q := by
  intro G p la e R s m args below meth c Z n0 w0 hF hret H locs ls hH hl hn hw hls
  exact lv_astore_nN hF.1 hF.2.1 hd hi hls.has (hls.lt hs.1) rfl (fun ls2 hl2 => k G p la e R s m args below meth c Z n0 w0 hF hret H locs _ hH hl hn hw (hls.store hs hl2))
theorem V_astoreN {i : Nat} {l' : xL} (hd : decode M.2.1 pc = .ok (.astore i, 2)) (hs : xst l i (.null) l') (k : V d nM wM M (pc + 2) l' (st) h Q) : V d nM wM M pc l (.null :: st) h Q := by
  intro G p la e R s m args below meth c Z n0 w0 hF hret H locs ls hH hl hn hw hls
  exact lv_astoreN hF.1 hF.2.1 hd hls.has (hls.lt hs.1) rfl (fun ls2 hl2 => k G p la e R s m args below meth c Z n0 w0 hF hret H locs _ hH hl hn hw (hls.store hs hl2))
theorem V_iinc {i : Nat} {n : Int} {x v : Int32} {l' : xL} (hd : decode M.2.1 pc = .ok (.iinc i n, 3)) (hl0 : l[i]? = some (some (.int x))) (hv : x + Int32.ofInt n = v) (hs : xst l i (.int v) l') (k : V d nM wM M (pc + 3) l' (st) h Q) : V d nM wM M pc l (st) h Q := by
  intro G p la e R s m args below meth c Z n0 w0 hF hret H locs ls hH hl hn hw hls
  obtain ⟨q, hq⟩ := List.getElem?_of_mem (xAs_mem (G := G) (q := (i, .int x)).mpr ⟨_, hl0, rfl⟩)
  exact lv_iinc hF.1 hF.2.1 hd hls.has hq hv (hls.lt hs.1) rfl (fun ls2 hl2 => k G p la e R s m args below meth c Z n0 w0 hF hret H locs _ hH hl hn hw (hls.store hs hl2))
theorem V_iadd {x y : Int32} (hd : decode M.2.1 pc = .ok (.iadd, 1)) (k : V d nM wM M (pc + 1) l (.int (x + y) :: st) h Q) : V d nM wM M pc l (.int y :: .int x :: st) h Q := by
  intro G p la e R s m args below meth c Z n0 w0 hF hret H locs ls hH hl hn hw hls
  exact lv_iadd hF.1 hF.2.1 hd (k G p la e R s m args below meth c Z n0 w0 hF hret H locs _ hH hl hn hw hls)
theorem V_isub {x y : Int32} (hd : decode M.2.1 pc = .ok (.isub, 1)) (k : V d nM wM M (pc + 1) l (.int (x - y) :: st) h Q) : V d nM wM M pc l (.int y :: .int x :: st) h Q := by
  intro G p la e R s m args below meth c Z n0 w0 hF hret H locs ls hH hl hn hw hls
  exact lv_isub hF.1 hF.2.1 hd (k G p la e R s m args below meth c Z n0 w0 hF hret H locs _ hH hl hn hw hls)
theorem V_imul {x y : Int32} (hd : decode M.2.1 pc = .ok (.imul, 1)) (k : V d nM wM M (pc + 1) l (.int (x * y) :: st) h Q) : V d nM wM M pc l (.int y :: .int x :: st) h Q := by
  intro G p la e R s m args below meth c Z n0 w0 hF hret H locs ls hH hl hn hw hls
  exact lv_imul hF.1 hF.2.1 hd (k G p la e R s m args below meth c Z n0 w0 hF hret H locs _ hH hl hn hw hls)
theorem V_iand {x y : Int32} (hd : decode M.2.1 pc = .ok (.iand, 1)) (k : V d nM wM M (pc + 1) l (.int (x &&& y) :: st) h Q) : V d nM wM M pc l (.int y :: .int x :: st) h Q := by
  intro G p la e R s m args below meth c Z n0 w0 hF hret H locs ls hH hl hn hw hls
  exact lv_iand hF.1 hF.2.1 hd (k G p la e R s m args below meth c Z n0 w0 hF hret H locs _ hH hl hn hw hls)
theorem V_ior {x y : Int32} (hd : decode M.2.1 pc = .ok (.ior, 1)) (k : V d nM wM M (pc + 1) l (.int (x ||| y) :: st) h Q) : V d nM wM M pc l (.int y :: .int x :: st) h Q := by
  intro G p la e R s m args below meth c Z n0 w0 hF hret H locs ls hH hl hn hw hls
  exact lv_ior hF.1 hF.2.1 hd (k G p la e R s m args below meth c Z n0 w0 hF hret H locs _ hH hl hn hw hls)
theorem V_ixor {x y : Int32} (hd : decode M.2.1 pc = .ok (.ixor, 1)) (k : V d nM wM M (pc + 1) l (.int (x ^^^ y) :: st) h Q) : V d nM wM M pc l (.int y :: .int x :: st) h Q := by
  intro G p la e R s m args below meth c Z n0 w0 hF hret H locs ls hH hl hn hw hls
  exact lv_ixor hF.1 hF.2.1 hd (k G p la e R s m args below meth c Z n0 w0 hF hret H locs _ hH hl hn hw hls)
theorem V_ishl {x y : Int32} (hd : decode M.2.1 pc = .ok (.ishl, 1)) (k : V d nM wM M (pc + 1) l (.int (x <<< (y &&& 31)) :: st) h Q) : V d nM wM M pc l (.int y :: .int x :: st) h Q := by
  intro G p la e R s m args below meth c Z n0 w0 hF hret H locs ls hH hl hn hw hls
  exact lv_ishl hF.1 hF.2.1 hd (k G p la e R s m args below meth c Z n0 w0 hF hret H locs _ hH hl hn hw hls)
theorem V_ishr {x y : Int32} (hd : decode M.2.1 pc = .ok (.ishr, 1)) (k : V d nM wM M (pc + 1) l (.int (x >>> (y &&& 31)) :: st) h Q) : V d nM wM M pc l (.int y :: .int x :: st) h Q := by
  intro G p la e R s m args below meth c Z n0 w0 hF hret H locs ls hH hl hn hw hls
  exact lv_ishr hF.1 hF.2.1 hd (k G p la e R s m args below meth c Z n0 w0 hF hret H locs _ hH hl hn hw hls)
theorem V_iushr {x y : Int32} (hd : decode M.2.1 pc = .ok (.iushr, 1)) (k : V d nM wM M (pc + 1) l (.int ((x.toUInt32 >>> (y.toUInt32 &&& Int32.toUInt32 31)).toInt32) :: st) h Q) : V d nM wM M pc l (.int y :: .int x :: st) h Q := by
  intro G p la e R s m args below meth c Z n0 w0 hF hret H locs ls hH hl hn hw hls
  exact lv_iushr hF.1 hF.2.1 hd rfl (k G p la e R s m args below meth c Z n0 w0 hF hret H locs _ hH hl hn hw hls)
theorem V_idiv {x y : Int32} (hd : decode M.2.1 pc = .ok (.idiv, 1)) (hne : ¬ y = 0) (k : V d nM wM M (pc + 1) l (.int (x / y) :: st) h Q) : V d nM wM M pc l (.int y :: .int x :: st) h Q := by
  intro G p la e R s m args below meth c Z n0 w0 hF hret H locs ls hH hl hn hw hls
  exact lv_idiv hF.1 hF.2.1 hd hne (k G p la e R s m args below meth c Z n0 w0 hF hret H locs _ hH hl hn hw hls)
theorem V_irem {x y : Int32} (hd : decode M.2.1 pc = .ok (.irem, 1)) (hne : ¬ y = 0) (k : V d nM wM M (pc + 1) l (.int (x - x / y * y) :: st) h Q) : V d nM wM M pc l (.int y :: .int x :: st) h Q := by
  intro G p la e R s m args below meth c Z n0 w0 hF hret H locs ls hH hl hn hw hls
  exact lv_irem hF.1 hF.2.1 hd hne (k G p la e R s m args below meth c Z n0 w0 hF hret H locs _ hH hl hn hw hls)
theorem V_ineg {x : Int32} (hd : decode M.2.1 pc = .ok (.ineg, 1)) (k : V d nM wM M (pc + 1) l (.int (-x) :: st) h Q) : V d nM wM M pc l (.int x :: st) h Q := by
  intro G p la e R s m args below meth c Z n0 w0 hF hret H locs ls hH hl hn hw hls
  exact lv_ineg hF.1 hF.2.1 hd (k G p la e R s m args below meth c Z n0 w0 hF hret H locs _ hH hl hn hw hls)
theorem V_land {x y : Int64} (hd : decode M.2.1 pc = .ok (.land, 1)) (k : V d nM wM M (pc + 1) l (.long (x &&& y) :: st) h Q) : V d nM wM M pc l (.long y :: .long x :: st) h Q := by
  intro G p la e R s m args below meth c Z n0 w0 hF hret H locs ls hH hl hn hw hls
  exact lv_land hF.1 hF.2.1 hd (k G p la e R s m args below meth c Z n0 w0 hF hret H locs _ hH hl hn hw hls)
theorem V_lor {x y : Int64} (hd : decode M.2.1 pc = .ok (.lor, 1)) (k : V d nM wM M (pc + 1) l (.long (x ||| y) :: st) h Q) : V d nM wM M pc l (.long y :: .long x :: st) h Q := by
  intro G p la e R s m args below meth c Z n0 w0 hF hret H locs ls hH hl hn hw hls
  exact lv_lor hF.1 hF.2.1 hd (k G p la e R s m args below meth c Z n0 w0 hF hret H locs _ hH hl hn hw hls)
theorem V_lushr {x : Int64} {y : Int32} (hd : decode M.2.1 pc = .ok (.lushr, 1)) (k : V d nM wM M (pc + 1) l (.long ((x.toUInt64 >>> (y.toInt64.toUInt64 &&& Int64.toUInt64 63)).toInt64) :: st) h Q) : V d nM wM M pc l (.int y :: .long x :: st) h Q := by
  intro G p la e R s m args below meth c Z n0 w0 hF hret H locs ls hH hl hn hw hls
  exact lv_lushr hF.1 hF.2.1 hd rfl (k G p la e R s m args below meth c Z n0 w0 hF hret H locs _ hH hl hn hw hls)
theorem V_lshl {x : Int64} {y : Int32} (hd : decode M.2.1 pc = .ok (.lshl, 1)) (k : V d nM wM M (pc + 1) l (.long (x <<< (y.toInt64 &&& 63)) :: st) h Q) : V d nM wM M pc l (.int y :: .long x :: st) h Q := by
  intro G p la e R s m args below meth c Z n0 w0 hF hret H locs ls hH hl hn hw hls
  exact lv_lshl hF.1 hF.2.1 hd rfl (k G p la e R s m args below meth c Z n0 w0 hF hret H locs _ hH hl hn hw hls)
theorem V_lshr {x : Int64} {y : Int32} (hd : decode M.2.1 pc = .ok (.lshr, 1)) (k : V d nM wM M (pc + 1) l (.long (x >>> (y.toInt64 &&& 63)) :: st) h Q) : V d nM wM M pc l (.int y :: .long x :: st) h Q := by
  intro G p la e R s m args below meth c Z n0 w0 hF hret H locs ls hH hl hn hw hls
  exact lv_lshr hF.1 hF.2.1 hd rfl (k G p la e R s m args below meth c Z n0 w0 hF hret H locs _ hH hl hn hw hls)
theorem V_i2l {x : Int32} (hd : decode M.2.1 pc = .ok (.i2l, 1)) (k : V d nM wM M (pc + 1) l (.long x.toInt64 :: st) h Q) : V d nM wM M pc l (.int x :: st) h Q := by
  intro G p la e R s m args below meth c Z n0 w0 hF hret H locs ls hH hl hn hw hls
  exact lv_i2l hF.1 hF.2.1 hd rfl (k G p la e R s m args below meth c Z n0 w0 hF hret H locs _ hH hl hn hw hls)
theorem V_l2i {x : Int64} (hd : decode M.2.1 pc = .ok (.l2i, 1)) (k : V d nM wM M (pc + 1) l (.int x.toInt32 :: st) h Q) : V d nM wM M pc l (.long x :: st) h Q := by
  intro G p la e R s m args below meth c Z n0 w0 hF hret H locs ls hH hl hn hw hls
  exact lv_l2i hF.1 hF.2.1 hd rfl (k G p la e R s m args below meth c Z n0 w0 hF hret H locs _ hH hl hn hw hls)
theorem V_dup {v : Value} (hd : decode M.2.1 pc = .ok (.dup, 1)) (hv : v.category = 1) (k : V d nM wM M (pc + 1) l (v :: v :: st) h Q) : V d nM wM M pc l (v :: st) h Q := by
  intro G p la e R s m args below meth c Z n0 w0 hF hret H locs ls hH hl hn hw hls
  exact lv_dup hF.1 hF.2.1 hd (xcv_cat.trans hv) (k G p la e R s m args below meth c Z n0 w0 hF hret H locs _ hH hl hn hw hls)
theorem V_pop {v : Value} (hd : decode M.2.1 pc = .ok (.pop, 1)) (hv : v.category = 1) (k : V d nM wM M (pc + 1) l (st) h Q) : V d nM wM M pc l (v :: st) h Q := by
  intro G p la e R s m args below meth c Z n0 w0 hF hret H locs ls hH hl hn hw hls
  exact lv_pop hF.1 hF.2.1 hd (xcv_cat.trans hv) (k G p la e R s m args below meth c Z n0 w0 hF hret H locs _ hH hl hn hw hls)
theorem V_dup2 {v w : Value} (hd : decode M.2.1 pc = .ok (.dup2, 1)) (hv : v.category = 1) (hw0 : w.category = 1) (k : V d nM wM M (pc + 1) l (v :: w :: v :: w :: st) h Q) : V d nM wM M pc l (v :: w :: st) h Q := by
  intro G p la e R s m args below meth c Z n0 w0 hF hret H locs ls hH hl hn hw hls
  exact lv_dup2_11 hF.1 hF.2.1 hd (xcv_cat.trans hv) (xcv_cat.trans hw0) (k G p la e R s m args below meth c Z n0 w0 hF hret H locs _ hH hl hn hw hls)
theorem V_if_eq {x : Int32} {off : Int} {tgt : Nat} (hd : decode M.2.1 pc = .ok (.ifCond .eq off, 3)) (ht : (pc : Int) + off = (tgt : Int)) (kt : x = 0 → V d nM wM M tgt l st h Q) (kf : ¬ x = 0 → V d nM wM M (pc + 3) l st h Q) : V d nM wM M pc l (.int x :: st) h Q := by
  intro G p la e R s m args below meth c Z n0 w0 hF hret H locs ls hH hl hn hw hls
  exact lv_if_eq hF.1 hF.2.1 hd ht (fun hc => kt hc G p la e R s m args below meth c Z n0 w0 hF hret H locs _ hH hl hn hw hls) (fun hc => kf hc G p la e R s m args below meth c Z n0 w0 hF hret H locs _ hH hl hn hw hls)
theorem V_icmp_eq {x y : Int32} {off : Int} {tgt : Nat} (hd : decode M.2.1 pc = .ok (.if_icmp .eq off, 3)) (ht : (pc : Int) + off = (tgt : Int)) (kt : x = y → V d nM wM M tgt l st h Q) (kf : ¬ x = y → V d nM wM M (pc + 3) l st h Q) : V d nM wM M pc l (.int y :: .int x :: st) h Q := by
  intro G p la e R s m args below meth c Z n0 w0 hF hret H locs ls hH hl hn hw hls
  exact lv_icmp_eq hF.1 hF.2.1 hd ht (fun hc => kt hc G p la e R s m args below meth c Z n0 w0 hF hret H locs _ hH hl hn hw hls) (fun hc => kf hc G p la e R s m args below meth c Z n0 w0 hF hret H locs _ hH hl hn hw hls)
theorem V_if_ne {x : Int32} {off : Int} {tgt : Nat} (hd : decode M.2.1 pc = .ok (.ifCond .ne off, 3)) (ht : (pc : Int) + off = (tgt : Int)) (kt : ¬ x = 0 → V d nM wM M tgt l st h Q) (kf : x = 0 → V d nM wM M (pc + 3) l st h Q) : V d nM wM M pc l (.int x :: st) h Q := by
  intro G p la e R s m args below meth c Z n0 w0 hF hret H locs ls hH hl hn hw hls
  exact lv_if_ne hF.1 hF.2.1 hd ht (fun hc => kt hc G p la e R s m args below meth c Z n0 w0 hF hret H locs _ hH hl hn hw hls) (fun hc => kf hc G p la e R s m args below meth c Z n0 w0 hF hret H locs _ hH hl hn hw hls)
theorem V_icmp_ne {x y : Int32} {off : Int} {tgt : Nat} (hd : decode M.2.1 pc = .ok (.if_icmp .ne off, 3)) (ht : (pc : Int) + off = (tgt : Int)) (kt : ¬ x = y → V d nM wM M tgt l st h Q) (kf : x = y → V d nM wM M (pc + 3) l st h Q) : V d nM wM M pc l (.int y :: .int x :: st) h Q := by
  intro G p la e R s m args below meth c Z n0 w0 hF hret H locs ls hH hl hn hw hls
  exact lv_icmp_ne hF.1 hF.2.1 hd ht (fun hc => kt hc G p la e R s m args below meth c Z n0 w0 hF hret H locs _ hH hl hn hw hls) (fun hc => kf hc G p la e R s m args below meth c Z n0 w0 hF hret H locs _ hH hl hn hw hls)
theorem V_if_lt {x : Int32} {off : Int} {tgt : Nat} (hd : decode M.2.1 pc = .ok (.ifCond .lt off, 3)) (ht : (pc : Int) + off = (tgt : Int)) (kt : x < 0 → V d nM wM M tgt l st h Q) (kf : ¬ x < 0 → V d nM wM M (pc + 3) l st h Q) : V d nM wM M pc l (.int x :: st) h Q := by
  intro G p la e R s m args below meth c Z n0 w0 hF hret H locs ls hH hl hn hw hls
  exact lv_if_lt hF.1 hF.2.1 hd ht (fun hc => kt hc G p la e R s m args below meth c Z n0 w0 hF hret H locs _ hH hl hn hw hls) (fun hc => kf hc G p la e R s m args below meth c Z n0 w0 hF hret H locs _ hH hl hn hw hls)
theorem V_icmp_lt {x y : Int32} {off : Int} {tgt : Nat} (hd : decode M.2.1 pc = .ok (.if_icmp .lt off, 3)) (ht : (pc : Int) + off = (tgt : Int)) (kt : x < y → V d nM wM M tgt l st h Q) (kf : ¬ x < y → V d nM wM M (pc + 3) l st h Q) : V d nM wM M pc l (.int y :: .int x :: st) h Q := by
  intro G p la e R s m args below meth c Z n0 w0 hF hret H locs ls hH hl hn hw hls
  exact lv_icmp_lt hF.1 hF.2.1 hd ht (fun hc => kt hc G p la e R s m args below meth c Z n0 w0 hF hret H locs _ hH hl hn hw hls) (fun hc => kf hc G p la e R s m args below meth c Z n0 w0 hF hret H locs _ hH hl hn hw hls)
theorem V_if_ge {x : Int32} {off : Int} {tgt : Nat} (hd : decode M.2.1 pc = .ok (.ifCond .ge off, 3)) (ht : (pc : Int) + off = (tgt : Int)) (kt : 0 ≤ x → V d nM wM M tgt l st h Q) (kf : ¬ 0 ≤ x → V d nM wM M (pc + 3) l st h Q) : V d nM wM M pc l (.int x :: st) h Q := by
  intro G p la e R s m args below meth c Z n0 w0 hF hret H locs ls hH hl hn hw hls
  exact lv_if_ge hF.1 hF.2.1 hd ht (fun hc => kt hc G p la e R s m args below meth c Z n0 w0 hF hret H locs _ hH hl hn hw hls) (fun hc => kf hc G p la e R s m args below meth c Z n0 w0 hF hret H locs _ hH hl hn hw hls)
theorem V_icmp_ge {x y : Int32} {off : Int} {tgt : Nat} (hd : decode M.2.1 pc = .ok (.if_icmp .ge off, 3)) (ht : (pc : Int) + off = (tgt : Int)) (kt : y ≤ x → V d nM wM M tgt l st h Q) (kf : ¬ y ≤ x → V d nM wM M (pc + 3) l st h Q) : V d nM wM M pc l (.int y :: .int x :: st) h Q := by
  intro G p la e R s m args below meth c Z n0 w0 hF hret H locs ls hH hl hn hw hls
  exact lv_icmp_ge hF.1 hF.2.1 hd ht (fun hc => kt hc G p la e R s m args below meth c Z n0 w0 hF hret H locs _ hH hl hn hw hls) (fun hc => kf hc G p la e R s m args below meth c Z n0 w0 hF hret H locs _ hH hl hn hw hls)
theorem V_if_gt {x : Int32} {off : Int} {tgt : Nat} (hd : decode M.2.1 pc = .ok (.ifCond .gt off, 3)) (ht : (pc : Int) + off = (tgt : Int)) (kt : 0 < x → V d nM wM M tgt l st h Q) (kf : ¬ 0 < x → V d nM wM M (pc + 3) l st h Q) : V d nM wM M pc l (.int x :: st) h Q := by
  intro G p la e R s m args below meth c Z n0 w0 hF hret H locs ls hH hl hn hw hls
  exact lv_if_gt hF.1 hF.2.1 hd ht (fun hc => kt hc G p la e R s m args below meth c Z n0 w0 hF hret H locs _ hH hl hn hw hls) (fun hc => kf hc G p la e R s m args below meth c Z n0 w0 hF hret H locs _ hH hl hn hw hls)
theorem V_icmp_gt {x y : Int32} {off : Int} {tgt : Nat} (hd : decode M.2.1 pc = .ok (.if_icmp .gt off, 3)) (ht : (pc : Int) + off = (tgt : Int)) (kt : y < x → V d nM wM M tgt l st h Q) (kf : ¬ y < x → V d nM wM M (pc + 3) l st h Q) : V d nM wM M pc l (.int y :: .int x :: st) h Q := by
  intro G p la e R s m args below meth c Z n0 w0 hF hret H locs ls hH hl hn hw hls
  exact lv_icmp_gt hF.1 hF.2.1 hd ht (fun hc => kt hc G p la e R s m args below meth c Z n0 w0 hF hret H locs _ hH hl hn hw hls) (fun hc => kf hc G p la e R s m args below meth c Z n0 w0 hF hret H locs _ hH hl hn hw hls)
theorem V_if_le {x : Int32} {off : Int} {tgt : Nat} (hd : decode M.2.1 pc = .ok (.ifCond .le off, 3)) (ht : (pc : Int) + off = (tgt : Int)) (kt : x ≤ 0 → V d nM wM M tgt l st h Q) (kf : ¬ x ≤ 0 → V d nM wM M (pc + 3) l st h Q) : V d nM wM M pc l (.int x :: st) h Q := by
  intro G p la e R s m args below meth c Z n0 w0 hF hret H locs ls hH hl hn hw hls
  exact lv_if_le hF.1 hF.2.1 hd ht (fun hc => kt hc G p la e R s m args below meth c Z n0 w0 hF hret H locs _ hH hl hn hw hls) (fun hc => kf hc G p la e R s m args below meth c Z n0 w0 hF hret H locs _ hH hl hn hw hls)
theorem V_icmp_le {x y : Int32} {off : Int} {tgt : Nat} (hd : decode M.2.1 pc = .ok (.if_icmp .le off, 3)) (ht : (pc : Int) + off = (tgt : Int)) (kt : x ≤ y → V d nM wM M tgt l st h Q) (kf : ¬ x ≤ y → V d nM wM M (pc + 3) l st h Q) : V d nM wM M pc l (.int y :: .int x :: st) h Q := by
  intro G p la e R s m args below meth c Z n0 w0 hF hret H locs ls hH hl hn hw hls
  exact lv_icmp_le hF.1 hF.2.1 hd ht (fun hc => kt hc G p la e R s m args below meth c Z n0 w0 hF hret H locs _ hH hl hn hw hls) (fun hc => kf hc G p la e R s m args below meth c Z n0 w0 hF hret H locs _ hH hl hn hw hls)
theorem V_goto {off : Int} {tgt : Nat} (hd : decode M.2.1 pc = .ok (.goto off, 3)) (ht : (pc : Int) + off = (tgt : Int)) (k : V d nM wM M (tgt) l (st) h Q) : V d nM wM M pc l (st) h Q := by
  intro G p la e R s m args below meth c Z n0 w0 hF hret H locs ls hH hl hn hw hls
  exact lv_goto hF.1 hF.2.1 hd ht (k G p la e R s m args below meth c Z n0 w0 hF hret H locs _ hH hl hn hw hls)
theorem V_lookup {dflt : Int} {ps : Array (Int × Int)} {len : Nat} {x : Int32} {off : Int} {tgt : Nat} (hd : decode M.2.1 pc = .ok (.lookupswitch dflt ps, len)) (hp : (ps.toList.zip (ps.toList.drop 1)).all (fun (a, next) => a.1 < next.1) = true) (ho : Op.lookupswitch.offset ps.toList dflt x.toInt = off) (ht : (pc : Int) + off = (tgt : Int)) (k : V d nM wM M (tgt) l (st) h Q) : V d nM wM M pc l (.int x :: st) h Q := by
  intro G p la e R s m args below meth c Z n0 w0 hF hret H locs ls hH hl hn hw hls
  exact lv_lookup hF.1 hF.2.1 hd hp ho ht (k G p la e R s m args below meth c Z n0 w0 hF hret H locs _ hH hl hn hw hls)
theorem V_tableOut {dflt lo hi : Int} {offs : Array Int} {len : Nat} {x : Int32} {tgt : Nat} (hd : decode M.2.1 pc = .ok (.tableswitch dflt lo hi offs, len)) (hx : x.toInt < lo ∨ hi < x.toInt) (ht : (pc : Int) + dflt = (tgt : Int)) (k : V d nM wM M (tgt) l (st) h Q) : V d nM wM M pc l (.int x :: st) h Q := by
  intro G p la e R s m args below meth c Z n0 w0 hF hret H locs ls hH hl hn hw hls
  exact lv_tableOut hF.1 hF.2.1 hd hx ht (k G p la e R s m args below meth c Z n0 w0 hF hret H locs _ hH hl hn hw hls)
theorem V_tableIn {dflt lo hi : Int} {offs : Array Int} {len : Nat} {x : Int32} {off : Int} {tgt : Nat} (hd : decode M.2.1 pc = .ok (.tableswitch dflt lo hi offs, len)) (h1 : ¬ x.toInt < lo) (h2 : ¬ hi < x.toInt) (ho : offs[(x.toInt - lo).toNat]? = some off) (ht : (pc : Int) + off = (tgt : Int)) (k : V d nM wM M (tgt) l (st) h Q) : V d nM wM M pc l (.int x :: st) h Q := by
  intro G p la e R s m args below meth c Z n0 w0 hF hret H locs ls hH hl hn hw hls
  exact lv_tableIn hF.1 hF.2.1 hd h1 h2 ho ht (k G p la e R s m args below meth c Z n0 w0 hF hret H locs _ hH hl hn hw hls)
theorem V_ifnonnull {x : Nat} {off : Int} {tgt : Nat} (hd : decode M.2.1 pc = .ok (.ifnonnull off, 3)) (ht : (pc : Int) + off = (tgt : Int)) (k : V d nM wM M (tgt) l (st) h Q) : V d nM wM M pc l (.ref x :: st) h Q := by
  intro G p la e R s m args below meth c Z n0 w0 hF hret H locs ls hH hl hn hw hls
  exact lv_ifnonnull hF.1 hF.2.1 hd ht (k G p la e R s m args below meth c Z n0 w0 hF hret H locs _ hH hl hn hw hls)
theorem V_ifnonnullN {off : Int} (hd : decode M.2.1 pc = .ok (.ifnonnull off, 3)) (k : V d nM wM M (pc + 3) l (st) h Q) : V d nM wM M pc l (.null :: st) h Q := by
  intro G p la e R s m args below meth c Z n0 w0 hF hret H locs ls hH hl hn hw hls
  exact lv_ifnonnullN hF.1 hF.2.1 hd (k G p la e R s m args below meth c Z n0 w0 hF hret H locs _ hH hl hn hw hls)
theorem V_ifnull {x : Nat} {off : Int} (hd : decode M.2.1 pc = .ok (.ifnull off, 3)) (k : V d nM wM M (pc + 3) l (st) h Q) : V d nM wM M pc l (.ref x :: st) h Q := by
  intro G p la e R s m args below meth c Z n0 w0 hF hret H locs ls hH hl hn hw hls
  exact lv_ifnull hF.1 hF.2.1 hd (k G p la e R s m args below meth c Z n0 w0 hF hret H locs _ hH hl hn hw hls)
theorem V_ifnullN {off : Int} {tgt : Nat} (hd : decode M.2.1 pc = .ok (.ifnull off, 3)) (ht : (pc : Int) + off = (tgt : Int)) (k : V d nM wM M (tgt) l (st) h Q) : V d nM wM M pc l (.null :: st) h Q := by
  intro G p la e R s m args below meth c Z n0 w0 hF hret H locs ls hH hl hn hw hls
  exact lv_ifnullN hF.1 hF.2.1 hd ht (k G p la e R s m args below meth c Z n0 w0 hF hret H locs _ hH hl hn hw hls)
theorem V_ldc {idx : Nat} {v : Int32} (hd : decode M.2.1 pc = .ok (.ldc idx, 2)) (hc : Cond.constant M.1.cls idx v ∈ lw_tbl) (k : V d nM wM M (pc + 2) l (.int v :: st) h Q) : V d nM wM M pc l (st) h Q := by
  intro G p la e R s m args below meth c Z n0 w0 hF hret H locs ls hH hl hn hw hls
  exact lv_ldc hF.1 hF.2.1 hF.2.2.2.2.1 (hF.2.2.2.2.2.1 _ (xtbl_in hc rfl)) hd (k G p la e R s m args below meth c Z n0 w0 hF hret H locs _ hH hl hn hw hls)
theorem V_ldcw {idx : Nat} {v : Int32} (hd : decode M.2.1 pc = .ok (.ldc_w idx, 3)) (hc : Cond.constant M.1.cls idx v ∈ lw_tbl) (k : V d nM wM M (pc + 3) l (.int v :: st) h Q) : V d nM wM M pc l (st) h Q := by
  intro G p la e R s m args below meth c Z n0 w0 hF hret H locs ls hH hl hn hw hls
  exact lv_ldcw hF.1 hF.2.1 hF.2.2.2.2.1 (hF.2.2.2.2.2.1 _ (xtbl_in hc rfl)) hd (k G p la e R s m args below meth c Z n0 w0 hF hret H locs _ hH hl hn hw hls)
theorem V_ldc2 {idx : Nat} {v : Int64} (hd : decode M.2.1 pc = .ok (.ldc2_w idx, 3)) (hc : Cond.constantLong M.1.cls idx v ∈ lw_tbl) (k : V d nM wM M (pc + 3) l (.long v :: st) h Q) : V d nM wM M pc l (st) h Q := by
  intro G p la e R s m args below meth c Z n0 w0 hF hret H locs ls hH hl hn hw hls
  exact lv_ldc2 hF.1 hF.2.1 hF.2.2.2.2.1 (hF.2.2.2.2.2.1 _ (xtbl_in hc rfl)) hd (k G p la e R s m args below meth c Z n0 w0 hF hret H locs _ hH hl hn hw hls)
theorem V.to {pc' : Nat} {l' : xL} {st' : List Value} {h' : xH} (k : V d nM wM M pc' l' st' h' Q) (h1 : pc = pc') (h2 : l = l') (h3 : st = st') (h4 : h = h') : V d nM wM M pc l st h Q := by subst h1 h2 h3 h4; exact k
theorem V.mono {Q' : Option Value → xH → Prop} (k : V d nM wM M pc l st h Q) (hq : ∀ r h', Q r h' → Q' r h') : V d nM wM M pc l st h Q' := fun G p la e R s m args below meth c Z n0 w0 hF hret => k G p la e R s m args below meth c Z n0 w0 hF (fun r h' H' locs' pc' ls' q => hret r h' H' locs' pc' ls' (hq r h' q))
end XR
