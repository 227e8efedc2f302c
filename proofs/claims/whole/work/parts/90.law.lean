/-! the loop of the law, and its start -/
theorem sx_in {i : Int32} {n L : Nat} (h : i = nI n) (hn : n < L) (hL : L ≤ 3072) : vp_in i L := by
  rw [h]
  exact vp_in_nI hn (by omega)
theorem sx_at {xs : Nat → Int32} {i : Int32} {n : Nat} (h : i = nI n) (hn : n < 3072) : xs i.toNatClampNeg = xs n := by
  rw [h, nI_clamp (by omega)]
theorem nI_6 {k : Nat} : nI (6 * k) + 6 = nI (6 * (k + 1)) := by
  rw [Nat.mul_add]
  simp only [nI, Int32.ofNat_add]
  rfl
theorem sx_len {L : Nat} (hL : L ≤ 3072) : (Int32.ofNat L - 6).toInt = (L : Int) - 6 := by
  have h1 := nI_toInt (n := L) (by omega)
  have q6 : (6 : Int32).toInt = 6 := by decide
  rw [show Int32.ofNat L = nI L from rfl, toI_sub (by omega) (by omega) (by decide) (by decide), h1, q6]
theorem c_law_loop {L : Nat} {xs : Nat → Int32} {d : Nat} {Q : Option Value → xF → Prop}  (hL : L ≤ 3072) (hQ : ∀ F, Q (some (.int 1)) F) : ∀ (n : Nat) (k : Nat) (F : xF), Rel F → 6 * k ≤ L → L < n * 6 + 6 * k → V2 L xs (d + 101) m_Lw_law 18 [some (.ref 1000000), some (.ref 0), some (.ref 65), some (.int (nI (6 * k)))] [] F Q := by
  intro n
  induction n with
  | zero => exact fun k F hR h1 h2 => absurd h2 (by omega)
  | succ n ih =>
    intro k F hR h1 h2
    refine V2_iload_n (i := 3) d_Lw_law_18 rfl rfl ?_
    refine V2_aload_n (i := 0) d_Lw_law_19 rfl rfl ?_
    refine V2_scriptlen d_Lw_law_20 ?_
    refine V2_topi (fun v1 ev1 => ?_)
    refine V2_bipush (v := 6) d_Lw_law_21 rfl ?_
    refine V2_isub d_Lw_law_23 ?_
    refine V2_topi (fun v2 ev2 => ?_)
    refine V2_icmp_gt (tgt := 1347) d_Lw_law_24 rfl (fun c3 => ?_) (fun c3 => ?_)
    · refine V2_iconst (v := 1) d_Lw_law_1347 rfl ?_
      refine V2_zreturn d_Lw_law_1348 rfl (by decide) ?_
      exact hQ _
    · have hk : 6 * k + 6 ≤ L := by
        have h9 := c3
        subst ev2 ev1
        rw [Int32.lt_iff_toInt_lt, sx_len hL, nI_toInt (by omega)] at h9
        omega
      refine V2_aload_n (i := 0) d_Lw_law_27 rfl rfl ?_
      refine V2_iload_n (i := 3) d_Lw_law_28 rfl rfl ?_
      refine V2_script d_Lw_law_29 (sx_in (n := 6 * k) rfl (by omega) hL) ?_
      refine V2_lit (v := xs (6 * k)) (sx_at (n := 6 * k) rfl (by omega)) ?_
      refine V2_bipush (v := 63) d_Lw_law_30 rfl ?_
      refine V2_iand d_Lw_law_32 ?_
      refine V2_topi (fun v4 ev4 => ?_)
      by_cases c5_0 : v4 = 0
      · refine V2_tableIn (tgt := 204) (off := 171) d_Lw_law_33 (by rw [c5_0]; decide) (by rw [c5_0]; decide) (by rw [c5_0]; decide) rfl ?_
        refine V2_aload_n (i := 1) d_Lw_law_204 rfl rfl ?_
        refine V2_aload_n (i := 0) d_Lw_law_205 rfl rfl ?_
        refine V2_iload_n (i := 3) d_Lw_law_206 rfl rfl ?_
        refine V2_iconst (v := 1) d_Lw_law_207 rfl ?_
        refine V2_iadd d_Lw_law_208 ?_
        refine V2_topi (fun v6 ev6 => ?_)
        refine V2_script d_Lw_law_209 (sx_in (n := 6 * k + 1) (by rw [ev6]; exact nI_add (6 * k) 1) (by omega) hL) ?_
        refine V2_lit (v := xs (6 * k + 1)) (sx_at (n := 6 * k + 1) (by rw [ev6]; exact nI_add (6 * k) 1) (by omega)) ?_
        refine V2_callV [.int (xs (6 * k + 1))] d_Lw_law_210 rfl rfl lk_Lw_13 mo_P_pusher (by decide) rfl rfl rfl (Nat.le_of_ble_eq_true rfl) (Nat.le_of_ble_eq_true rfl) ?_
        obtain ⟨kx, hcx, hmx⟩ := pr_pusher hR (xs (6 * k + 1))
        refine hcx _ _ _ _ (fun F1 hM => ?_)
        refine V2_aload_n (i := 2) d_Lw_law_213 rfl rfl ?_
        refine V2_aload_n (i := 0) d_Lw_law_214 rfl rfl ?_
        refine V2_iload_n (i := 3) d_Lw_law_215 rfl rfl ?_
        refine V2_iconst (v := 1) d_Lw_law_216 rfl ?_
        refine V2_iadd d_Lw_law_217 ?_
        refine V2_topi (fun v7 ev7 => ?_)
        refine V2_script d_Lw_law_218 (sx_in (n := 6 * k + 1) (by rw [ev7]; exact nI_add (6 * k) 1) (by omega) hL) ?_
        refine V2_lit (v := xs (6 * k + 1)) (sx_at (n := 6 * k + 1) (by rw [ev7]; exact nI_add (6 * k) 1) (by omega)) ?_
        refine V2_callV [.int (xs (6 * k + 1))] d_Lw_law_219 rfl rfl lk_Lw_17 mo_R_pusher (by decide) rfl rfl rfl (Nat.le_of_ble_eq_true rfl) (Nat.le_of_ble_eq_true rfl) ?_
        refine hmx _ _ _ _ F1 hM (fun F2 hR2 => ?_)
        refine V2_icmp_eq (tgt := 1341) d_Lw_law_222 rfl (fun c8 => ?_) (fun c8 => (by first | exact absurd (rfl : kx.1 = kx.1) c8 | exact absurd c8 (rfl : kx.1 = kx.1)))
        obtain ⟨v9, ev9⟩ : ∃ y : Int32, y = nI (6 * k) + 6 := ⟨_, rfl⟩
        refine V2_iinc (i := 3) (v := v9) (l' := [some (.ref 1000000), some (.ref 0), some (.ref 65), some (.int v9)]) d_Lw_law_1341 rfl (by rw [ev9]; rfl) (xst_r (Nat.le_of_ble_eq_true rfl) rfl rfl) ?_
        refine V2_goto (tgt := 18) d_Lw_law_1344 rfl ?_
        exact V2.to (ih (k + 1) F2 hR2 (by omega) (by omega)) rfl (by rw [ev9, nI_6]) rfl rfl
      by_cases c5_1 : v4 = 1
      · refine V2_tableIn (tgt := 227) (off := 194) d_Lw_law_33 (by rw [c5_1]; decide) (by rw [c5_1]; decide) (by rw [c5_1]; decide) rfl ?_
        refine V2_aload_n (i := 1) d_Lw_law_227 rfl rfl ?_
        refine V2_aload_n (i := 0) d_Lw_law_228 rfl rfl ?_
        refine V2_iload_n (i := 3) d_Lw_law_229 rfl rfl ?_
        refine V2_iconst (v := 1) d_Lw_law_230 rfl ?_
        refine V2_iadd d_Lw_law_231 ?_
        refine V2_topi (fun v10 ev10 => ?_)
        refine V2_script d_Lw_law_232 (sx_in (n := 6 * k + 1) (by rw [ev10]; exact nI_add (6 * k) 1) (by omega) hL) ?_
        refine V2_lit (v := xs (6 * k + 1)) (sx_at (n := 6 * k + 1) (by rw [ev10]; exact nI_add (6 * k) 1) (by omega)) ?_
        refine V2_aload_n (i := 0) d_Lw_law_233 rfl rfl ?_
        refine V2_iload_n (i := 3) d_Lw_law_234 rfl rfl ?_
        refine V2_iconst (v := 2) d_Lw_law_235 rfl ?_
        refine V2_iadd d_Lw_law_236 ?_
        refine V2_topi (fun v11 ev11 => ?_)
        refine V2_script d_Lw_law_237 (sx_in (n := 6 * k + 2) (by rw [ev11]; exact nI_add (6 * k) 2) (by omega) hL) ?_
        refine V2_lit (v := xs (6 * k + 2)) (sx_at (n := 6 * k + 2) (by rw [ev11]; exact nI_add (6 * k) 2) (by omega)) ?_
        refine V2_callV [.int (xs (6 * k + 1)), .int (xs (6 * k + 2))] d_Lw_law_238 rfl rfl lk_Lw_18 mo_P_pusherIs (by decide) rfl rfl rfl (Nat.le_of_ble_eq_true rfl) (Nat.le_of_ble_eq_true rfl) ?_
        obtain ⟨kx, hcx, hmx⟩ := pr_pusherIs hR (xs (6 * k + 1)) (xs (6 * k + 2))
        refine hcx _ _ _ _ (fun F1 hM => ?_)
        refine V2_aload_n (i := 2) d_Lw_law_241 rfl rfl ?_
        refine V2_aload_n (i := 0) d_Lw_law_242 rfl rfl ?_
        refine V2_iload_n (i := 3) d_Lw_law_243 rfl rfl ?_
        refine V2_iconst (v := 1) d_Lw_law_244 rfl ?_
        refine V2_iadd d_Lw_law_245 ?_
        refine V2_topi (fun v12 ev12 => ?_)
        refine V2_script d_Lw_law_246 (sx_in (n := 6 * k + 1) (by rw [ev12]; exact nI_add (6 * k) 1) (by omega) hL) ?_
        refine V2_lit (v := xs (6 * k + 1)) (sx_at (n := 6 * k + 1) (by rw [ev12]; exact nI_add (6 * k) 1) (by omega)) ?_
        refine V2_aload_n (i := 0) d_Lw_law_247 rfl rfl ?_
        refine V2_iload_n (i := 3) d_Lw_law_248 rfl rfl ?_
        refine V2_iconst (v := 2) d_Lw_law_249 rfl ?_
        refine V2_iadd d_Lw_law_250 ?_
        refine V2_topi (fun v13 ev13 => ?_)
        refine V2_script d_Lw_law_251 (sx_in (n := 6 * k + 2) (by rw [ev13]; exact nI_add (6 * k) 2) (by omega) hL) ?_
        refine V2_lit (v := xs (6 * k + 2)) (sx_at (n := 6 * k + 2) (by rw [ev13]; exact nI_add (6 * k) 2) (by omega)) ?_
        refine V2_callV [.int (xs (6 * k + 1)), .int (xs (6 * k + 2))] d_Lw_law_252 rfl rfl lk_Lw_22 mo_R_pusherIs (by decide) rfl rfl rfl (Nat.le_of_ble_eq_true rfl) (Nat.le_of_ble_eq_true rfl) ?_
        refine hmx _ _ _ _ F1 hM (fun F2 hR2 => ?_)
        refine V2_icmp_eq (tgt := 1341) d_Lw_law_255 rfl (fun c14 => ?_) (fun c14 => (by first | exact absurd (rfl : kx.1 = kx.1) c14 | exact absurd c14 (rfl : kx.1 = kx.1)))
        obtain ⟨v15, ev15⟩ : ∃ y : Int32, y = nI (6 * k) + 6 := ⟨_, rfl⟩
        refine V2_iinc (i := 3) (v := v15) (l' := [some (.ref 1000000), some (.ref 0), some (.ref 65), some (.int v15)]) d_Lw_law_1341 rfl (by rw [ev15]; rfl) (xst_r (Nat.le_of_ble_eq_true rfl) rfl rfl) ?_
        refine V2_goto (tgt := 18) d_Lw_law_1344 rfl ?_
        exact V2.to (ih (k + 1) F2 hR2 (by omega) (by omega)) rfl (by rw [ev15, nI_6]) rfl rfl
      by_cases c5_2 : v4 = 2
      · refine V2_tableIn (tgt := 260) (off := 227) d_Lw_law_33 (by rw [c5_2]; decide) (by rw [c5_2]; decide) (by rw [c5_2]; decide) rfl ?_
        refine V2_aload_n (i := 1) d_Lw_law_260 rfl rfl ?_
        refine V2_aload_n (i := 0) d_Lw_law_261 rfl rfl ?_
        refine V2_iload_n (i := 3) d_Lw_law_262 rfl rfl ?_
        refine V2_iconst (v := 1) d_Lw_law_263 rfl ?_
        refine V2_iadd d_Lw_law_264 ?_
        refine V2_topi (fun v16 ev16 => ?_)
        refine V2_script d_Lw_law_265 (sx_in (n := 6 * k + 1) (by rw [ev16]; exact nI_add (6 * k) 1) (by omega) hL) ?_
        refine V2_lit (v := xs (6 * k + 1)) (sx_at (n := 6 * k + 1) (by rw [ev16]; exact nI_add (6 * k) 1) (by omega)) ?_
        refine V2_aload_n (i := 0) d_Lw_law_266 rfl rfl ?_
        refine V2_iload_n (i := 3) d_Lw_law_267 rfl rfl ?_
        refine V2_iconst (v := 2) d_Lw_law_268 rfl ?_
        refine V2_iadd d_Lw_law_269 ?_
        refine V2_topi (fun v17 ev17 => ?_)
        refine V2_script d_Lw_law_270 (sx_in (n := 6 * k + 2) (by rw [ev17]; exact nI_add (6 * k) 2) (by omega) hL) ?_
        refine V2_lit (v := xs (6 * k + 2)) (sx_at (n := 6 * k + 2) (by rw [ev17]; exact nI_add (6 * k) 2) (by omega)) ?_
        refine V2_callV [.int (xs (6 * k + 1)), .int (xs (6 * k + 2))] d_Lw_law_271 rfl rfl lk_Lw_23 mo_P_become (by decide) rfl rfl rfl (Nat.le_of_ble_eq_true rfl) (Nat.le_of_ble_eq_true rfl) ?_
        obtain ⟨kx, hcx, hmx⟩ := pr_become hR (xs (6 * k + 1)) (xs (6 * k + 2))
        refine hcx _ _ _ _ (fun F1 hM => ?_)
        refine V2_aload_n (i := 2) d_Lw_law_274 rfl rfl ?_
        refine V2_aload_n (i := 0) d_Lw_law_275 rfl rfl ?_
        refine V2_iload_n (i := 3) d_Lw_law_276 rfl rfl ?_
        refine V2_iconst (v := 1) d_Lw_law_277 rfl ?_
        refine V2_iadd d_Lw_law_278 ?_
        refine V2_topi (fun v18 ev18 => ?_)
        refine V2_script d_Lw_law_279 (sx_in (n := 6 * k + 1) (by rw [ev18]; exact nI_add (6 * k) 1) (by omega) hL) ?_
        refine V2_lit (v := xs (6 * k + 1)) (sx_at (n := 6 * k + 1) (by rw [ev18]; exact nI_add (6 * k) 1) (by omega)) ?_
        refine V2_aload_n (i := 0) d_Lw_law_280 rfl rfl ?_
        refine V2_iload_n (i := 3) d_Lw_law_281 rfl rfl ?_
        refine V2_iconst (v := 2) d_Lw_law_282 rfl ?_
        refine V2_iadd d_Lw_law_283 ?_
        refine V2_topi (fun v19 ev19 => ?_)
        refine V2_script d_Lw_law_284 (sx_in (n := 6 * k + 2) (by rw [ev19]; exact nI_add (6 * k) 2) (by omega) hL) ?_
        refine V2_lit (v := xs (6 * k + 2)) (sx_at (n := 6 * k + 2) (by rw [ev19]; exact nI_add (6 * k) 2) (by omega)) ?_
        refine V2_callV [.int (xs (6 * k + 1)), .int (xs (6 * k + 2))] d_Lw_law_285 rfl rfl lk_Lw_26 mo_R_become (by decide) rfl rfl rfl (Nat.le_of_ble_eq_true rfl) (Nat.le_of_ble_eq_true rfl) ?_
        refine hmx _ _ _ _ F1 hM (fun F2 hR2 => ?_)
        refine V2_icmp_eq (tgt := 1341) d_Lw_law_288 rfl (fun c20 => ?_) (fun c20 => (by first | exact absurd (rfl : kx.1 = kx.1) c20 | exact absurd c20 (rfl : kx.1 = kx.1)))
        obtain ⟨v21, ev21⟩ : ∃ y : Int32, y = nI (6 * k) + 6 := ⟨_, rfl⟩
        refine V2_iinc (i := 3) (v := v21) (l' := [some (.ref 1000000), some (.ref 0), some (.ref 65), some (.int v21)]) d_Lw_law_1341 rfl (by rw [ev21]; rfl) (xst_r (Nat.le_of_ble_eq_true rfl) rfl rfl) ?_
        refine V2_goto (tgt := 18) d_Lw_law_1344 rfl ?_
        exact V2.to (ih (k + 1) F2 hR2 (by omega) (by omega)) rfl (by rw [ev21, nI_6]) rfl rfl
      by_cases c5_3 : v4 = 3
      · refine V2_tableIn (tgt := 293) (off := 260) d_Lw_law_33 (by rw [c5_3]; decide) (by rw [c5_3]; decide) (by rw [c5_3]; decide) rfl ?_
        refine V2_aload_n (i := 1) d_Lw_law_293 rfl rfl ?_
        refine V2_aload_n (i := 0) d_Lw_law_294 rfl rfl ?_
        refine V2_iload_n (i := 3) d_Lw_law_295 rfl rfl ?_
        refine V2_iconst (v := 1) d_Lw_law_296 rfl ?_
        refine V2_iadd d_Lw_law_297 ?_
        refine V2_topi (fun v22 ev22 => ?_)
        refine V2_script d_Lw_law_298 (sx_in (n := 6 * k + 1) (by rw [ev22]; exact nI_add (6 * k) 1) (by omega) hL) ?_
        refine V2_lit (v := xs (6 * k + 1)) (sx_at (n := 6 * k + 1) (by rw [ev22]; exact nI_add (6 * k) 1) (by omega)) ?_
        refine V2_aload_n (i := 0) d_Lw_law_299 rfl rfl ?_
        refine V2_iload_n (i := 3) d_Lw_law_300 rfl rfl ?_
        refine V2_iconst (v := 2) d_Lw_law_301 rfl ?_
        refine V2_iadd d_Lw_law_302 ?_
        refine V2_topi (fun v23 ev23 => ?_)
        refine V2_script d_Lw_law_303 (sx_in (n := 6 * k + 2) (by rw [ev23]; exact nI_add (6 * k) 2) (by omega) hL) ?_
        refine V2_lit (v := xs (6 * k + 2)) (sx_at (n := 6 * k + 2) (by rw [ev23]; exact nI_add (6 * k) 2) (by omega)) ?_
        refine V2_callV [.int (xs (6 * k + 1)), .int (xs (6 * k + 2))] d_Lw_law_304 rfl rfl lk_Lw_27 mo_P_as (by decide) rfl rfl rfl (Nat.le_of_ble_eq_true rfl) (Nat.le_of_ble_eq_true rfl) ?_
        obtain ⟨kx, hcx, hmx⟩ := pr_as hR (xs (6 * k + 1)) (xs (6 * k + 2))
        refine hcx _ _ _ _ (fun F1 hM => ?_)
        refine V2_aload_n (i := 2) d_Lw_law_307 rfl rfl ?_
        refine V2_aload_n (i := 0) d_Lw_law_308 rfl rfl ?_
        refine V2_iload_n (i := 3) d_Lw_law_309 rfl rfl ?_
        refine V2_iconst (v := 1) d_Lw_law_310 rfl ?_
        refine V2_iadd d_Lw_law_311 ?_
        refine V2_topi (fun v24 ev24 => ?_)
        refine V2_script d_Lw_law_312 (sx_in (n := 6 * k + 1) (by rw [ev24]; exact nI_add (6 * k) 1) (by omega) hL) ?_
        refine V2_lit (v := xs (6 * k + 1)) (sx_at (n := 6 * k + 1) (by rw [ev24]; exact nI_add (6 * k) 1) (by omega)) ?_
        refine V2_aload_n (i := 0) d_Lw_law_313 rfl rfl ?_
        refine V2_iload_n (i := 3) d_Lw_law_314 rfl rfl ?_
        refine V2_iconst (v := 2) d_Lw_law_315 rfl ?_
        refine V2_iadd d_Lw_law_316 ?_
        refine V2_topi (fun v25 ev25 => ?_)
        refine V2_script d_Lw_law_317 (sx_in (n := 6 * k + 2) (by rw [ev25]; exact nI_add (6 * k) 2) (by omega) hL) ?_
        refine V2_lit (v := xs (6 * k + 2)) (sx_at (n := 6 * k + 2) (by rw [ev25]; exact nI_add (6 * k) 2) (by omega)) ?_
        refine V2_callV [.int (xs (6 * k + 1)), .int (xs (6 * k + 2))] d_Lw_law_318 rfl rfl lk_Lw_30 mo_R_as (by decide) rfl rfl rfl (Nat.le_of_ble_eq_true rfl) (Nat.le_of_ble_eq_true rfl) ?_
        refine hmx _ _ _ _ F1 hM (fun F2 hR2 => ?_)
        refine V2_icmp_eq (tgt := 1341) d_Lw_law_321 rfl (fun c26 => ?_) (fun c26 => (by first | exact absurd (rfl : kx.1 = kx.1) c26 | exact absurd c26 (rfl : kx.1 = kx.1)))
        obtain ⟨v27, ev27⟩ : ∃ y : Int32, y = nI (6 * k) + 6 := ⟨_, rfl⟩
        refine V2_iinc (i := 3) (v := v27) (l' := [some (.ref 1000000), some (.ref 0), some (.ref 65), some (.int v27)]) d_Lw_law_1341 rfl (by rw [ev27]; rfl) (xst_r (Nat.le_of_ble_eq_true rfl) rfl rfl) ?_
        refine V2_goto (tgt := 18) d_Lw_law_1344 rfl ?_
        exact V2.to (ih (k + 1) F2 hR2 (by omega) (by omega)) rfl (by rw [ev27, nI_6]) rfl rfl
      by_cases c5_4 : v4 = 4
      · refine V2_tableIn (tgt := 326) (off := 293) d_Lw_law_33 (by rw [c5_4]; decide) (by rw [c5_4]; decide) (by rw [c5_4]; decide) rfl ?_
        refine V2_aload_n (i := 1) d_Lw_law_326 rfl rfl ?_
        refine V2_callV [] d_Lw_law_327 rfl rfl lk_Lw_31 mo_P_leaves (by decide) rfl rfl rfl (Nat.le_of_ble_eq_true rfl) (Nat.le_of_ble_eq_true rfl) ?_
        obtain ⟨kx, hcx, hmx⟩ := pr_leaves hR 
        refine hcx _ _ _ _ (fun F1 hM => ?_)
        refine V2_aload_n (i := 2) d_Lw_law_330 rfl rfl ?_
        refine V2_callV [] d_Lw_law_331 rfl rfl lk_Lw_35 mo_R_leaves (by decide) rfl rfl rfl (Nat.le_of_ble_eq_true rfl) (Nat.le_of_ble_eq_true rfl) ?_
        refine hmx _ _ _ _ F1 hM (fun F2 hR2 => ?_)
        refine V2_icmp_eq (tgt := 1341) d_Lw_law_334 rfl (fun c28 => ?_) (fun c28 => (by first | exact absurd (rfl : kx.1 = kx.1) c28 | exact absurd c28 (rfl : kx.1 = kx.1)))
        obtain ⟨v29, ev29⟩ : ∃ y : Int32, y = nI (6 * k) + 6 := ⟨_, rfl⟩
        refine V2_iinc (i := 3) (v := v29) (l' := [some (.ref 1000000), some (.ref 0), some (.ref 65), some (.int v29)]) d_Lw_law_1341 rfl (by rw [ev29]; rfl) (xst_r (Nat.le_of_ble_eq_true rfl) rfl rfl) ?_
        refine V2_goto (tgt := 18) d_Lw_law_1344 rfl ?_
        exact V2.to (ih (k + 1) F2 hR2 (by omega) (by omega)) rfl (by rw [ev29, nI_6]) rfl rfl
      by_cases c5_5 : v4 = 5
      · refine V2_tableIn (tgt := 339) (off := 306) d_Lw_law_33 (by rw [c5_5]; decide) (by rw [c5_5]; decide) (by rw [c5_5]; decide) rfl ?_
        refine V2_aload_n (i := 1) d_Lw_law_339 rfl rfl ?_
        refine V2_aload_n (i := 0) d_Lw_law_340 rfl rfl ?_
        refine V2_iload_n (i := 3) d_Lw_law_341 rfl rfl ?_
        refine V2_iconst (v := 1) d_Lw_law_342 rfl ?_
        refine V2_iadd d_Lw_law_343 ?_
        refine V2_topi (fun v30 ev30 => ?_)
        refine V2_script d_Lw_law_344 (sx_in (n := 6 * k + 1) (by rw [ev30]; exact nI_add (6 * k) 1) (by omega) hL) ?_
        refine V2_lit (v := xs (6 * k + 1)) (sx_at (n := 6 * k + 1) (by rw [ev30]; exact nI_add (6 * k) 1) (by omega)) ?_
        refine V2_aload_n (i := 0) d_Lw_law_345 rfl rfl ?_
        refine V2_iload_n (i := 3) d_Lw_law_346 rfl rfl ?_
        refine V2_iconst (v := 2) d_Lw_law_347 rfl ?_
        refine V2_iadd d_Lw_law_348 ?_
        refine V2_topi (fun v31 ev31 => ?_)
        refine V2_script d_Lw_law_349 (sx_in (n := 6 * k + 2) (by rw [ev31]; exact nI_add (6 * k) 2) (by omega) hL) ?_
        refine V2_lit (v := xs (6 * k + 2)) (sx_at (n := 6 * k + 2) (by rw [ev31]; exact nI_add (6 * k) 2) (by omega)) ?_
        refine V2_callV [.int (xs (6 * k + 1)), .int (xs (6 * k + 2))] d_Lw_law_350 rfl rfl lk_Lw_36 mo_P_car (by decide) rfl rfl rfl (Nat.le_of_ble_eq_true rfl) (Nat.le_of_ble_eq_true rfl) ?_
        obtain ⟨kx, hcx, hmx⟩ := pr_car hR (xs (6 * k + 1)) (xs (6 * k + 2))
        refine hcx _ _ _ _ (fun F1 hM => ?_)
        refine V2_aload_n (i := 2) d_Lw_law_353 rfl rfl ?_
        refine V2_aload_n (i := 0) d_Lw_law_354 rfl rfl ?_
        refine V2_iload_n (i := 3) d_Lw_law_355 rfl rfl ?_
        refine V2_iconst (v := 1) d_Lw_law_356 rfl ?_
        refine V2_iadd d_Lw_law_357 ?_
        refine V2_topi (fun v32 ev32 => ?_)
        refine V2_script d_Lw_law_358 (sx_in (n := 6 * k + 1) (by rw [ev32]; exact nI_add (6 * k) 1) (by omega) hL) ?_
        refine V2_lit (v := xs (6 * k + 1)) (sx_at (n := 6 * k + 1) (by rw [ev32]; exact nI_add (6 * k) 1) (by omega)) ?_
        refine V2_aload_n (i := 0) d_Lw_law_359 rfl rfl ?_
        refine V2_iload_n (i := 3) d_Lw_law_360 rfl rfl ?_
        refine V2_iconst (v := 2) d_Lw_law_361 rfl ?_
        refine V2_iadd d_Lw_law_362 ?_
        refine V2_topi (fun v33 ev33 => ?_)
        refine V2_script d_Lw_law_363 (sx_in (n := 6 * k + 2) (by rw [ev33]; exact nI_add (6 * k) 2) (by omega) hL) ?_
        refine V2_lit (v := xs (6 * k + 2)) (sx_at (n := 6 * k + 2) (by rw [ev33]; exact nI_add (6 * k) 2) (by omega)) ?_
        refine V2_callV [.int (xs (6 * k + 1)), .int (xs (6 * k + 2))] d_Lw_law_364 rfl rfl lk_Lw_39 mo_R_car (by decide) rfl rfl rfl (Nat.le_of_ble_eq_true rfl) (Nat.le_of_ble_eq_true rfl) ?_
        refine hmx _ _ _ _ F1 hM (fun F2 hR2 => ?_)
        refine V2_icmp_eq (tgt := 1341) d_Lw_law_367 rfl (fun c34 => ?_) (fun c34 => (by first | exact absurd (rfl : kx.1 = kx.1) c34 | exact absurd c34 (rfl : kx.1 = kx.1)))
        obtain ⟨v35, ev35⟩ : ∃ y : Int32, y = nI (6 * k) + 6 := ⟨_, rfl⟩
        refine V2_iinc (i := 3) (v := v35) (l' := [some (.ref 1000000), some (.ref 0), some (.ref 65), some (.int v35)]) d_Lw_law_1341 rfl (by rw [ev35]; rfl) (xst_r (Nat.le_of_ble_eq_true rfl) rfl rfl) ?_
        refine V2_goto (tgt := 18) d_Lw_law_1344 rfl ?_
        exact V2.to (ih (k + 1) F2 hR2 (by omega) (by omega)) rfl (by rw [ev35, nI_6]) rfl rfl
      by_cases c5_6 : v4 = 6
      · refine V2_tableIn (tgt := 372) (off := 339) d_Lw_law_33 (by rw [c5_6]; decide) (by rw [c5_6]; decide) (by rw [c5_6]; decide) rfl ?_
        refine V2_aload_n (i := 1) d_Lw_law_372 rfl rfl ?_
        refine V2_aload_n (i := 0) d_Lw_law_373 rfl rfl ?_
        refine V2_iload_n (i := 3) d_Lw_law_374 rfl rfl ?_
        refine V2_iconst (v := 1) d_Lw_law_375 rfl ?_
        refine V2_iadd d_Lw_law_376 ?_
        refine V2_topi (fun v36 ev36 => ?_)
        refine V2_script d_Lw_law_377 (sx_in (n := 6 * k + 1) (by rw [ev36]; exact nI_add (6 * k) 1) (by omega) hL) ?_
        refine V2_lit (v := xs (6 * k + 1)) (sx_at (n := 6 * k + 1) (by rw [ev36]; exact nI_add (6 * k) 1) (by omega)) ?_
        refine V2_callV [.int (xs (6 * k + 1))] d_Lw_law_378 rfl rfl lk_Lw_40 mo_P_carIs (by decide) rfl rfl rfl (Nat.le_of_ble_eq_true rfl) (Nat.le_of_ble_eq_true rfl) ?_
        obtain ⟨kx, hcx, hmx⟩ := pr_carIs hR (xs (6 * k + 1))
        refine hcx _ _ _ _ (fun F1 hM => ?_)
        refine V2_aload_n (i := 2) d_Lw_law_381 rfl rfl ?_
        refine V2_aload_n (i := 0) d_Lw_law_382 rfl rfl ?_
        refine V2_iload_n (i := 3) d_Lw_law_383 rfl rfl ?_
        refine V2_iconst (v := 1) d_Lw_law_384 rfl ?_
        refine V2_iadd d_Lw_law_385 ?_
        refine V2_topi (fun v37 ev37 => ?_)
        refine V2_script d_Lw_law_386 (sx_in (n := 6 * k + 1) (by rw [ev37]; exact nI_add (6 * k) 1) (by omega) hL) ?_
        refine V2_lit (v := xs (6 * k + 1)) (sx_at (n := 6 * k + 1) (by rw [ev37]; exact nI_add (6 * k) 1) (by omega)) ?_
        refine V2_callV [.int (xs (6 * k + 1))] d_Lw_law_387 rfl rfl lk_Lw_43 mo_R_carIs (by decide) rfl rfl rfl (Nat.le_of_ble_eq_true rfl) (Nat.le_of_ble_eq_true rfl) ?_
        refine hmx _ _ _ _ F1 hM (fun F2 hR2 => ?_)
        refine V2_icmp_eq (tgt := 1341) d_Lw_law_390 rfl (fun c38 => ?_) (fun c38 => (by first | exact absurd (rfl : kx.1 = kx.1) c38 | exact absurd c38 (rfl : kx.1 = kx.1)))
        obtain ⟨v39, ev39⟩ : ∃ y : Int32, y = nI (6 * k) + 6 := ⟨_, rfl⟩
        refine V2_iinc (i := 3) (v := v39) (l' := [some (.ref 1000000), some (.ref 0), some (.ref 65), some (.int v39)]) d_Lw_law_1341 rfl (by rw [ev39]; rfl) (xst_r (Nat.le_of_ble_eq_true rfl) rfl rfl) ?_
        refine V2_goto (tgt := 18) d_Lw_law_1344 rfl ?_
        exact V2.to (ih (k + 1) F2 hR2 (by omega) (by omega)) rfl (by rw [ev39, nI_6]) rfl rfl
      by_cases c5_7 : v4 = 7
      · refine V2_tableIn (tgt := 395) (off := 362) d_Lw_law_33 (by rw [c5_7]; decide) (by rw [c5_7]; decide) (by rw [c5_7]; decide) rfl ?_
        refine V2_aload_n (i := 1) d_Lw_law_395 rfl rfl ?_
        refine V2_aload_n (i := 0) d_Lw_law_396 rfl rfl ?_
        refine V2_iload_n (i := 3) d_Lw_law_397 rfl rfl ?_
        refine V2_iconst (v := 1) d_Lw_law_398 rfl ?_
        refine V2_iadd d_Lw_law_399 ?_
        refine V2_topi (fun v40 ev40 => ?_)
        refine V2_script d_Lw_law_400 (sx_in (n := 6 * k + 1) (by rw [ev40]; exact nI_add (6 * k) 1) (by omega) hL) ?_
        refine V2_lit (v := xs (6 * k + 1)) (sx_at (n := 6 * k + 1) (by rw [ev40]; exact nI_add (6 * k) 1) (by omega)) ?_
        refine V2_callV [.int (xs (6 * k + 1))] d_Lw_law_401 rfl rfl lk_Lw_44 mo_P_park (by decide) rfl rfl rfl (Nat.le_of_ble_eq_true rfl) (Nat.le_of_ble_eq_true rfl) ?_
        obtain ⟨kx, hcx, hmx⟩ := pr_park hR (xs (6 * k + 1))
        refine hcx _ _ _ _ (fun F1 hM => ?_)
        refine V2_aload_n (i := 2) d_Lw_law_404 rfl rfl ?_
        refine V2_aload_n (i := 0) d_Lw_law_405 rfl rfl ?_
        refine V2_iload_n (i := 3) d_Lw_law_406 rfl rfl ?_
        refine V2_iconst (v := 1) d_Lw_law_407 rfl ?_
        refine V2_iadd d_Lw_law_408 ?_
        refine V2_topi (fun v41 ev41 => ?_)
        refine V2_script d_Lw_law_409 (sx_in (n := 6 * k + 1) (by rw [ev41]; exact nI_add (6 * k) 1) (by omega) hL) ?_
        refine V2_lit (v := xs (6 * k + 1)) (sx_at (n := 6 * k + 1) (by rw [ev41]; exact nI_add (6 * k) 1) (by omega)) ?_
        refine V2_callV [.int (xs (6 * k + 1))] d_Lw_law_410 rfl rfl lk_Lw_47 mo_R_park (by decide) rfl rfl rfl (Nat.le_of_ble_eq_true rfl) (Nat.le_of_ble_eq_true rfl) ?_
        refine hmx _ _ _ _ F1 hM (fun F2 hR2 => ?_)
        refine V2_icmp_eq (tgt := 1341) d_Lw_law_413 rfl (fun c42 => ?_) (fun c42 => (by first | exact absurd (rfl : kx.1 = kx.1) c42 | exact absurd c42 (rfl : kx.1 = kx.1)))
        obtain ⟨v43, ev43⟩ : ∃ y : Int32, y = nI (6 * k) + 6 := ⟨_, rfl⟩
        refine V2_iinc (i := 3) (v := v43) (l' := [some (.ref 1000000), some (.ref 0), some (.ref 65), some (.int v43)]) d_Lw_law_1341 rfl (by rw [ev43]; rfl) (xst_r (Nat.le_of_ble_eq_true rfl) rfl rfl) ?_
        refine V2_goto (tgt := 18) d_Lw_law_1344 rfl ?_
        exact V2.to (ih (k + 1) F2 hR2 (by omega) (by omega)) rfl (by rw [ev43, nI_6]) rfl rfl
      by_cases c5_8 : v4 = 8
      · refine V2_tableIn (tgt := 418) (off := 385) d_Lw_law_33 (by rw [c5_8]; decide) (by rw [c5_8]; decide) (by rw [c5_8]; decide) rfl ?_
        refine V2_aload_n (i := 1) d_Lw_law_418 rfl rfl ?_
        refine V2_aload_n (i := 0) d_Lw_law_419 rfl rfl ?_
        refine V2_iload_n (i := 3) d_Lw_law_420 rfl rfl ?_
        refine V2_iconst (v := 1) d_Lw_law_421 rfl ?_
        refine V2_iadd d_Lw_law_422 ?_
        refine V2_topi (fun v44 ev44 => ?_)
        refine V2_script d_Lw_law_423 (sx_in (n := 6 * k + 1) (by rw [ev44]; exact nI_add (6 * k) 1) (by omega) hL) ?_
        refine V2_lit (v := xs (6 * k + 1)) (sx_at (n := 6 * k + 1) (by rw [ev44]; exact nI_add (6 * k) 1) (by omega)) ?_
        refine V2_i2l d_Lw_law_424 ?_
        refine V2_topl (fun w45 ew45 => ?_)
        refine V2_bipush (v := 32) d_Lw_law_425 rfl ?_
        refine V2_lshl d_Lw_law_427 ?_
        refine V2_topl (fun w46 ew46 => ?_)
        refine V2_aload_n (i := 0) d_Lw_law_428 rfl rfl ?_
        refine V2_iload_n (i := 3) d_Lw_law_429 rfl rfl ?_
        refine V2_iconst (v := 2) d_Lw_law_430 rfl ?_
        refine V2_iadd d_Lw_law_431 ?_
        refine V2_topi (fun v47 ev47 => ?_)
        refine V2_script d_Lw_law_432 (sx_in (n := 6 * k + 2) (by rw [ev47]; exact nI_add (6 * k) 2) (by omega) hL) ?_
        refine V2_lit (v := xs (6 * k + 2)) (sx_at (n := 6 * k + 2) (by rw [ev47]; exact nI_add (6 * k) 2) (by omega)) ?_
        refine V2_i2l d_Lw_law_433 ?_
        refine V2_topl (fun w48 ew48 => ?_)
        refine V2_ldc2 (v := 4294967295) d_Lw_law_434 kc_Lw_48 ?_
        refine V2_land d_Lw_law_437 ?_
        refine V2_topl (fun w49 ew49 => ?_)
        refine V2_lor d_Lw_law_438 ?_
        refine V2_topl (fun w50 ew50 => ?_)
        refine V2_aload_n (i := 0) d_Lw_law_439 rfl rfl ?_
        refine V2_iload_n (i := 3) d_Lw_law_440 rfl rfl ?_
        refine V2_iconst (v := 3) d_Lw_law_441 rfl ?_
        refine V2_iadd d_Lw_law_442 ?_
        refine V2_topi (fun v51 ev51 => ?_)
        refine V2_script d_Lw_law_443 (sx_in (n := 6 * k + 3) (by rw [ev51]; exact nI_add (6 * k) 3) (by omega) hL) ?_
        refine V2_lit (v := xs (6 * k + 3)) (sx_at (n := 6 * k + 3) (by rw [ev51]; exact nI_add (6 * k) 3) (by omega)) ?_
        refine V2_callV [.long w50, .int (xs (6 * k + 3))] d_Lw_law_444 rfl rfl lk_Lw_50 mo_P_feed (by decide) rfl rfl rfl (Nat.le_of_ble_eq_true rfl) (Nat.le_of_ble_eq_true rfl) ?_
        have ew1 : w50 = (((xs (6 * k + 1)).toInt64 <<< ((32 : Int32).toInt64 &&& 63)) ||| ((xs (6 * k + 2)).toInt64 &&& 4294967295)) := by
          subst ev51 ew50 ew49 ew48 ev47 ew46 ew45 ev44 ev4 ev2 ev1
          rfl
        rw [ew1]
        obtain ⟨kx, hcx, hmx⟩ := pr_feed hR (((xs (6 * k + 1)).toInt64 <<< ((32 : Int32).toInt64 &&& 63)) ||| ((xs (6 * k + 2)).toInt64 &&& 4294967295)) (xs (6 * k + 3))
        refine hcx _ _ _ _ (fun F1 hM => ?_)
        refine V2_aload_n (i := 2) d_Lw_law_447 rfl rfl ?_
        refine V2_aload_n (i := 0) d_Lw_law_448 rfl rfl ?_
        refine V2_iload_n (i := 3) d_Lw_law_449 rfl rfl ?_
        refine V2_iconst (v := 1) d_Lw_law_450 rfl ?_
        refine V2_iadd d_Lw_law_451 ?_
        refine V2_topi (fun v52 ev52 => ?_)
        refine V2_script d_Lw_law_452 (sx_in (n := 6 * k + 1) (by rw [ev52]; exact nI_add (6 * k) 1) (by omega) hL) ?_
        refine V2_lit (v := xs (6 * k + 1)) (sx_at (n := 6 * k + 1) (by rw [ev52]; exact nI_add (6 * k) 1) (by omega)) ?_
        refine V2_i2l d_Lw_law_453 ?_
        refine V2_topl (fun w53 ew53 => ?_)
        refine V2_bipush (v := 32) d_Lw_law_454 rfl ?_
        refine V2_lshl d_Lw_law_456 ?_
        refine V2_topl (fun w54 ew54 => ?_)
        refine V2_aload_n (i := 0) d_Lw_law_457 rfl rfl ?_
        refine V2_iload_n (i := 3) d_Lw_law_458 rfl rfl ?_
        refine V2_iconst (v := 2) d_Lw_law_459 rfl ?_
        refine V2_iadd d_Lw_law_460 ?_
        refine V2_topi (fun v55 ev55 => ?_)
        refine V2_script d_Lw_law_461 (sx_in (n := 6 * k + 2) (by rw [ev55]; exact nI_add (6 * k) 2) (by omega) hL) ?_
        refine V2_lit (v := xs (6 * k + 2)) (sx_at (n := 6 * k + 2) (by rw [ev55]; exact nI_add (6 * k) 2) (by omega)) ?_
        refine V2_i2l d_Lw_law_462 ?_
        refine V2_topl (fun w56 ew56 => ?_)
        refine V2_ldc2 (v := 4294967295) d_Lw_law_463 kc_Lw_48 ?_
        refine V2_land d_Lw_law_466 ?_
        refine V2_topl (fun w57 ew57 => ?_)
        refine V2_lor d_Lw_law_467 ?_
        refine V2_topl (fun w58 ew58 => ?_)
        refine V2_aload_n (i := 0) d_Lw_law_468 rfl rfl ?_
        refine V2_iload_n (i := 3) d_Lw_law_469 rfl rfl ?_
        refine V2_iconst (v := 3) d_Lw_law_470 rfl ?_
        refine V2_iadd d_Lw_law_471 ?_
        refine V2_topi (fun v59 ev59 => ?_)
        refine V2_script d_Lw_law_472 (sx_in (n := 6 * k + 3) (by rw [ev59]; exact nI_add (6 * k) 3) (by omega) hL) ?_
        refine V2_lit (v := xs (6 * k + 3)) (sx_at (n := 6 * k + 3) (by rw [ev59]; exact nI_add (6 * k) 3) (by omega)) ?_
        refine V2_callV [.long w58, .int (xs (6 * k + 3))] d_Lw_law_473 rfl rfl lk_Lw_54 mo_R_feed (by decide) rfl rfl rfl (Nat.le_of_ble_eq_true rfl) (Nat.le_of_ble_eq_true rfl) ?_
        have ew0 : w58 = (((xs (6 * k + 1)).toInt64 <<< ((32 : Int32).toInt64 &&& 63)) ||| ((xs (6 * k + 2)).toInt64 &&& 4294967295)) := by
          subst ev59 ew58 ew57 ew56 ev55 ew54 ew53 ev52 ev51 ew50 ew49 ew48 ev47 ew46 ew45 ev44 ev4 ev2 ev1
          rfl
        rw [ew0]
        refine hmx _ _ _ _ F1 hM (fun F2 hR2 => ?_)
        refine V2_icmp_eq (tgt := 1341) d_Lw_law_476 rfl (fun c60 => ?_) (fun c60 => (by first | exact absurd (rfl : kx.1 = kx.1) c60 | exact absurd c60 (rfl : kx.1 = kx.1)))
        obtain ⟨v61, ev61⟩ : ∃ y : Int32, y = nI (6 * k) + 6 := ⟨_, rfl⟩
        refine V2_iinc (i := 3) (v := v61) (l' := [some (.ref 1000000), some (.ref 0), some (.ref 65), some (.int v61)]) d_Lw_law_1341 rfl (by rw [ev61]; rfl) (xst_r (Nat.le_of_ble_eq_true rfl) rfl rfl) ?_
        refine V2_goto (tgt := 18) d_Lw_law_1344 rfl ?_
        exact V2.to (ih (k + 1) F2 hR2 (by omega) (by omega)) rfl (by rw [ev61, nI_6]) rfl rfl
      by_cases c5_9 : v4 = 9
      · refine V2_tableIn (tgt := 481) (off := 448) d_Lw_law_33 (by rw [c5_9]; decide) (by rw [c5_9]; decide) (by rw [c5_9]; decide) rfl ?_
        refine V2_aload_n (i := 1) d_Lw_law_481 rfl rfl ?_
        refine V2_aload_n (i := 0) d_Lw_law_482 rfl rfl ?_
        refine V2_iload_n (i := 3) d_Lw_law_483 rfl rfl ?_
        refine V2_iconst (v := 1) d_Lw_law_484 rfl ?_
        refine V2_iadd d_Lw_law_485 ?_
        refine V2_topi (fun v62 ev62 => ?_)
        refine V2_script d_Lw_law_486 (sx_in (n := 6 * k + 1) (by rw [ev62]; exact nI_add (6 * k) 1) (by omega) hL) ?_
        refine V2_lit (v := xs (6 * k + 1)) (sx_at (n := 6 * k + 1) (by rw [ev62]; exact nI_add (6 * k) 1) (by omega)) ?_
        refine V2_callV [.int (xs (6 * k + 1))] d_Lw_law_487 rfl rfl lk_Lw_55 mo_P_text (by decide) rfl rfl rfl (Nat.le_of_ble_eq_true rfl) (Nat.le_of_ble_eq_true rfl) ?_
        obtain ⟨kx, hcx, hmx⟩ := pr_text hR (xs (6 * k + 1))
        refine hcx _ _ _ _ (fun F1 hM => ?_)
        refine V2_aload_n (i := 2) d_Lw_law_490 rfl rfl ?_
        refine V2_aload_n (i := 0) d_Lw_law_491 rfl rfl ?_
        refine V2_iload_n (i := 3) d_Lw_law_492 rfl rfl ?_
        refine V2_iconst (v := 1) d_Lw_law_493 rfl ?_
        refine V2_iadd d_Lw_law_494 ?_
        refine V2_topi (fun v63 ev63 => ?_)
        refine V2_script d_Lw_law_495 (sx_in (n := 6 * k + 1) (by rw [ev63]; exact nI_add (6 * k) 1) (by omega) hL) ?_
        refine V2_lit (v := xs (6 * k + 1)) (sx_at (n := 6 * k + 1) (by rw [ev63]; exact nI_add (6 * k) 1) (by omega)) ?_
        refine V2_callV [.int (xs (6 * k + 1))] d_Lw_law_496 rfl rfl lk_Lw_58 mo_R_text (by decide) rfl rfl rfl (Nat.le_of_ble_eq_true rfl) (Nat.le_of_ble_eq_true rfl) ?_
        refine hmx _ _ _ _ F1 hM (fun F2 hR2 => ?_)
        refine V2_icmp_eq (tgt := 1341) d_Lw_law_499 rfl (fun c64 => ?_) (fun c64 => (by first | exact absurd (rfl : kx.1 = kx.1) c64 | exact absurd c64 (rfl : kx.1 = kx.1)))
        obtain ⟨v65, ev65⟩ : ∃ y : Int32, y = nI (6 * k) + 6 := ⟨_, rfl⟩
        refine V2_iinc (i := 3) (v := v65) (l' := [some (.ref 1000000), some (.ref 0), some (.ref 65), some (.int v65)]) d_Lw_law_1341 rfl (by rw [ev65]; rfl) (xst_r (Nat.le_of_ble_eq_true rfl) rfl rfl) ?_
        refine V2_goto (tgt := 18) d_Lw_law_1344 rfl ?_
        exact V2.to (ih (k + 1) F2 hR2 (by omega) (by omega)) rfl (by rw [ev65, nI_6]) rfl rfl
      by_cases c5_10 : v4 = 10
      · refine V2_tableIn (tgt := 504) (off := 471) d_Lw_law_33 (by rw [c5_10]; decide) (by rw [c5_10]; decide) (by rw [c5_10]; decide) rfl ?_
        refine V2_aload_n (i := 1) d_Lw_law_504 rfl rfl ?_
        refine V2_aload_n (i := 0) d_Lw_law_505 rfl rfl ?_
        refine V2_iload_n (i := 3) d_Lw_law_506 rfl rfl ?_
        refine V2_iconst (v := 1) d_Lw_law_507 rfl ?_
        refine V2_iadd d_Lw_law_508 ?_
        refine V2_topi (fun v66 ev66 => ?_)
        refine V2_script d_Lw_law_509 (sx_in (n := 6 * k + 1) (by rw [ev66]; exact nI_add (6 * k) 1) (by omega) hL) ?_
        refine V2_lit (v := xs (6 * k + 1)) (sx_at (n := 6 * k + 1) (by rw [ev66]; exact nI_add (6 * k) 1) (by omega)) ?_
        refine V2_callV [.int (xs (6 * k + 1))] d_Lw_law_510 rfl rfl lk_Lw_59 mo_P_untell (by decide) rfl rfl rfl (Nat.le_of_ble_eq_true rfl) (Nat.le_of_ble_eq_true rfl) ?_
        obtain ⟨kx, hcx, hmx⟩ := pr_untell hR (xs (6 * k + 1))
        refine hcx _ _ _ _ (fun F1 hM => ?_)
        refine V2_aload_n (i := 2) d_Lw_law_513 rfl rfl ?_
        refine V2_aload_n (i := 0) d_Lw_law_514 rfl rfl ?_
        refine V2_iload_n (i := 3) d_Lw_law_515 rfl rfl ?_
        refine V2_iconst (v := 1) d_Lw_law_516 rfl ?_
        refine V2_iadd d_Lw_law_517 ?_
        refine V2_topi (fun v67 ev67 => ?_)
        refine V2_script d_Lw_law_518 (sx_in (n := 6 * k + 1) (by rw [ev67]; exact nI_add (6 * k) 1) (by omega) hL) ?_
        refine V2_lit (v := xs (6 * k + 1)) (sx_at (n := 6 * k + 1) (by rw [ev67]; exact nI_add (6 * k) 1) (by omega)) ?_
        refine V2_callV [.int (xs (6 * k + 1))] d_Lw_law_519 rfl rfl lk_Lw_62 mo_R_untell (by decide) rfl rfl rfl (Nat.le_of_ble_eq_true rfl) (Nat.le_of_ble_eq_true rfl) ?_
        refine hmx _ _ _ _ F1 hM (fun F2 hR2 => ?_)
        refine V2_icmp_eq (tgt := 1341) d_Lw_law_522 rfl (fun c68 => ?_) (fun c68 => (by first | exact absurd (rfl : kx.1 = kx.1) c68 | exact absurd c68 (rfl : kx.1 = kx.1)))
        obtain ⟨v69, ev69⟩ : ∃ y : Int32, y = nI (6 * k) + 6 := ⟨_, rfl⟩
        refine V2_iinc (i := 3) (v := v69) (l' := [some (.ref 1000000), some (.ref 0), some (.ref 65), some (.int v69)]) d_Lw_law_1341 rfl (by rw [ev69]; rfl) (xst_r (Nat.le_of_ble_eq_true rfl) rfl rfl) ?_
        refine V2_goto (tgt := 18) d_Lw_law_1344 rfl ?_
        exact V2.to (ih (k + 1) F2 hR2 (by omega) (by omega)) rfl (by rw [ev69, nI_6]) rfl rfl
      by_cases c5_11 : v4 = 11
      · refine V2_tableIn (tgt := 527) (off := 494) d_Lw_law_33 (by rw [c5_11]; decide) (by rw [c5_11]; decide) (by rw [c5_11]; decide) rfl ?_
        refine V2_aload_n (i := 1) d_Lw_law_527 rfl rfl ?_
        refine V2_aload_n (i := 0) d_Lw_law_528 rfl rfl ?_
        refine V2_iload_n (i := 3) d_Lw_law_529 rfl rfl ?_
        refine V2_iconst (v := 1) d_Lw_law_530 rfl ?_
        refine V2_iadd d_Lw_law_531 ?_
        refine V2_topi (fun v70 ev70 => ?_)
        refine V2_script d_Lw_law_532 (sx_in (n := 6 * k + 1) (by rw [ev70]; exact nI_add (6 * k) 1) (by omega) hL) ?_
        refine V2_lit (v := xs (6 * k + 1)) (sx_at (n := 6 * k + 1) (by rw [ev70]; exact nI_add (6 * k) 1) (by omega)) ?_
        refine V2_aload_n (i := 0) d_Lw_law_533 rfl rfl ?_
        refine V2_iload_n (i := 3) d_Lw_law_534 rfl rfl ?_
        refine V2_iconst (v := 2) d_Lw_law_535 rfl ?_
        refine V2_iadd d_Lw_law_536 ?_
        refine V2_topi (fun v71 ev71 => ?_)
        refine V2_script d_Lw_law_537 (sx_in (n := 6 * k + 2) (by rw [ev71]; exact nI_add (6 * k) 2) (by omega) hL) ?_
        refine V2_lit (v := xs (6 * k + 2)) (sx_at (n := 6 * k + 2) (by rw [ev71]; exact nI_add (6 * k) 2) (by omega)) ?_
        refine V2_aload_n (i := 0) d_Lw_law_538 rfl rfl ?_
        refine V2_iload_n (i := 3) d_Lw_law_539 rfl rfl ?_
        refine V2_iconst (v := 3) d_Lw_law_540 rfl ?_
        refine V2_iadd d_Lw_law_541 ?_
        refine V2_topi (fun v72 ev72 => ?_)
        refine V2_script d_Lw_law_542 (sx_in (n := 6 * k + 3) (by rw [ev72]; exact nI_add (6 * k) 3) (by omega) hL) ?_
        refine V2_lit (v := xs (6 * k + 3)) (sx_at (n := 6 * k + 3) (by rw [ev72]; exact nI_add (6 * k) 3) (by omega)) ?_
        refine V2_aload_n (i := 0) d_Lw_law_543 rfl rfl ?_
        refine V2_iload_n (i := 3) d_Lw_law_544 rfl rfl ?_
        refine V2_iconst (v := 4) d_Lw_law_545 rfl ?_
        refine V2_iadd d_Lw_law_546 ?_
        refine V2_topi (fun v73 ev73 => ?_)
        refine V2_script d_Lw_law_547 (sx_in (n := 6 * k + 4) (by rw [ev73]; exact nI_add (6 * k) 4) (by omega) hL) ?_
        refine V2_lit (v := xs (6 * k + 4)) (sx_at (n := 6 * k + 4) (by rw [ev73]; exact nI_add (6 * k) 4) (by omega)) ?_
        refine V2_callV [.int (xs (6 * k + 1)), .int (xs (6 * k + 2)), .int (xs (6 * k + 3)), .int (xs (6 * k + 4))] d_Lw_law_548 rfl rfl lk_Lw_63 mo_P_law (by decide) rfl rfl rfl (Nat.le_of_ble_eq_true rfl) (Nat.le_of_ble_eq_true rfl) ?_
        obtain ⟨kx, hcx, hmx⟩ := pr_law hR (xs (6 * k + 1)) (xs (6 * k + 2)) (xs (6 * k + 3)) (xs (6 * k + 4))
        refine hcx _ _ _ _ (fun F1 hM => ?_)
        refine V2_aload_n (i := 2) d_Lw_law_551 rfl rfl ?_
        refine V2_aload_n (i := 0) d_Lw_law_552 rfl rfl ?_
        refine V2_iload_n (i := 3) d_Lw_law_553 rfl rfl ?_
        refine V2_iconst (v := 1) d_Lw_law_554 rfl ?_
        refine V2_iadd d_Lw_law_555 ?_
        refine V2_topi (fun v74 ev74 => ?_)
        refine V2_script d_Lw_law_556 (sx_in (n := 6 * k + 1) (by rw [ev74]; exact nI_add (6 * k) 1) (by omega) hL) ?_
        refine V2_lit (v := xs (6 * k + 1)) (sx_at (n := 6 * k + 1) (by rw [ev74]; exact nI_add (6 * k) 1) (by omega)) ?_
        refine V2_aload_n (i := 0) d_Lw_law_557 rfl rfl ?_
        refine V2_iload_n (i := 3) d_Lw_law_558 rfl rfl ?_
        refine V2_iconst (v := 2) d_Lw_law_559 rfl ?_
        refine V2_iadd d_Lw_law_560 ?_
        refine V2_topi (fun v75 ev75 => ?_)
        refine V2_script d_Lw_law_561 (sx_in (n := 6 * k + 2) (by rw [ev75]; exact nI_add (6 * k) 2) (by omega) hL) ?_
        refine V2_lit (v := xs (6 * k + 2)) (sx_at (n := 6 * k + 2) (by rw [ev75]; exact nI_add (6 * k) 2) (by omega)) ?_
        refine V2_aload_n (i := 0) d_Lw_law_562 rfl rfl ?_
        refine V2_iload_n (i := 3) d_Lw_law_563 rfl rfl ?_
        refine V2_iconst (v := 3) d_Lw_law_564 rfl ?_
        refine V2_iadd d_Lw_law_565 ?_
        refine V2_topi (fun v76 ev76 => ?_)
        refine V2_script d_Lw_law_566 (sx_in (n := 6 * k + 3) (by rw [ev76]; exact nI_add (6 * k) 3) (by omega) hL) ?_
        refine V2_lit (v := xs (6 * k + 3)) (sx_at (n := 6 * k + 3) (by rw [ev76]; exact nI_add (6 * k) 3) (by omega)) ?_
        refine V2_aload_n (i := 0) d_Lw_law_567 rfl rfl ?_
        refine V2_iload_n (i := 3) d_Lw_law_568 rfl rfl ?_
        refine V2_iconst (v := 4) d_Lw_law_569 rfl ?_
        refine V2_iadd d_Lw_law_570 ?_
        refine V2_topi (fun v77 ev77 => ?_)
        refine V2_script d_Lw_law_571 (sx_in (n := 6 * k + 4) (by rw [ev77]; exact nI_add (6 * k) 4) (by omega) hL) ?_
        refine V2_lit (v := xs (6 * k + 4)) (sx_at (n := 6 * k + 4) (by rw [ev77]; exact nI_add (6 * k) 4) (by omega)) ?_
        refine V2_callV [.int (xs (6 * k + 1)), .int (xs (6 * k + 2)), .int (xs (6 * k + 3)), .int (xs (6 * k + 4))] d_Lw_law_572 rfl rfl lk_Lw_67 mo_R_law (by decide) rfl rfl rfl (Nat.le_of_ble_eq_true rfl) (Nat.le_of_ble_eq_true rfl) ?_
        refine hmx _ _ _ _ F1 hM (fun F2 hR2 => ?_)
        refine V2_icmp_eq (tgt := 1341) d_Lw_law_575 rfl (fun c78 => ?_) (fun c78 => (by first | exact absurd (rfl : kx.1 = kx.1) c78 | exact absurd c78 (rfl : kx.1 = kx.1)))
        obtain ⟨v79, ev79⟩ : ∃ y : Int32, y = nI (6 * k) + 6 := ⟨_, rfl⟩
        refine V2_iinc (i := 3) (v := v79) (l' := [some (.ref 1000000), some (.ref 0), some (.ref 65), some (.int v79)]) d_Lw_law_1341 rfl (by rw [ev79]; rfl) (xst_r (Nat.le_of_ble_eq_true rfl) rfl rfl) ?_
        refine V2_goto (tgt := 18) d_Lw_law_1344 rfl ?_
        exact V2.to (ih (k + 1) F2 hR2 (by omega) (by omega)) rfl (by rw [ev79, nI_6]) rfl rfl
      by_cases c5_12 : v4 = 12
      · refine V2_tableIn (tgt := 580) (off := 547) d_Lw_law_33 (by rw [c5_12]; decide) (by rw [c5_12]; decide) (by rw [c5_12]; decide) rfl ?_
        refine V2_aload_n (i := 1) d_Lw_law_580 rfl rfl ?_
        refine V2_aload_n (i := 0) d_Lw_law_581 rfl rfl ?_
        refine V2_iload_n (i := 3) d_Lw_law_582 rfl rfl ?_
        refine V2_iconst (v := 1) d_Lw_law_583 rfl ?_
        refine V2_iadd d_Lw_law_584 ?_
        refine V2_topi (fun v80 ev80 => ?_)
        refine V2_script d_Lw_law_585 (sx_in (n := 6 * k + 1) (by rw [ev80]; exact nI_add (6 * k) 1) (by omega) hL) ?_
        refine V2_lit (v := xs (6 * k + 1)) (sx_at (n := 6 * k + 1) (by rw [ev80]; exact nI_add (6 * k) 1) (by omega)) ?_
        refine V2_callV [.int (xs (6 * k + 1))] d_Lw_law_586 rfl rfl lk_Lw_68 mo_P_swing (by decide) rfl rfl rfl (Nat.le_of_ble_eq_true rfl) (Nat.le_of_ble_eq_true rfl) ?_
        obtain ⟨kx, hcx, hmx⟩ := pr_swing hR (xs (6 * k + 1))
        refine hcx _ _ _ _ (fun F1 hM => ?_)
        refine V2_aload_n (i := 2) d_Lw_law_589 rfl rfl ?_
        refine V2_aload_n (i := 0) d_Lw_law_590 rfl rfl ?_
        refine V2_iload_n (i := 3) d_Lw_law_591 rfl rfl ?_
        refine V2_iconst (v := 1) d_Lw_law_592 rfl ?_
        refine V2_iadd d_Lw_law_593 ?_
        refine V2_topi (fun v81 ev81 => ?_)
        refine V2_script d_Lw_law_594 (sx_in (n := 6 * k + 1) (by rw [ev81]; exact nI_add (6 * k) 1) (by omega) hL) ?_
        refine V2_lit (v := xs (6 * k + 1)) (sx_at (n := 6 * k + 1) (by rw [ev81]; exact nI_add (6 * k) 1) (by omega)) ?_
        refine V2_callV [.int (xs (6 * k + 1))] d_Lw_law_595 rfl rfl lk_Lw_71 mo_R_swing (by decide) rfl rfl rfl (Nat.le_of_ble_eq_true rfl) (Nat.le_of_ble_eq_true rfl) ?_
        refine hmx _ _ _ _ F1 hM (fun F2 hR2 => ?_)
        refine V2_icmp_eq (tgt := 1341) d_Lw_law_598 rfl (fun c82 => ?_) (fun c82 => (by first | exact absurd (rfl : kx.1 = kx.1) c82 | exact absurd c82 (rfl : kx.1 = kx.1)))
        obtain ⟨v83, ev83⟩ : ∃ y : Int32, y = nI (6 * k) + 6 := ⟨_, rfl⟩
        refine V2_iinc (i := 3) (v := v83) (l' := [some (.ref 1000000), some (.ref 0), some (.ref 65), some (.int v83)]) d_Lw_law_1341 rfl (by rw [ev83]; rfl) (xst_r (Nat.le_of_ble_eq_true rfl) rfl rfl) ?_
        refine V2_goto (tgt := 18) d_Lw_law_1344 rfl ?_
        exact V2.to (ih (k + 1) F2 hR2 (by omega) (by omega)) rfl (by rw [ev83, nI_6]) rfl rfl
      by_cases c5_13 : v4 = 13
      · refine V2_tableIn (tgt := 603) (off := 570) d_Lw_law_33 (by rw [c5_13]; decide) (by rw [c5_13]; decide) (by rw [c5_13]; decide) rfl ?_
        refine V2_aload_n (i := 1) d_Lw_law_603 rfl rfl ?_
        refine V2_aload_n (i := 0) d_Lw_law_604 rfl rfl ?_
        refine V2_iload_n (i := 3) d_Lw_law_605 rfl rfl ?_
        refine V2_iconst (v := 1) d_Lw_law_606 rfl ?_
        refine V2_iadd d_Lw_law_607 ?_
        refine V2_topi (fun v84 ev84 => ?_)
        refine V2_script d_Lw_law_608 (sx_in (n := 6 * k + 1) (by rw [ev84]; exact nI_add (6 * k) 1) (by omega) hL) ?_
        refine V2_lit (v := xs (6 * k + 1)) (sx_at (n := 6 * k + 1) (by rw [ev84]; exact nI_add (6 * k) 1) (by omega)) ?_
        refine V2_callV [.int (xs (6 * k + 1))] d_Lw_law_609 rfl rfl lk_Lw_72 mo_P_swings (by decide) rfl rfl rfl (Nat.le_of_ble_eq_true rfl) (Nat.le_of_ble_eq_true rfl) ?_
        obtain ⟨kx, hcx, hmx⟩ := pr_swings hR (xs (6 * k + 1))
        refine hcx _ _ _ _ (fun F1 hM => ?_)
        refine V2_aload_n (i := 2) d_Lw_law_612 rfl rfl ?_
        refine V2_aload_n (i := 0) d_Lw_law_613 rfl rfl ?_
        refine V2_iload_n (i := 3) d_Lw_law_614 rfl rfl ?_
        refine V2_iconst (v := 1) d_Lw_law_615 rfl ?_
        refine V2_iadd d_Lw_law_616 ?_
        refine V2_topi (fun v85 ev85 => ?_)
        refine V2_script d_Lw_law_617 (sx_in (n := 6 * k + 1) (by rw [ev85]; exact nI_add (6 * k) 1) (by omega) hL) ?_
        refine V2_lit (v := xs (6 * k + 1)) (sx_at (n := 6 * k + 1) (by rw [ev85]; exact nI_add (6 * k) 1) (by omega)) ?_
        refine V2_callV [.int (xs (6 * k + 1))] d_Lw_law_618 rfl rfl lk_Lw_75 mo_R_swings (by decide) rfl rfl rfl (Nat.le_of_ble_eq_true rfl) (Nat.le_of_ble_eq_true rfl) ?_
        refine hmx _ _ _ _ F1 hM (fun F2 hR2 => ?_)
        refine V2_icmp_eq (tgt := 1341) d_Lw_law_621 rfl (fun c86 => ?_) (fun c86 => (by first | exact absurd (rfl : kx.1 = kx.1) c86 | exact absurd c86 (rfl : kx.1 = kx.1)))
        obtain ⟨v87, ev87⟩ : ∃ y : Int32, y = nI (6 * k) + 6 := ⟨_, rfl⟩
        refine V2_iinc (i := 3) (v := v87) (l' := [some (.ref 1000000), some (.ref 0), some (.ref 65), some (.int v87)]) d_Lw_law_1341 rfl (by rw [ev87]; rfl) (xst_r (Nat.le_of_ble_eq_true rfl) rfl rfl) ?_
        refine V2_goto (tgt := 18) d_Lw_law_1344 rfl ?_
        exact V2.to (ih (k + 1) F2 hR2 (by omega) (by omega)) rfl (by rw [ev87, nI_6]) rfl rfl
      by_cases c5_14 : v4 = 14
      · refine V2_tableIn (tgt := 626) (off := 593) d_Lw_law_33 (by rw [c5_14]; decide) (by rw [c5_14]; decide) (by rw [c5_14]; decide) rfl ?_
        refine V2_aload_n (i := 1) d_Lw_law_626 rfl rfl ?_
        refine V2_aload_n (i := 0) d_Lw_law_627 rfl rfl ?_
        refine V2_iload_n (i := 3) d_Lw_law_628 rfl rfl ?_
        refine V2_iconst (v := 1) d_Lw_law_629 rfl ?_
        refine V2_iadd d_Lw_law_630 ?_
        refine V2_topi (fun v88 ev88 => ?_)
        refine V2_script d_Lw_law_631 (sx_in (n := 6 * k + 1) (by rw [ev88]; exact nI_add (6 * k) 1) (by omega) hL) ?_
        refine V2_lit (v := xs (6 * k + 1)) (sx_at (n := 6 * k + 1) (by rw [ev88]; exact nI_add (6 * k) 1) (by omega)) ?_
        refine V2_callV [.int (xs (6 * k + 1))] d_Lw_law_632 rfl rfl lk_Lw_76 mo_P_shovel (by decide) rfl rfl rfl (Nat.le_of_ble_eq_true rfl) (Nat.le_of_ble_eq_true rfl) ?_
        obtain ⟨kx, hcx, hmx⟩ := pr_shovel hR (xs (6 * k + 1))
        refine hcx _ _ _ _ (fun F1 hM => ?_)
        refine V2_aload_n (i := 2) d_Lw_law_635 rfl rfl ?_
        refine V2_aload_n (i := 0) d_Lw_law_636 rfl rfl ?_
        refine V2_iload_n (i := 3) d_Lw_law_637 rfl rfl ?_
        refine V2_iconst (v := 1) d_Lw_law_638 rfl ?_
        refine V2_iadd d_Lw_law_639 ?_
        refine V2_topi (fun v89 ev89 => ?_)
        refine V2_script d_Lw_law_640 (sx_in (n := 6 * k + 1) (by rw [ev89]; exact nI_add (6 * k) 1) (by omega) hL) ?_
        refine V2_lit (v := xs (6 * k + 1)) (sx_at (n := 6 * k + 1) (by rw [ev89]; exact nI_add (6 * k) 1) (by omega)) ?_
        refine V2_callV [.int (xs (6 * k + 1))] d_Lw_law_641 rfl rfl lk_Lw_79 mo_R_shovel (by decide) rfl rfl rfl (Nat.le_of_ble_eq_true rfl) (Nat.le_of_ble_eq_true rfl) ?_
        refine hmx _ _ _ _ F1 hM (fun F2 hR2 => ?_)
        refine V2_icmp_eq (tgt := 1341) d_Lw_law_644 rfl (fun c90 => ?_) (fun c90 => (by first | exact absurd (rfl : kx.1 = kx.1) c90 | exact absurd c90 (rfl : kx.1 = kx.1)))
        obtain ⟨v91, ev91⟩ : ∃ y : Int32, y = nI (6 * k) + 6 := ⟨_, rfl⟩
        refine V2_iinc (i := 3) (v := v91) (l' := [some (.ref 1000000), some (.ref 0), some (.ref 65), some (.int v91)]) d_Lw_law_1341 rfl (by rw [ev91]; rfl) (xst_r (Nat.le_of_ble_eq_true rfl) rfl rfl) ?_
        refine V2_goto (tgt := 18) d_Lw_law_1344 rfl ?_
        exact V2.to (ih (k + 1) F2 hR2 (by omega) (by omega)) rfl (by rw [ev91, nI_6]) rfl rfl
      by_cases c5_15 : v4 = 15
      · refine V2_tableIn (tgt := 649) (off := 616) d_Lw_law_33 (by rw [c5_15]; decide) (by rw [c5_15]; decide) (by rw [c5_15]; decide) rfl ?_
        refine V2_aload_n (i := 1) d_Lw_law_649 rfl rfl ?_
        refine V2_aload_n (i := 0) d_Lw_law_650 rfl rfl ?_
        refine V2_iload_n (i := 3) d_Lw_law_651 rfl rfl ?_
        refine V2_iconst (v := 1) d_Lw_law_652 rfl ?_
        refine V2_iadd d_Lw_law_653 ?_
        refine V2_topi (fun v92 ev92 => ?_)
        refine V2_script d_Lw_law_654 (sx_in (n := 6 * k + 1) (by rw [ev92]; exact nI_add (6 * k) 1) (by omega) hL) ?_
        refine V2_lit (v := xs (6 * k + 1)) (sx_at (n := 6 * k + 1) (by rw [ev92]; exact nI_add (6 * k) 1) (by omega)) ?_
        refine V2_callV [.int (xs (6 * k + 1))] d_Lw_law_655 rfl rfl lk_Lw_80 mo_P_seed (by decide) rfl rfl rfl (Nat.le_of_ble_eq_true rfl) (Nat.le_of_ble_eq_true rfl) ?_
        obtain ⟨kx, hcx, hmx⟩ := pr_seed hR (xs (6 * k + 1))
        refine hcx _ _ _ _ (fun F1 hM => ?_)
        refine V2_aload_n (i := 2) d_Lw_law_658 rfl rfl ?_
        refine V2_aload_n (i := 0) d_Lw_law_659 rfl rfl ?_
        refine V2_iload_n (i := 3) d_Lw_law_660 rfl rfl ?_
        refine V2_iconst (v := 1) d_Lw_law_661 rfl ?_
        refine V2_iadd d_Lw_law_662 ?_
        refine V2_topi (fun v93 ev93 => ?_)
        refine V2_script d_Lw_law_663 (sx_in (n := 6 * k + 1) (by rw [ev93]; exact nI_add (6 * k) 1) (by omega) hL) ?_
        refine V2_lit (v := xs (6 * k + 1)) (sx_at (n := 6 * k + 1) (by rw [ev93]; exact nI_add (6 * k) 1) (by omega)) ?_
        refine V2_callV [.int (xs (6 * k + 1))] d_Lw_law_664 rfl rfl lk_Lw_83 mo_R_seed (by decide) rfl rfl rfl (Nat.le_of_ble_eq_true rfl) (Nat.le_of_ble_eq_true rfl) ?_
        refine hmx _ _ _ _ F1 hM (fun F2 hR2 => ?_)
        refine V2_icmp_eq (tgt := 1341) d_Lw_law_667 rfl (fun c94 => ?_) (fun c94 => (by first | exact absurd (rfl : kx.1 = kx.1) c94 | exact absurd c94 (rfl : kx.1 = kx.1)))
        obtain ⟨v95, ev95⟩ : ∃ y : Int32, y = nI (6 * k) + 6 := ⟨_, rfl⟩
        refine V2_iinc (i := 3) (v := v95) (l' := [some (.ref 1000000), some (.ref 0), some (.ref 65), some (.int v95)]) d_Lw_law_1341 rfl (by rw [ev95]; rfl) (xst_r (Nat.le_of_ble_eq_true rfl) rfl rfl) ?_
        refine V2_goto (tgt := 18) d_Lw_law_1344 rfl ?_
        exact V2.to (ih (k + 1) F2 hR2 (by omega) (by omega)) rfl (by rw [ev95, nI_6]) rfl rfl
      by_cases c5_16 : v4 = 16
      · refine V2_tableIn (tgt := 672) (off := 639) d_Lw_law_33 (by rw [c5_16]; decide) (by rw [c5_16]; decide) (by rw [c5_16]; decide) rfl ?_
        refine V2_aload_n (i := 1) d_Lw_law_672 rfl rfl ?_
        refine V2_aload_n (i := 0) d_Lw_law_673 rfl rfl ?_
        refine V2_iload_n (i := 3) d_Lw_law_674 rfl rfl ?_
        refine V2_iconst (v := 1) d_Lw_law_675 rfl ?_
        refine V2_iadd d_Lw_law_676 ?_
        refine V2_topi (fun v96 ev96 => ?_)
        refine V2_script d_Lw_law_677 (sx_in (n := 6 * k + 1) (by rw [ev96]; exact nI_add (6 * k) 1) (by omega) hL) ?_
        refine V2_lit (v := xs (6 * k + 1)) (sx_at (n := 6 * k + 1) (by rw [ev96]; exact nI_add (6 * k) 1) (by omega)) ?_
        refine V2_callV [.int (xs (6 * k + 1))] d_Lw_law_678 rfl rfl lk_Lw_84 mo_P_now (by decide) rfl rfl rfl (Nat.le_of_ble_eq_true rfl) (Nat.le_of_ble_eq_true rfl) ?_
        obtain ⟨kx, hcx, hmx⟩ := pr_now hR (xs (6 * k + 1))
        refine hcx _ _ _ _ (fun F1 hM => ?_)
        refine V2_aload_n (i := 2) d_Lw_law_681 rfl rfl ?_
        refine V2_aload_n (i := 0) d_Lw_law_682 rfl rfl ?_
        refine V2_iload_n (i := 3) d_Lw_law_683 rfl rfl ?_
        refine V2_iconst (v := 1) d_Lw_law_684 rfl ?_
        refine V2_iadd d_Lw_law_685 ?_
        refine V2_topi (fun v97 ev97 => ?_)
        refine V2_script d_Lw_law_686 (sx_in (n := 6 * k + 1) (by rw [ev97]; exact nI_add (6 * k) 1) (by omega) hL) ?_
        refine V2_lit (v := xs (6 * k + 1)) (sx_at (n := 6 * k + 1) (by rw [ev97]; exact nI_add (6 * k) 1) (by omega)) ?_
        refine V2_callV [.int (xs (6 * k + 1))] d_Lw_law_687 rfl rfl lk_Lw_87 mo_R_now (by decide) rfl rfl rfl (Nat.le_of_ble_eq_true rfl) (Nat.le_of_ble_eq_true rfl) ?_
        refine hmx _ _ _ _ F1 hM (fun F2 hR2 => ?_)
        refine V2_icmp_eq (tgt := 1341) d_Lw_law_690 rfl (fun c98 => ?_) (fun c98 => (by first | exact absurd (rfl : kx.1 = kx.1) c98 | exact absurd c98 (rfl : kx.1 = kx.1)))
        obtain ⟨v99, ev99⟩ : ∃ y : Int32, y = nI (6 * k) + 6 := ⟨_, rfl⟩
        refine V2_iinc (i := 3) (v := v99) (l' := [some (.ref 1000000), some (.ref 0), some (.ref 65), some (.int v99)]) d_Lw_law_1341 rfl (by rw [ev99]; rfl) (xst_r (Nat.le_of_ble_eq_true rfl) rfl rfl) ?_
        refine V2_goto (tgt := 18) d_Lw_law_1344 rfl ?_
        exact V2.to (ih (k + 1) F2 hR2 (by omega) (by omega)) rfl (by rw [ev99, nI_6]) rfl rfl
      by_cases c5_17 : v4 = 17
      · refine V2_tableIn (tgt := 695) (off := 662) d_Lw_law_33 (by rw [c5_17]; decide) (by rw [c5_17]; decide) (by rw [c5_17]; decide) rfl ?_
        refine V2_aload_n (i := 1) d_Lw_law_695 rfl rfl ?_
        refine V2_aload_n (i := 0) d_Lw_law_696 rfl rfl ?_
        refine V2_iload_n (i := 3) d_Lw_law_697 rfl rfl ?_
        refine V2_iconst (v := 1) d_Lw_law_698 rfl ?_
        refine V2_iadd d_Lw_law_699 ?_
        refine V2_topi (fun v100 ev100 => ?_)
        refine V2_script d_Lw_law_700 (sx_in (n := 6 * k + 1) (by rw [ev100]; exact nI_add (6 * k) 1) (by omega) hL) ?_
        refine V2_lit (v := xs (6 * k + 1)) (sx_at (n := 6 * k + 1) (by rw [ev100]; exact nI_add (6 * k) 1) (by omega)) ?_
        refine V2_aload_n (i := 0) d_Lw_law_701 rfl rfl ?_
        refine V2_iload_n (i := 3) d_Lw_law_702 rfl rfl ?_
        refine V2_iconst (v := 2) d_Lw_law_703 rfl ?_
        refine V2_iadd d_Lw_law_704 ?_
        refine V2_topi (fun v101 ev101 => ?_)
        refine V2_script d_Lw_law_705 (sx_in (n := 6 * k + 2) (by rw [ev101]; exact nI_add (6 * k) 2) (by omega) hL) ?_
        refine V2_lit (v := xs (6 * k + 2)) (sx_at (n := 6 * k + 2) (by rw [ev101]; exact nI_add (6 * k) 2) (by omega)) ?_
        refine V2_callV [.int (xs (6 * k + 1)), .int (xs (6 * k + 2))] d_Lw_law_706 rfl rfl lk_Lw_88 mo_P_would (by decide) rfl rfl rfl (Nat.le_of_ble_eq_true rfl) (Nat.le_of_ble_eq_true rfl) ?_
        obtain ⟨kx, hcx, hmx⟩ := pr_would hR (xs (6 * k + 1)) (xs (6 * k + 2))
        refine hcx _ _ _ _ (fun F1 hM => ?_)
        refine V2_aload_n (i := 2) d_Lw_law_709 rfl rfl ?_
        refine V2_aload_n (i := 0) d_Lw_law_710 rfl rfl ?_
        refine V2_iload_n (i := 3) d_Lw_law_711 rfl rfl ?_
        refine V2_iconst (v := 1) d_Lw_law_712 rfl ?_
        refine V2_iadd d_Lw_law_713 ?_
        refine V2_topi (fun v102 ev102 => ?_)
        refine V2_script d_Lw_law_714 (sx_in (n := 6 * k + 1) (by rw [ev102]; exact nI_add (6 * k) 1) (by omega) hL) ?_
        refine V2_lit (v := xs (6 * k + 1)) (sx_at (n := 6 * k + 1) (by rw [ev102]; exact nI_add (6 * k) 1) (by omega)) ?_
        refine V2_aload_n (i := 0) d_Lw_law_715 rfl rfl ?_
        refine V2_iload_n (i := 3) d_Lw_law_716 rfl rfl ?_
        refine V2_iconst (v := 2) d_Lw_law_717 rfl ?_
        refine V2_iadd d_Lw_law_718 ?_
        refine V2_topi (fun v103 ev103 => ?_)
        refine V2_script d_Lw_law_719 (sx_in (n := 6 * k + 2) (by rw [ev103]; exact nI_add (6 * k) 2) (by omega) hL) ?_
        refine V2_lit (v := xs (6 * k + 2)) (sx_at (n := 6 * k + 2) (by rw [ev103]; exact nI_add (6 * k) 2) (by omega)) ?_
        refine V2_callV [.int (xs (6 * k + 1)), .int (xs (6 * k + 2))] d_Lw_law_720 rfl rfl lk_Lw_91 mo_R_would (by decide) rfl rfl rfl (Nat.le_of_ble_eq_true rfl) (Nat.le_of_ble_eq_true rfl) ?_
        refine hmx _ _ _ _ F1 hM (fun F2 hR2 => ?_)
        refine V2_icmp_eq (tgt := 1341) d_Lw_law_723 rfl (fun c104 => ?_) (fun c104 => (by first | exact absurd (rfl : kx.1 = kx.1) c104 | exact absurd c104 (rfl : kx.1 = kx.1)))
        obtain ⟨v105, ev105⟩ : ∃ y : Int32, y = nI (6 * k) + 6 := ⟨_, rfl⟩
        refine V2_iinc (i := 3) (v := v105) (l' := [some (.ref 1000000), some (.ref 0), some (.ref 65), some (.int v105)]) d_Lw_law_1341 rfl (by rw [ev105]; rfl) (xst_r (Nat.le_of_ble_eq_true rfl) rfl rfl) ?_
        refine V2_goto (tgt := 18) d_Lw_law_1344 rfl ?_
        exact V2.to (ih (k + 1) F2 hR2 (by omega) (by omega)) rfl (by rw [ev105, nI_6]) rfl rfl
      by_cases c5_18 : v4 = 18
      · refine V2_tableIn (tgt := 728) (off := 695) d_Lw_law_33 (by rw [c5_18]; decide) (by rw [c5_18]; decide) (by rw [c5_18]; decide) rfl ?_
        refine V2_aload_n (i := 1) d_Lw_law_728 rfl rfl ?_
        refine V2_aload_n (i := 0) d_Lw_law_729 rfl rfl ?_
        refine V2_iload_n (i := 3) d_Lw_law_730 rfl rfl ?_
        refine V2_iconst (v := 1) d_Lw_law_731 rfl ?_
        refine V2_iadd d_Lw_law_732 ?_
        refine V2_topi (fun v106 ev106 => ?_)
        refine V2_script d_Lw_law_733 (sx_in (n := 6 * k + 1) (by rw [ev106]; exact nI_add (6 * k) 1) (by omega) hL) ?_
        refine V2_lit (v := xs (6 * k + 1)) (sx_at (n := 6 * k + 1) (by rw [ev106]; exact nI_add (6 * k) 1) (by omega)) ?_
        refine V2_aload_n (i := 0) d_Lw_law_734 rfl rfl ?_
        refine V2_iload_n (i := 3) d_Lw_law_735 rfl rfl ?_
        refine V2_iconst (v := 2) d_Lw_law_736 rfl ?_
        refine V2_iadd d_Lw_law_737 ?_
        refine V2_topi (fun v107 ev107 => ?_)
        refine V2_script d_Lw_law_738 (sx_in (n := 6 * k + 2) (by rw [ev107]; exact nI_add (6 * k) 2) (by omega) hL) ?_
        refine V2_lit (v := xs (6 * k + 2)) (sx_at (n := 6 * k + 2) (by rw [ev107]; exact nI_add (6 * k) 2) (by omega)) ?_
        refine V2_callV [.int (xs (6 * k + 1)), .int (xs (6 * k + 2))] d_Lw_law_739 rfl rfl lk_Lw_92 mo_P_plan (by decide) rfl rfl rfl (Nat.le_of_ble_eq_true rfl) (Nat.le_of_ble_eq_true rfl) ?_
        obtain ⟨kx, hcx, hmx⟩ := pr_plan hR (xs (6 * k + 1)) (xs (6 * k + 2))
        refine hcx _ _ _ _ (fun F1 hM => ?_)
        refine V2_aload_n (i := 2) d_Lw_law_742 rfl rfl ?_
        refine V2_aload_n (i := 0) d_Lw_law_743 rfl rfl ?_
        refine V2_iload_n (i := 3) d_Lw_law_744 rfl rfl ?_
        refine V2_iconst (v := 1) d_Lw_law_745 rfl ?_
        refine V2_iadd d_Lw_law_746 ?_
        refine V2_topi (fun v108 ev108 => ?_)
        refine V2_script d_Lw_law_747 (sx_in (n := 6 * k + 1) (by rw [ev108]; exact nI_add (6 * k) 1) (by omega) hL) ?_
        refine V2_lit (v := xs (6 * k + 1)) (sx_at (n := 6 * k + 1) (by rw [ev108]; exact nI_add (6 * k) 1) (by omega)) ?_
        refine V2_aload_n (i := 0) d_Lw_law_748 rfl rfl ?_
        refine V2_iload_n (i := 3) d_Lw_law_749 rfl rfl ?_
        refine V2_iconst (v := 2) d_Lw_law_750 rfl ?_
        refine V2_iadd d_Lw_law_751 ?_
        refine V2_topi (fun v109 ev109 => ?_)
        refine V2_script d_Lw_law_752 (sx_in (n := 6 * k + 2) (by rw [ev109]; exact nI_add (6 * k) 2) (by omega) hL) ?_
        refine V2_lit (v := xs (6 * k + 2)) (sx_at (n := 6 * k + 2) (by rw [ev109]; exact nI_add (6 * k) 2) (by omega)) ?_
        refine V2_callV [.int (xs (6 * k + 1)), .int (xs (6 * k + 2))] d_Lw_law_753 rfl rfl lk_Lw_95 mo_R_plan (by decide) rfl rfl rfl (Nat.le_of_ble_eq_true rfl) (Nat.le_of_ble_eq_true rfl) ?_
        refine hmx _ _ _ _ F1 hM (fun F2 hR2 => ?_)
        refine V2_icmp_eq (tgt := 1341) d_Lw_law_756 rfl (fun c110 => ?_) (fun c110 => (by first | exact absurd (rfl : kx.1 = kx.1) c110 | exact absurd c110 (rfl : kx.1 = kx.1)))
        obtain ⟨v111, ev111⟩ : ∃ y : Int32, y = nI (6 * k) + 6 := ⟨_, rfl⟩
        refine V2_iinc (i := 3) (v := v111) (l' := [some (.ref 1000000), some (.ref 0), some (.ref 65), some (.int v111)]) d_Lw_law_1341 rfl (by rw [ev111]; rfl) (xst_r (Nat.le_of_ble_eq_true rfl) rfl rfl) ?_
        refine V2_goto (tgt := 18) d_Lw_law_1344 rfl ?_
        exact V2.to (ih (k + 1) F2 hR2 (by omega) (by omega)) rfl (by rw [ev111, nI_6]) rfl rfl
      by_cases c5_19 : v4 = 19
      · refine V2_tableIn (tgt := 761) (off := 728) d_Lw_law_33 (by rw [c5_19]; decide) (by rw [c5_19]; decide) (by rw [c5_19]; decide) rfl ?_
        refine V2_aload_n (i := 1) d_Lw_law_761 rfl rfl ?_
        refine V2_aload_n (i := 0) d_Lw_law_762 rfl rfl ?_
        refine V2_iload_n (i := 3) d_Lw_law_763 rfl rfl ?_
        refine V2_iconst (v := 1) d_Lw_law_764 rfl ?_
        refine V2_iadd d_Lw_law_765 ?_
        refine V2_topi (fun v112 ev112 => ?_)
        refine V2_script d_Lw_law_766 (sx_in (n := 6 * k + 1) (by rw [ev112]; exact nI_add (6 * k) 1) (by omega) hL) ?_
        refine V2_lit (v := xs (6 * k + 1)) (sx_at (n := 6 * k + 1) (by rw [ev112]; exact nI_add (6 * k) 1) (by omega)) ?_
        refine V2_callV [.int (xs (6 * k + 1))] d_Lw_law_767 rfl rfl lk_Lw_96 mo_P_steady (by decide) rfl rfl rfl (Nat.le_of_ble_eq_true rfl) (Nat.le_of_ble_eq_true rfl) ?_
        obtain ⟨kx, hcx, hmx⟩ := pr_steady hR (xs (6 * k + 1))
        refine hcx _ _ _ _ (fun F1 hM => ?_)
        refine V2_aload_n (i := 2) d_Lw_law_770 rfl rfl ?_
        refine V2_aload_n (i := 0) d_Lw_law_771 rfl rfl ?_
        refine V2_iload_n (i := 3) d_Lw_law_772 rfl rfl ?_
        refine V2_iconst (v := 1) d_Lw_law_773 rfl ?_
        refine V2_iadd d_Lw_law_774 ?_
        refine V2_topi (fun v113 ev113 => ?_)
        refine V2_script d_Lw_law_775 (sx_in (n := 6 * k + 1) (by rw [ev113]; exact nI_add (6 * k) 1) (by omega) hL) ?_
        refine V2_lit (v := xs (6 * k + 1)) (sx_at (n := 6 * k + 1) (by rw [ev113]; exact nI_add (6 * k) 1) (by omega)) ?_
        refine V2_callV [.int (xs (6 * k + 1))] d_Lw_law_776 rfl rfl lk_Lw_99 mo_R_steady (by decide) rfl rfl rfl (Nat.le_of_ble_eq_true rfl) (Nat.le_of_ble_eq_true rfl) ?_
        refine hmx _ _ _ _ F1 hM (fun F2 hR2 => ?_)
        refine V2_icmp_eq (tgt := 1341) d_Lw_law_779 rfl (fun c114 => ?_) (fun c114 => (by first | exact absurd (rfl : kx.1 = kx.1) c114 | exact absurd c114 (rfl : kx.1 = kx.1)))
        obtain ⟨v115, ev115⟩ : ∃ y : Int32, y = nI (6 * k) + 6 := ⟨_, rfl⟩
        refine V2_iinc (i := 3) (v := v115) (l' := [some (.ref 1000000), some (.ref 0), some (.ref 65), some (.int v115)]) d_Lw_law_1341 rfl (by rw [ev115]; rfl) (xst_r (Nat.le_of_ble_eq_true rfl) rfl rfl) ?_
        refine V2_goto (tgt := 18) d_Lw_law_1344 rfl ?_
        exact V2.to (ih (k + 1) F2 hR2 (by omega) (by omega)) rfl (by rw [ev115, nI_6]) rfl rfl
      by_cases c5_20 : v4 = 20
      · refine V2_tableIn (tgt := 784) (off := 751) d_Lw_law_33 (by rw [c5_20]; decide) (by rw [c5_20]; decide) (by rw [c5_20]; decide) rfl ?_
        refine V2_aload_n (i := 1) d_Lw_law_784 rfl rfl ?_
        refine V2_callV [] d_Lw_law_785 rfl rfl lk_Lw_100 mo_P_least (by decide) rfl rfl rfl (Nat.le_of_ble_eq_true rfl) (Nat.le_of_ble_eq_true rfl) ?_
        obtain ⟨kx, hcx, hmx⟩ := pr_least hR 
        refine hcx _ _ _ _ (fun F1 hM => ?_)
        refine V2_aload_n (i := 2) d_Lw_law_788 rfl rfl ?_
        refine V2_callV [] d_Lw_law_789 rfl rfl lk_Lw_103 mo_R_least (by decide) rfl rfl rfl (Nat.le_of_ble_eq_true rfl) (Nat.le_of_ble_eq_true rfl) ?_
        refine hmx _ _ _ _ F1 hM (fun F2 hR2 => ?_)
        refine V2_icmp_eq (tgt := 1341) d_Lw_law_792 rfl (fun c116 => ?_) (fun c116 => (by first | exact absurd (rfl : kx.1 = kx.1) c116 | exact absurd c116 (rfl : kx.1 = kx.1)))
        obtain ⟨v117, ev117⟩ : ∃ y : Int32, y = nI (6 * k) + 6 := ⟨_, rfl⟩
        refine V2_iinc (i := 3) (v := v117) (l' := [some (.ref 1000000), some (.ref 0), some (.ref 65), some (.int v117)]) d_Lw_law_1341 rfl (by rw [ev117]; rfl) (xst_r (Nat.le_of_ble_eq_true rfl) rfl rfl) ?_
        refine V2_goto (tgt := 18) d_Lw_law_1344 rfl ?_
        exact V2.to (ih (k + 1) F2 hR2 (by omega) (by omega)) rfl (by rw [ev117, nI_6]) rfl rfl
      by_cases c5_21 : v4 = 21
      · refine V2_tableIn (tgt := 797) (off := 764) d_Lw_law_33 (by rw [c5_21]; decide) (by rw [c5_21]; decide) (by rw [c5_21]; decide) rfl ?_
        refine V2_aload_n (i := 1) d_Lw_law_797 rfl rfl ?_
        refine V2_aload_n (i := 0) d_Lw_law_798 rfl rfl ?_
        refine V2_iload_n (i := 3) d_Lw_law_799 rfl rfl ?_
        refine V2_iconst (v := 1) d_Lw_law_800 rfl ?_
        refine V2_iadd d_Lw_law_801 ?_
        refine V2_topi (fun v118 ev118 => ?_)
        refine V2_script d_Lw_law_802 (sx_in (n := 6 * k + 1) (by rw [ev118]; exact nI_add (6 * k) 1) (by omega) hL) ?_
        refine V2_lit (v := xs (6 * k + 1)) (sx_at (n := 6 * k + 1) (by rw [ev118]; exact nI_add (6 * k) 1) (by omega)) ?_
        refine V2_aload_n (i := 0) d_Lw_law_803 rfl rfl ?_
        refine V2_iload_n (i := 3) d_Lw_law_804 rfl rfl ?_
        refine V2_iconst (v := 2) d_Lw_law_805 rfl ?_
        refine V2_iadd d_Lw_law_806 ?_
        refine V2_topi (fun v119 ev119 => ?_)
        refine V2_script d_Lw_law_807 (sx_in (n := 6 * k + 2) (by rw [ev119]; exact nI_add (6 * k) 2) (by omega) hL) ?_
        refine V2_lit (v := xs (6 * k + 2)) (sx_at (n := 6 * k + 2) (by rw [ev119]; exact nI_add (6 * k) 2) (by omega)) ?_
        refine V2_aload_n (i := 0) d_Lw_law_808 rfl rfl ?_
        refine V2_iload_n (i := 3) d_Lw_law_809 rfl rfl ?_
        refine V2_iconst (v := 3) d_Lw_law_810 rfl ?_
        refine V2_iadd d_Lw_law_811 ?_
        refine V2_topi (fun v120 ev120 => ?_)
        refine V2_script d_Lw_law_812 (sx_in (n := 6 * k + 3) (by rw [ev120]; exact nI_add (6 * k) 3) (by omega) hL) ?_
        refine V2_lit (v := xs (6 * k + 3)) (sx_at (n := 6 * k + 3) (by rw [ev120]; exact nI_add (6 * k) 3) (by omega)) ?_
        refine V2_callV [.int (xs (6 * k + 1)), .int (xs (6 * k + 2)), .int (xs (6 * k + 3))] d_Lw_law_813 rfl rfl lk_Lw_104 mo_P_crew (by decide) rfl rfl rfl (Nat.le_of_ble_eq_true rfl) (Nat.le_of_ble_eq_true rfl) ?_
        obtain ⟨kx, hcx, hmx⟩ := pr_crew hR (xs (6 * k + 1)) (xs (6 * k + 2)) (xs (6 * k + 3))
        refine hcx _ _ _ _ (fun F1 hM => ?_)
        refine V2_aload_n (i := 2) d_Lw_law_816 rfl rfl ?_
        refine V2_aload_n (i := 0) d_Lw_law_817 rfl rfl ?_
        refine V2_iload_n (i := 3) d_Lw_law_818 rfl rfl ?_
        refine V2_iconst (v := 1) d_Lw_law_819 rfl ?_
        refine V2_iadd d_Lw_law_820 ?_
        refine V2_topi (fun v121 ev121 => ?_)
        refine V2_script d_Lw_law_821 (sx_in (n := 6 * k + 1) (by rw [ev121]; exact nI_add (6 * k) 1) (by omega) hL) ?_
        refine V2_lit (v := xs (6 * k + 1)) (sx_at (n := 6 * k + 1) (by rw [ev121]; exact nI_add (6 * k) 1) (by omega)) ?_
        refine V2_aload_n (i := 0) d_Lw_law_822 rfl rfl ?_
        refine V2_iload_n (i := 3) d_Lw_law_823 rfl rfl ?_
        refine V2_iconst (v := 2) d_Lw_law_824 rfl ?_
        refine V2_iadd d_Lw_law_825 ?_
        refine V2_topi (fun v122 ev122 => ?_)
        refine V2_script d_Lw_law_826 (sx_in (n := 6 * k + 2) (by rw [ev122]; exact nI_add (6 * k) 2) (by omega) hL) ?_
        refine V2_lit (v := xs (6 * k + 2)) (sx_at (n := 6 * k + 2) (by rw [ev122]; exact nI_add (6 * k) 2) (by omega)) ?_
        refine V2_aload_n (i := 0) d_Lw_law_827 rfl rfl ?_
        refine V2_iload_n (i := 3) d_Lw_law_828 rfl rfl ?_
        refine V2_iconst (v := 3) d_Lw_law_829 rfl ?_
        refine V2_iadd d_Lw_law_830 ?_
        refine V2_topi (fun v123 ev123 => ?_)
        refine V2_script d_Lw_law_831 (sx_in (n := 6 * k + 3) (by rw [ev123]; exact nI_add (6 * k) 3) (by omega) hL) ?_
        refine V2_lit (v := xs (6 * k + 3)) (sx_at (n := 6 * k + 3) (by rw [ev123]; exact nI_add (6 * k) 3) (by omega)) ?_
        refine V2_callV [.int (xs (6 * k + 1)), .int (xs (6 * k + 2)), .int (xs (6 * k + 3))] d_Lw_law_832 rfl rfl lk_Lw_108 mo_R_crew (by decide) rfl rfl rfl (Nat.le_of_ble_eq_true rfl) (Nat.le_of_ble_eq_true rfl) ?_
        refine hmx _ _ _ _ F1 hM (fun F2 hR2 => ?_)
        refine V2_icmp_eq (tgt := 1341) d_Lw_law_835 rfl (fun c124 => ?_) (fun c124 => (by first | exact absurd (rfl : kx.1 = kx.1) c124 | exact absurd c124 (rfl : kx.1 = kx.1)))
        obtain ⟨v125, ev125⟩ : ∃ y : Int32, y = nI (6 * k) + 6 := ⟨_, rfl⟩
        refine V2_iinc (i := 3) (v := v125) (l' := [some (.ref 1000000), some (.ref 0), some (.ref 65), some (.int v125)]) d_Lw_law_1341 rfl (by rw [ev125]; rfl) (xst_r (Nat.le_of_ble_eq_true rfl) rfl rfl) ?_
        refine V2_goto (tgt := 18) d_Lw_law_1344 rfl ?_
        exact V2.to (ih (k + 1) F2 hR2 (by omega) (by omega)) rfl (by rw [ev125, nI_6]) rfl rfl
      by_cases c5_22 : v4 = 22
      · refine V2_tableIn (tgt := 840) (off := 807) d_Lw_law_33 (by rw [c5_22]; decide) (by rw [c5_22]; decide) (by rw [c5_22]; decide) rfl ?_
        refine V2_aload_n (i := 1) d_Lw_law_840 rfl rfl ?_
        refine V2_aload_n (i := 0) d_Lw_law_841 rfl rfl ?_
        refine V2_iload_n (i := 3) d_Lw_law_842 rfl rfl ?_
        refine V2_iconst (v := 1) d_Lw_law_843 rfl ?_
        refine V2_iadd d_Lw_law_844 ?_
        refine V2_topi (fun v126 ev126 => ?_)
        refine V2_script d_Lw_law_845 (sx_in (n := 6 * k + 1) (by rw [ev126]; exact nI_add (6 * k) 1) (by omega) hL) ?_
        refine V2_lit (v := xs (6 * k + 1)) (sx_at (n := 6 * k + 1) (by rw [ev126]; exact nI_add (6 * k) 1) (by omega)) ?_
        refine V2_aload_n (i := 0) d_Lw_law_846 rfl rfl ?_
        refine V2_iload_n (i := 3) d_Lw_law_847 rfl rfl ?_
        refine V2_iconst (v := 2) d_Lw_law_848 rfl ?_
        refine V2_iadd d_Lw_law_849 ?_
        refine V2_topi (fun v127 ev127 => ?_)
        refine V2_script d_Lw_law_850 (sx_in (n := 6 * k + 2) (by rw [ev127]; exact nI_add (6 * k) 2) (by omega) hL) ?_
        refine V2_lit (v := xs (6 * k + 2)) (sx_at (n := 6 * k + 2) (by rw [ev127]; exact nI_add (6 * k) 2) (by omega)) ?_
        refine V2_callV [.int (xs (6 * k + 1)), .int (xs (6 * k + 2))] d_Lw_law_851 rfl rfl lk_Lw_109 mo_P_deepest (by decide) rfl rfl rfl (Nat.le_of_ble_eq_true rfl) (Nat.le_of_ble_eq_true rfl) ?_
        obtain ⟨kx, hcx, hmx⟩ := pr_deepest hR (xs (6 * k + 1)) (xs (6 * k + 2))
        refine hcx _ _ _ _ (fun F1 hM => ?_)
        refine V2_aload_n (i := 2) d_Lw_law_854 rfl rfl ?_
        refine V2_aload_n (i := 0) d_Lw_law_855 rfl rfl ?_
        refine V2_iload_n (i := 3) d_Lw_law_856 rfl rfl ?_
        refine V2_iconst (v := 1) d_Lw_law_857 rfl ?_
        refine V2_iadd d_Lw_law_858 ?_
        refine V2_topi (fun v128 ev128 => ?_)
        refine V2_script d_Lw_law_859 (sx_in (n := 6 * k + 1) (by rw [ev128]; exact nI_add (6 * k) 1) (by omega) hL) ?_
        refine V2_lit (v := xs (6 * k + 1)) (sx_at (n := 6 * k + 1) (by rw [ev128]; exact nI_add (6 * k) 1) (by omega)) ?_
        refine V2_aload_n (i := 0) d_Lw_law_860 rfl rfl ?_
        refine V2_iload_n (i := 3) d_Lw_law_861 rfl rfl ?_
        refine V2_iconst (v := 2) d_Lw_law_862 rfl ?_
        refine V2_iadd d_Lw_law_863 ?_
        refine V2_topi (fun v129 ev129 => ?_)
        refine V2_script d_Lw_law_864 (sx_in (n := 6 * k + 2) (by rw [ev129]; exact nI_add (6 * k) 2) (by omega) hL) ?_
        refine V2_lit (v := xs (6 * k + 2)) (sx_at (n := 6 * k + 2) (by rw [ev129]; exact nI_add (6 * k) 2) (by omega)) ?_
        refine V2_callV [.int (xs (6 * k + 1)), .int (xs (6 * k + 2))] d_Lw_law_865 rfl rfl lk_Lw_112 mo_R_deepest (by decide) rfl rfl rfl (Nat.le_of_ble_eq_true rfl) (Nat.le_of_ble_eq_true rfl) ?_
        refine hmx _ _ _ _ F1 hM (fun F2 hR2 => ?_)
        refine V2_icmp_eq (tgt := 1341) d_Lw_law_868 rfl (fun c130 => ?_) (fun c130 => (by first | exact absurd (rfl : kx.1 = kx.1) c130 | exact absurd c130 (rfl : kx.1 = kx.1)))
        obtain ⟨v131, ev131⟩ : ∃ y : Int32, y = nI (6 * k) + 6 := ⟨_, rfl⟩
        refine V2_iinc (i := 3) (v := v131) (l' := [some (.ref 1000000), some (.ref 0), some (.ref 65), some (.int v131)]) d_Lw_law_1341 rfl (by rw [ev131]; rfl) (xst_r (Nat.le_of_ble_eq_true rfl) rfl rfl) ?_
        refine V2_goto (tgt := 18) d_Lw_law_1344 rfl ?_
        exact V2.to (ih (k + 1) F2 hR2 (by omega) (by omega)) rfl (by rw [ev131, nI_6]) rfl rfl
      by_cases c5_23 : v4 = 23
      · refine V2_tableIn (tgt := 873) (off := 840) d_Lw_law_33 (by rw [c5_23]; decide) (by rw [c5_23]; decide) (by rw [c5_23]; decide) rfl ?_
        refine V2_aload_n (i := 1) d_Lw_law_873 rfl rfl ?_
        refine V2_aload_n (i := 0) d_Lw_law_874 rfl rfl ?_
        refine V2_iload_n (i := 3) d_Lw_law_875 rfl rfl ?_
        refine V2_iconst (v := 1) d_Lw_law_876 rfl ?_
        refine V2_iadd d_Lw_law_877 ?_
        refine V2_topi (fun v132 ev132 => ?_)
        refine V2_script d_Lw_law_878 (sx_in (n := 6 * k + 1) (by rw [ev132]; exact nI_add (6 * k) 1) (by omega) hL) ?_
        refine V2_lit (v := xs (6 * k + 1)) (sx_at (n := 6 * k + 1) (by rw [ev132]; exact nI_add (6 * k) 1) (by omega)) ?_
        refine V2_aload_n (i := 0) d_Lw_law_879 rfl rfl ?_
        refine V2_iload_n (i := 3) d_Lw_law_880 rfl rfl ?_
        refine V2_iconst (v := 2) d_Lw_law_881 rfl ?_
        refine V2_iadd d_Lw_law_882 ?_
        refine V2_topi (fun v133 ev133 => ?_)
        refine V2_script d_Lw_law_883 (sx_in (n := 6 * k + 2) (by rw [ev133]; exact nI_add (6 * k) 2) (by omega) hL) ?_
        refine V2_lit (v := xs (6 * k + 2)) (sx_at (n := 6 * k + 2) (by rw [ev133]; exact nI_add (6 * k) 2) (by omega)) ?_
        refine V2_callV [.int (xs (6 * k + 1)), .int (xs (6 * k + 2))] d_Lw_law_884 rfl rfl lk_Lw_113 mo_P_strokes (by decide) rfl rfl rfl (Nat.le_of_ble_eq_true rfl) (Nat.le_of_ble_eq_true rfl) ?_
        obtain ⟨kx, hcx, hmx⟩ := pr_strokes hR (xs (6 * k + 1)) (xs (6 * k + 2))
        refine hcx _ _ _ _ (fun F1 hM => ?_)
        refine V2_aload_n (i := 2) d_Lw_law_887 rfl rfl ?_
        refine V2_aload_n (i := 0) d_Lw_law_888 rfl rfl ?_
        refine V2_iload_n (i := 3) d_Lw_law_889 rfl rfl ?_
        refine V2_iconst (v := 1) d_Lw_law_890 rfl ?_
        refine V2_iadd d_Lw_law_891 ?_
        refine V2_topi (fun v134 ev134 => ?_)
        refine V2_script d_Lw_law_892 (sx_in (n := 6 * k + 1) (by rw [ev134]; exact nI_add (6 * k) 1) (by omega) hL) ?_
        refine V2_lit (v := xs (6 * k + 1)) (sx_at (n := 6 * k + 1) (by rw [ev134]; exact nI_add (6 * k) 1) (by omega)) ?_
        refine V2_aload_n (i := 0) d_Lw_law_893 rfl rfl ?_
        refine V2_iload_n (i := 3) d_Lw_law_894 rfl rfl ?_
        refine V2_iconst (v := 2) d_Lw_law_895 rfl ?_
        refine V2_iadd d_Lw_law_896 ?_
        refine V2_topi (fun v135 ev135 => ?_)
        refine V2_script d_Lw_law_897 (sx_in (n := 6 * k + 2) (by rw [ev135]; exact nI_add (6 * k) 2) (by omega) hL) ?_
        refine V2_lit (v := xs (6 * k + 2)) (sx_at (n := 6 * k + 2) (by rw [ev135]; exact nI_add (6 * k) 2) (by omega)) ?_
        refine V2_callV [.int (xs (6 * k + 1)), .int (xs (6 * k + 2))] d_Lw_law_898 rfl rfl lk_Lw_116 mo_R_strokes (by decide) rfl rfl rfl (Nat.le_of_ble_eq_true rfl) (Nat.le_of_ble_eq_true rfl) ?_
        refine hmx _ _ _ _ F1 hM (fun F2 hR2 => ?_)
        refine V2_icmp_eq (tgt := 1341) d_Lw_law_901 rfl (fun c136 => ?_) (fun c136 => (by first | exact absurd (rfl : kx.1 = kx.1) c136 | exact absurd c136 (rfl : kx.1 = kx.1)))
        obtain ⟨v137, ev137⟩ : ∃ y : Int32, y = nI (6 * k) + 6 := ⟨_, rfl⟩
        refine V2_iinc (i := 3) (v := v137) (l' := [some (.ref 1000000), some (.ref 0), some (.ref 65), some (.int v137)]) d_Lw_law_1341 rfl (by rw [ev137]; rfl) (xst_r (Nat.le_of_ble_eq_true rfl) rfl rfl) ?_
        refine V2_goto (tgt := 18) d_Lw_law_1344 rfl ?_
        exact V2.to (ih (k + 1) F2 hR2 (by omega) (by omega)) rfl (by rw [ev137, nI_6]) rfl rfl
      by_cases c5_24 : v4 = 24
      · refine V2_tableIn (tgt := 906) (off := 873) d_Lw_law_33 (by rw [c5_24]; decide) (by rw [c5_24]; decide) (by rw [c5_24]; decide) rfl ?_
        refine V2_aload_n (i := 1) d_Lw_law_906 rfl rfl ?_
        refine V2_aload_n (i := 0) d_Lw_law_907 rfl rfl ?_
        refine V2_iload_n (i := 3) d_Lw_law_908 rfl rfl ?_
        refine V2_iconst (v := 1) d_Lw_law_909 rfl ?_
        refine V2_iadd d_Lw_law_910 ?_
        refine V2_topi (fun v138 ev138 => ?_)
        refine V2_script d_Lw_law_911 (sx_in (n := 6 * k + 1) (by rw [ev138]; exact nI_add (6 * k) 1) (by omega) hL) ?_
        refine V2_lit (v := xs (6 * k + 1)) (sx_at (n := 6 * k + 1) (by rw [ev138]; exact nI_add (6 * k) 1) (by omega)) ?_
        refine V2_aload_n (i := 0) d_Lw_law_912 rfl rfl ?_
        refine V2_iload_n (i := 3) d_Lw_law_913 rfl rfl ?_
        refine V2_iconst (v := 2) d_Lw_law_914 rfl ?_
        refine V2_iadd d_Lw_law_915 ?_
        refine V2_topi (fun v139 ev139 => ?_)
        refine V2_script d_Lw_law_916 (sx_in (n := 6 * k + 2) (by rw [ev139]; exact nI_add (6 * k) 2) (by omega) hL) ?_
        refine V2_lit (v := xs (6 * k + 2)) (sx_at (n := 6 * k + 2) (by rw [ev139]; exact nI_add (6 * k) 2) (by omega)) ?_
        refine V2_callV [.int (xs (6 * k + 1)), .int (xs (6 * k + 2))] d_Lw_law_917 rfl rfl lk_Lw_117 mo_P_fits (by decide) rfl rfl rfl (Nat.le_of_ble_eq_true rfl) (Nat.le_of_ble_eq_true rfl) ?_
        obtain ⟨kx, hcx, hmx⟩ := pr_fits hR (xs (6 * k + 1)) (xs (6 * k + 2))
        refine hcx _ _ _ _ (fun F1 hM => ?_)
        refine V2_aload_n (i := 2) d_Lw_law_920 rfl rfl ?_
        refine V2_aload_n (i := 0) d_Lw_law_921 rfl rfl ?_
        refine V2_iload_n (i := 3) d_Lw_law_922 rfl rfl ?_
        refine V2_iconst (v := 1) d_Lw_law_923 rfl ?_
        refine V2_iadd d_Lw_law_924 ?_
        refine V2_topi (fun v140 ev140 => ?_)
        refine V2_script d_Lw_law_925 (sx_in (n := 6 * k + 1) (by rw [ev140]; exact nI_add (6 * k) 1) (by omega) hL) ?_
        refine V2_lit (v := xs (6 * k + 1)) (sx_at (n := 6 * k + 1) (by rw [ev140]; exact nI_add (6 * k) 1) (by omega)) ?_
        refine V2_aload_n (i := 0) d_Lw_law_926 rfl rfl ?_
        refine V2_iload_n (i := 3) d_Lw_law_927 rfl rfl ?_
        refine V2_iconst (v := 2) d_Lw_law_928 rfl ?_
        refine V2_iadd d_Lw_law_929 ?_
        refine V2_topi (fun v141 ev141 => ?_)
        refine V2_script d_Lw_law_930 (sx_in (n := 6 * k + 2) (by rw [ev141]; exact nI_add (6 * k) 2) (by omega) hL) ?_
        refine V2_lit (v := xs (6 * k + 2)) (sx_at (n := 6 * k + 2) (by rw [ev141]; exact nI_add (6 * k) 2) (by omega)) ?_
        refine V2_callV [.int (xs (6 * k + 1)), .int (xs (6 * k + 2))] d_Lw_law_931 rfl rfl lk_Lw_120 mo_R_fits (by decide) rfl rfl rfl (Nat.le_of_ble_eq_true rfl) (Nat.le_of_ble_eq_true rfl) ?_
        refine hmx _ _ _ _ F1 hM (fun F2 hR2 => ?_)
        refine V2_icmp_eq (tgt := 1341) d_Lw_law_934 rfl (fun c142 => ?_) (fun c142 => (by first | exact absurd (rfl : kx.1 = kx.1) c142 | exact absurd c142 (rfl : kx.1 = kx.1)))
        obtain ⟨v143, ev143⟩ : ∃ y : Int32, y = nI (6 * k) + 6 := ⟨_, rfl⟩
        refine V2_iinc (i := 3) (v := v143) (l' := [some (.ref 1000000), some (.ref 0), some (.ref 65), some (.int v143)]) d_Lw_law_1341 rfl (by rw [ev143]; rfl) (xst_r (Nat.le_of_ble_eq_true rfl) rfl rfl) ?_
        refine V2_goto (tgt := 18) d_Lw_law_1344 rfl ?_
        exact V2.to (ih (k + 1) F2 hR2 (by omega) (by omega)) rfl (by rw [ev143, nI_6]) rfl rfl
      by_cases c5_25 : v4 = 25
      · refine V2_tableIn (tgt := 939) (off := 906) d_Lw_law_33 (by rw [c5_25]; decide) (by rw [c5_25]; decide) (by rw [c5_25]; decide) rfl ?_
        refine V2_aload_n (i := 1) d_Lw_law_939 rfl rfl ?_
        refine V2_aload_n (i := 0) d_Lw_law_940 rfl rfl ?_
        refine V2_iload_n (i := 3) d_Lw_law_941 rfl rfl ?_
        refine V2_iconst (v := 1) d_Lw_law_942 rfl ?_
        refine V2_iadd d_Lw_law_943 ?_
        refine V2_topi (fun v144 ev144 => ?_)
        refine V2_script d_Lw_law_944 (sx_in (n := 6 * k + 1) (by rw [ev144]; exact nI_add (6 * k) 1) (by omega) hL) ?_
        refine V2_lit (v := xs (6 * k + 1)) (sx_at (n := 6 * k + 1) (by rw [ev144]; exact nI_add (6 * k) 1) (by omega)) ?_
        refine V2_aload_n (i := 0) d_Lw_law_945 rfl rfl ?_
        refine V2_iload_n (i := 3) d_Lw_law_946 rfl rfl ?_
        refine V2_iconst (v := 2) d_Lw_law_947 rfl ?_
        refine V2_iadd d_Lw_law_948 ?_
        refine V2_topi (fun v145 ev145 => ?_)
        refine V2_script d_Lw_law_949 (sx_in (n := 6 * k + 2) (by rw [ev145]; exact nI_add (6 * k) 2) (by omega) hL) ?_
        refine V2_lit (v := xs (6 * k + 2)) (sx_at (n := 6 * k + 2) (by rw [ev145]; exact nI_add (6 * k) 2) (by omega)) ?_
        refine V2_callV [.int (xs (6 * k + 1)), .int (xs (6 * k + 2))] d_Lw_law_950 rfl rfl lk_Lw_121 mo_P_odds (by decide) rfl rfl rfl (Nat.le_of_ble_eq_true rfl) (Nat.le_of_ble_eq_true rfl) ?_
        obtain ⟨kx, hcx, hmx⟩ := pr_odds hR (xs (6 * k + 1)) (xs (6 * k + 2))
        refine hcx _ _ _ _ (fun F1 hM => ?_)
        refine V2_aload_n (i := 2) d_Lw_law_953 rfl rfl ?_
        refine V2_aload_n (i := 0) d_Lw_law_954 rfl rfl ?_
        refine V2_iload_n (i := 3) d_Lw_law_955 rfl rfl ?_
        refine V2_iconst (v := 1) d_Lw_law_956 rfl ?_
        refine V2_iadd d_Lw_law_957 ?_
        refine V2_topi (fun v146 ev146 => ?_)
        refine V2_script d_Lw_law_958 (sx_in (n := 6 * k + 1) (by rw [ev146]; exact nI_add (6 * k) 1) (by omega) hL) ?_
        refine V2_lit (v := xs (6 * k + 1)) (sx_at (n := 6 * k + 1) (by rw [ev146]; exact nI_add (6 * k) 1) (by omega)) ?_
        refine V2_aload_n (i := 0) d_Lw_law_959 rfl rfl ?_
        refine V2_iload_n (i := 3) d_Lw_law_960 rfl rfl ?_
        refine V2_iconst (v := 2) d_Lw_law_961 rfl ?_
        refine V2_iadd d_Lw_law_962 ?_
        refine V2_topi (fun v147 ev147 => ?_)
        refine V2_script d_Lw_law_963 (sx_in (n := 6 * k + 2) (by rw [ev147]; exact nI_add (6 * k) 2) (by omega) hL) ?_
        refine V2_lit (v := xs (6 * k + 2)) (sx_at (n := 6 * k + 2) (by rw [ev147]; exact nI_add (6 * k) 2) (by omega)) ?_
        refine V2_callV [.int (xs (6 * k + 1)), .int (xs (6 * k + 2))] d_Lw_law_964 rfl rfl lk_Lw_124 mo_R_odds (by decide) rfl rfl rfl (Nat.le_of_ble_eq_true rfl) (Nat.le_of_ble_eq_true rfl) ?_
        refine hmx _ _ _ _ F1 hM (fun F2 hR2 => ?_)
        refine V2_icmp_eq (tgt := 1341) d_Lw_law_967 rfl (fun c148 => ?_) (fun c148 => (by first | exact absurd (rfl : kx.1 = kx.1) c148 | exact absurd c148 (rfl : kx.1 = kx.1)))
        obtain ⟨v149, ev149⟩ : ∃ y : Int32, y = nI (6 * k) + 6 := ⟨_, rfl⟩
        refine V2_iinc (i := 3) (v := v149) (l' := [some (.ref 1000000), some (.ref 0), some (.ref 65), some (.int v149)]) d_Lw_law_1341 rfl (by rw [ev149]; rfl) (xst_r (Nat.le_of_ble_eq_true rfl) rfl rfl) ?_
        refine V2_goto (tgt := 18) d_Lw_law_1344 rfl ?_
        exact V2.to (ih (k + 1) F2 hR2 (by omega) (by omega)) rfl (by rw [ev149, nI_6]) rfl rfl
      by_cases c5_26 : v4 = 26
      · refine V2_tableIn (tgt := 972) (off := 939) d_Lw_law_33 (by rw [c5_26]; decide) (by rw [c5_26]; decide) (by rw [c5_26]; decide) rfl ?_
        refine V2_aload_n (i := 1) d_Lw_law_972 rfl rfl ?_
        refine V2_aload_n (i := 0) d_Lw_law_973 rfl rfl ?_
        refine V2_iload_n (i := 3) d_Lw_law_974 rfl rfl ?_
        refine V2_iconst (v := 1) d_Lw_law_975 rfl ?_
        refine V2_iadd d_Lw_law_976 ?_
        refine V2_topi (fun v150 ev150 => ?_)
        refine V2_script d_Lw_law_977 (sx_in (n := 6 * k + 1) (by rw [ev150]; exact nI_add (6 * k) 1) (by omega) hL) ?_
        refine V2_lit (v := xs (6 * k + 1)) (sx_at (n := 6 * k + 1) (by rw [ev150]; exact nI_add (6 * k) 1) (by omega)) ?_
        refine V2_aload_n (i := 0) d_Lw_law_978 rfl rfl ?_
        refine V2_iload_n (i := 3) d_Lw_law_979 rfl rfl ?_
        refine V2_iconst (v := 2) d_Lw_law_980 rfl ?_
        refine V2_iadd d_Lw_law_981 ?_
        refine V2_topi (fun v151 ev151 => ?_)
        refine V2_script d_Lw_law_982 (sx_in (n := 6 * k + 2) (by rw [ev151]; exact nI_add (6 * k) 2) (by omega) hL) ?_
        refine V2_lit (v := xs (6 * k + 2)) (sx_at (n := 6 * k + 2) (by rw [ev151]; exact nI_add (6 * k) 2) (by omega)) ?_
        refine V2_aload_n (i := 0) d_Lw_law_983 rfl rfl ?_
        refine V2_iload_n (i := 3) d_Lw_law_984 rfl rfl ?_
        refine V2_iconst (v := 3) d_Lw_law_985 rfl ?_
        refine V2_iadd d_Lw_law_986 ?_
        refine V2_topi (fun v152 ev152 => ?_)
        refine V2_script d_Lw_law_987 (sx_in (n := 6 * k + 3) (by rw [ev152]; exact nI_add (6 * k) 3) (by omega) hL) ?_
        refine V2_lit (v := xs (6 * k + 3)) (sx_at (n := 6 * k + 3) (by rw [ev152]; exact nI_add (6 * k) 3) (by omega)) ?_
        refine V2_callV [.int (xs (6 * k + 1)), .int (xs (6 * k + 2)), .int (xs (6 * k + 3))] d_Lw_law_988 rfl rfl lk_Lw_125 mo_P_voice (by decide) rfl rfl rfl (Nat.le_of_ble_eq_true rfl) (Nat.le_of_ble_eq_true rfl) ?_
        obtain ⟨kx, hcx, hmx⟩ := pr_voice hR (xs (6 * k + 1)) (xs (6 * k + 2)) (xs (6 * k + 3))
        refine hcx _ _ _ _ (fun F1 hM => ?_)
        refine V2_aload_n (i := 2) d_Lw_law_991 rfl rfl ?_
        refine V2_aload_n (i := 0) d_Lw_law_992 rfl rfl ?_
        refine V2_iload_n (i := 3) d_Lw_law_993 rfl rfl ?_
        refine V2_iconst (v := 1) d_Lw_law_994 rfl ?_
        refine V2_iadd d_Lw_law_995 ?_
        refine V2_topi (fun v153 ev153 => ?_)
        refine V2_script d_Lw_law_996 (sx_in (n := 6 * k + 1) (by rw [ev153]; exact nI_add (6 * k) 1) (by omega) hL) ?_
        refine V2_lit (v := xs (6 * k + 1)) (sx_at (n := 6 * k + 1) (by rw [ev153]; exact nI_add (6 * k) 1) (by omega)) ?_
        refine V2_aload_n (i := 0) d_Lw_law_997 rfl rfl ?_
        refine V2_iload_n (i := 3) d_Lw_law_998 rfl rfl ?_
        refine V2_iconst (v := 2) d_Lw_law_999 rfl ?_
        refine V2_iadd d_Lw_law_1000 ?_
        refine V2_topi (fun v154 ev154 => ?_)
        refine V2_script d_Lw_law_1001 (sx_in (n := 6 * k + 2) (by rw [ev154]; exact nI_add (6 * k) 2) (by omega) hL) ?_
        refine V2_lit (v := xs (6 * k + 2)) (sx_at (n := 6 * k + 2) (by rw [ev154]; exact nI_add (6 * k) 2) (by omega)) ?_
        refine V2_aload_n (i := 0) d_Lw_law_1002 rfl rfl ?_
        refine V2_iload_n (i := 3) d_Lw_law_1003 rfl rfl ?_
        refine V2_iconst (v := 3) d_Lw_law_1004 rfl ?_
        refine V2_iadd d_Lw_law_1005 ?_
        refine V2_topi (fun v155 ev155 => ?_)
        refine V2_script d_Lw_law_1006 (sx_in (n := 6 * k + 3) (by rw [ev155]; exact nI_add (6 * k) 3) (by omega) hL) ?_
        refine V2_lit (v := xs (6 * k + 3)) (sx_at (n := 6 * k + 3) (by rw [ev155]; exact nI_add (6 * k) 3) (by omega)) ?_
        refine V2_callV [.int (xs (6 * k + 1)), .int (xs (6 * k + 2)), .int (xs (6 * k + 3))] d_Lw_law_1007 rfl rfl lk_Lw_128 mo_R_voice (by decide) rfl rfl rfl (Nat.le_of_ble_eq_true rfl) (Nat.le_of_ble_eq_true rfl) ?_
        refine hmx _ _ _ _ F1 hM (fun F2 hR2 => ?_)
        refine V2_icmp_eq (tgt := 1341) d_Lw_law_1010 rfl (fun c156 => ?_) (fun c156 => (by first | exact absurd (rfl : kx.1 = kx.1) c156 | exact absurd c156 (rfl : kx.1 = kx.1)))
        obtain ⟨v157, ev157⟩ : ∃ y : Int32, y = nI (6 * k) + 6 := ⟨_, rfl⟩
        refine V2_iinc (i := 3) (v := v157) (l' := [some (.ref 1000000), some (.ref 0), some (.ref 65), some (.int v157)]) d_Lw_law_1341 rfl (by rw [ev157]; rfl) (xst_r (Nat.le_of_ble_eq_true rfl) rfl rfl) ?_
        refine V2_goto (tgt := 18) d_Lw_law_1344 rfl ?_
        exact V2.to (ih (k + 1) F2 hR2 (by omega) (by omega)) rfl (by rw [ev157, nI_6]) rfl rfl
      by_cases c5_27 : v4 = 27
      · refine V2_tableIn (tgt := 1015) (off := 982) d_Lw_law_33 (by rw [c5_27]; decide) (by rw [c5_27]; decide) (by rw [c5_27]; decide) rfl ?_
        refine V2_aload_n (i := 1) d_Lw_law_1015 rfl rfl ?_
        refine V2_aload_n (i := 0) d_Lw_law_1016 rfl rfl ?_
        refine V2_iload_n (i := 3) d_Lw_law_1017 rfl rfl ?_
        refine V2_iconst (v := 1) d_Lw_law_1018 rfl ?_
        refine V2_iadd d_Lw_law_1019 ?_
        refine V2_topi (fun v158 ev158 => ?_)
        refine V2_script d_Lw_law_1020 (sx_in (n := 6 * k + 1) (by rw [ev158]; exact nI_add (6 * k) 1) (by omega) hL) ?_
        refine V2_lit (v := xs (6 * k + 1)) (sx_at (n := 6 * k + 1) (by rw [ev158]; exact nI_add (6 * k) 1) (by omega)) ?_
        refine V2_callV [.int (xs (6 * k + 1))] d_Lw_law_1021 rfl rfl lk_Lw_129 mo_P_body (by decide) rfl rfl rfl (Nat.le_of_ble_eq_true rfl) (Nat.le_of_ble_eq_true rfl) ?_
        obtain ⟨kx, hcx, hmx⟩ := pr_body hR (xs (6 * k + 1))
        refine hcx _ _ _ _ (fun F1 hM => ?_)
        refine V2_aload_n (i := 2) d_Lw_law_1024 rfl rfl ?_
        refine V2_aload_n (i := 0) d_Lw_law_1025 rfl rfl ?_
        refine V2_iload_n (i := 3) d_Lw_law_1026 rfl rfl ?_
        refine V2_iconst (v := 1) d_Lw_law_1027 rfl ?_
        refine V2_iadd d_Lw_law_1028 ?_
        refine V2_topi (fun v159 ev159 => ?_)
        refine V2_script d_Lw_law_1029 (sx_in (n := 6 * k + 1) (by rw [ev159]; exact nI_add (6 * k) 1) (by omega) hL) ?_
        refine V2_lit (v := xs (6 * k + 1)) (sx_at (n := 6 * k + 1) (by rw [ev159]; exact nI_add (6 * k) 1) (by omega)) ?_
        refine V2_callV [.int (xs (6 * k + 1))] d_Lw_law_1030 rfl rfl lk_Lw_132 mo_R_body (by decide) rfl rfl rfl (Nat.le_of_ble_eq_true rfl) (Nat.le_of_ble_eq_true rfl) ?_
        refine hmx _ _ _ _ F1 hM (fun F2 hR2 => ?_)
        refine V2_icmp_eq (tgt := 1341) d_Lw_law_1033 rfl (fun c160 => ?_) (fun c160 => (by first | exact absurd (rfl : kx.1 = kx.1) c160 | exact absurd c160 (rfl : kx.1 = kx.1)))
        obtain ⟨v161, ev161⟩ : ∃ y : Int32, y = nI (6 * k) + 6 := ⟨_, rfl⟩
        refine V2_iinc (i := 3) (v := v161) (l' := [some (.ref 1000000), some (.ref 0), some (.ref 65), some (.int v161)]) d_Lw_law_1341 rfl (by rw [ev161]; rfl) (xst_r (Nat.le_of_ble_eq_true rfl) rfl rfl) ?_
        refine V2_goto (tgt := 18) d_Lw_law_1344 rfl ?_
        exact V2.to (ih (k + 1) F2 hR2 (by omega) (by omega)) rfl (by rw [ev161, nI_6]) rfl rfl
      by_cases c5_28 : v4 = 28
      · refine V2_tableIn (tgt := 1038) (off := 1005) d_Lw_law_33 (by rw [c5_28]; decide) (by rw [c5_28]; decide) (by rw [c5_28]; decide) rfl ?_
        refine V2_aload_n (i := 1) d_Lw_law_1038 rfl rfl ?_
        refine V2_aload_n (i := 0) d_Lw_law_1039 rfl rfl ?_
        refine V2_iload_n (i := 3) d_Lw_law_1040 rfl rfl ?_
        refine V2_iconst (v := 1) d_Lw_law_1041 rfl ?_
        refine V2_iadd d_Lw_law_1042 ?_
        refine V2_topi (fun v162 ev162 => ?_)
        refine V2_script d_Lw_law_1043 (sx_in (n := 6 * k + 1) (by rw [ev162]; exact nI_add (6 * k) 1) (by omega) hL) ?_
        refine V2_lit (v := xs (6 * k + 1)) (sx_at (n := 6 * k + 1) (by rw [ev162]; exact nI_add (6 * k) 1) (by omega)) ?_
        refine V2_aload_n (i := 0) d_Lw_law_1044 rfl rfl ?_
        refine V2_iload_n (i := 3) d_Lw_law_1045 rfl rfl ?_
        refine V2_iconst (v := 2) d_Lw_law_1046 rfl ?_
        refine V2_iadd d_Lw_law_1047 ?_
        refine V2_topi (fun v163 ev163 => ?_)
        refine V2_script d_Lw_law_1048 (sx_in (n := 6 * k + 2) (by rw [ev163]; exact nI_add (6 * k) 2) (by omega) hL) ?_
        refine V2_lit (v := xs (6 * k + 2)) (sx_at (n := 6 * k + 2) (by rw [ev163]; exact nI_add (6 * k) 2) (by omega)) ?_
        refine V2_aload_n (i := 0) d_Lw_law_1049 rfl rfl ?_
        refine V2_iload_n (i := 3) d_Lw_law_1050 rfl rfl ?_
        refine V2_iconst (v := 3) d_Lw_law_1051 rfl ?_
        refine V2_iadd d_Lw_law_1052 ?_
        refine V2_topi (fun v164 ev164 => ?_)
        refine V2_script d_Lw_law_1053 (sx_in (n := 6 * k + 3) (by rw [ev164]; exact nI_add (6 * k) 3) (by omega) hL) ?_
        refine V2_lit (v := xs (6 * k + 3)) (sx_at (n := 6 * k + 3) (by rw [ev164]; exact nI_add (6 * k) 3) (by omega)) ?_
        refine V2_callV [.int (xs (6 * k + 1)), .int (xs (6 * k + 2)), .int (xs (6 * k + 3))] d_Lw_law_1054 rfl rfl lk_Lw_133 mo_P_sheet (by decide) rfl rfl rfl (Nat.le_of_ble_eq_true rfl) (Nat.le_of_ble_eq_true rfl) ?_
        obtain ⟨kx, hcx, hmx⟩ := pr_sheet hR (xs (6 * k + 1)) (xs (6 * k + 2)) (xs (6 * k + 3))
        refine hcx _ _ _ _ (fun F1 hM => ?_)
        refine V2_aload_n (i := 2) d_Lw_law_1057 rfl rfl ?_
        refine V2_aload_n (i := 0) d_Lw_law_1058 rfl rfl ?_
        refine V2_iload_n (i := 3) d_Lw_law_1059 rfl rfl ?_
        refine V2_iconst (v := 1) d_Lw_law_1060 rfl ?_
        refine V2_iadd d_Lw_law_1061 ?_
        refine V2_topi (fun v165 ev165 => ?_)
        refine V2_script d_Lw_law_1062 (sx_in (n := 6 * k + 1) (by rw [ev165]; exact nI_add (6 * k) 1) (by omega) hL) ?_
        refine V2_lit (v := xs (6 * k + 1)) (sx_at (n := 6 * k + 1) (by rw [ev165]; exact nI_add (6 * k) 1) (by omega)) ?_
        refine V2_aload_n (i := 0) d_Lw_law_1063 rfl rfl ?_
        refine V2_iload_n (i := 3) d_Lw_law_1064 rfl rfl ?_
        refine V2_iconst (v := 2) d_Lw_law_1065 rfl ?_
        refine V2_iadd d_Lw_law_1066 ?_
        refine V2_topi (fun v166 ev166 => ?_)
        refine V2_script d_Lw_law_1067 (sx_in (n := 6 * k + 2) (by rw [ev166]; exact nI_add (6 * k) 2) (by omega) hL) ?_
        refine V2_lit (v := xs (6 * k + 2)) (sx_at (n := 6 * k + 2) (by rw [ev166]; exact nI_add (6 * k) 2) (by omega)) ?_
        refine V2_aload_n (i := 0) d_Lw_law_1068 rfl rfl ?_
        refine V2_iload_n (i := 3) d_Lw_law_1069 rfl rfl ?_
        refine V2_iconst (v := 3) d_Lw_law_1070 rfl ?_
        refine V2_iadd d_Lw_law_1071 ?_
        refine V2_topi (fun v167 ev167 => ?_)
        refine V2_script d_Lw_law_1072 (sx_in (n := 6 * k + 3) (by rw [ev167]; exact nI_add (6 * k) 3) (by omega) hL) ?_
        refine V2_lit (v := xs (6 * k + 3)) (sx_at (n := 6 * k + 3) (by rw [ev167]; exact nI_add (6 * k) 3) (by omega)) ?_
        refine V2_callV [.int (xs (6 * k + 1)), .int (xs (6 * k + 2)), .int (xs (6 * k + 3))] d_Lw_law_1073 rfl rfl lk_Lw_136 mo_R_sheet (by decide) rfl rfl rfl (Nat.le_of_ble_eq_true rfl) (Nat.le_of_ble_eq_true rfl) ?_
        refine hmx _ _ _ _ F1 hM (fun F2 hR2 => ?_)
        refine V2_icmp_eq (tgt := 1341) d_Lw_law_1076 rfl (fun c168 => ?_) (fun c168 => (by first | exact absurd (rfl : kx.1 = kx.1) c168 | exact absurd c168 (rfl : kx.1 = kx.1)))
        obtain ⟨v169, ev169⟩ : ∃ y : Int32, y = nI (6 * k) + 6 := ⟨_, rfl⟩
        refine V2_iinc (i := 3) (v := v169) (l' := [some (.ref 1000000), some (.ref 0), some (.ref 65), some (.int v169)]) d_Lw_law_1341 rfl (by rw [ev169]; rfl) (xst_r (Nat.le_of_ble_eq_true rfl) rfl rfl) ?_
        refine V2_goto (tgt := 18) d_Lw_law_1344 rfl ?_
        exact V2.to (ih (k + 1) F2 hR2 (by omega) (by omega)) rfl (by rw [ev169, nI_6]) rfl rfl
      by_cases c5_29 : v4 = 29
      · refine V2_tableIn (tgt := 1081) (off := 1048) d_Lw_law_33 (by rw [c5_29]; decide) (by rw [c5_29]; decide) (by rw [c5_29]; decide) rfl ?_
        refine V2_aload_n (i := 1) d_Lw_law_1081 rfl rfl ?_
        refine V2_aload_n (i := 0) d_Lw_law_1082 rfl rfl ?_
        refine V2_iload_n (i := 3) d_Lw_law_1083 rfl rfl ?_
        refine V2_iconst (v := 1) d_Lw_law_1084 rfl ?_
        refine V2_iadd d_Lw_law_1085 ?_
        refine V2_topi (fun v170 ev170 => ?_)
        refine V2_script d_Lw_law_1086 (sx_in (n := 6 * k + 1) (by rw [ev170]; exact nI_add (6 * k) 1) (by omega) hL) ?_
        refine V2_lit (v := xs (6 * k + 1)) (sx_at (n := 6 * k + 1) (by rw [ev170]; exact nI_add (6 * k) 1) (by omega)) ?_
        refine V2_aload_n (i := 0) d_Lw_law_1087 rfl rfl ?_
        refine V2_iload_n (i := 3) d_Lw_law_1088 rfl rfl ?_
        refine V2_iconst (v := 2) d_Lw_law_1089 rfl ?_
        refine V2_iadd d_Lw_law_1090 ?_
        refine V2_topi (fun v171 ev171 => ?_)
        refine V2_script d_Lw_law_1091 (sx_in (n := 6 * k + 2) (by rw [ev171]; exact nI_add (6 * k) 2) (by omega) hL) ?_
        refine V2_lit (v := xs (6 * k + 2)) (sx_at (n := 6 * k + 2) (by rw [ev171]; exact nI_add (6 * k) 2) (by omega)) ?_
        refine V2_aload_n (i := 0) d_Lw_law_1092 rfl rfl ?_
        refine V2_iload_n (i := 3) d_Lw_law_1093 rfl rfl ?_
        refine V2_iconst (v := 3) d_Lw_law_1094 rfl ?_
        refine V2_iadd d_Lw_law_1095 ?_
        refine V2_topi (fun v172 ev172 => ?_)
        refine V2_script d_Lw_law_1096 (sx_in (n := 6 * k + 3) (by rw [ev172]; exact nI_add (6 * k) 3) (by omega) hL) ?_
        refine V2_lit (v := xs (6 * k + 3)) (sx_at (n := 6 * k + 3) (by rw [ev172]; exact nI_add (6 * k) 3) (by omega)) ?_
        refine V2_callV [.int (xs (6 * k + 1)), .int (xs (6 * k + 2)), .int (xs (6 * k + 3))] d_Lw_law_1097 rfl rfl lk_Lw_137 mo_P_put (by decide) rfl rfl rfl (Nat.le_of_ble_eq_true rfl) (Nat.le_of_ble_eq_true rfl) ?_
        obtain ⟨kx, hcx, hmx⟩ := pr_put hR (xs (6 * k + 1)) (xs (6 * k + 2)) (xs (6 * k + 3))
        refine hcx _ _ _ _ (fun F1 hM => ?_)
        refine V2_aload_n (i := 2) d_Lw_law_1100 rfl rfl ?_
        refine V2_aload_n (i := 0) d_Lw_law_1101 rfl rfl ?_
        refine V2_iload_n (i := 3) d_Lw_law_1102 rfl rfl ?_
        refine V2_iconst (v := 1) d_Lw_law_1103 rfl ?_
        refine V2_iadd d_Lw_law_1104 ?_
        refine V2_topi (fun v173 ev173 => ?_)
        refine V2_script d_Lw_law_1105 (sx_in (n := 6 * k + 1) (by rw [ev173]; exact nI_add (6 * k) 1) (by omega) hL) ?_
        refine V2_lit (v := xs (6 * k + 1)) (sx_at (n := 6 * k + 1) (by rw [ev173]; exact nI_add (6 * k) 1) (by omega)) ?_
        refine V2_aload_n (i := 0) d_Lw_law_1106 rfl rfl ?_
        refine V2_iload_n (i := 3) d_Lw_law_1107 rfl rfl ?_
        refine V2_iconst (v := 2) d_Lw_law_1108 rfl ?_
        refine V2_iadd d_Lw_law_1109 ?_
        refine V2_topi (fun v174 ev174 => ?_)
        refine V2_script d_Lw_law_1110 (sx_in (n := 6 * k + 2) (by rw [ev174]; exact nI_add (6 * k) 2) (by omega) hL) ?_
        refine V2_lit (v := xs (6 * k + 2)) (sx_at (n := 6 * k + 2) (by rw [ev174]; exact nI_add (6 * k) 2) (by omega)) ?_
        refine V2_aload_n (i := 0) d_Lw_law_1111 rfl rfl ?_
        refine V2_iload_n (i := 3) d_Lw_law_1112 rfl rfl ?_
        refine V2_iconst (v := 3) d_Lw_law_1113 rfl ?_
        refine V2_iadd d_Lw_law_1114 ?_
        refine V2_topi (fun v175 ev175 => ?_)
        refine V2_script d_Lw_law_1115 (sx_in (n := 6 * k + 3) (by rw [ev175]; exact nI_add (6 * k) 3) (by omega) hL) ?_
        refine V2_lit (v := xs (6 * k + 3)) (sx_at (n := 6 * k + 3) (by rw [ev175]; exact nI_add (6 * k) 3) (by omega)) ?_
        refine V2_callV [.int (xs (6 * k + 1)), .int (xs (6 * k + 2)), .int (xs (6 * k + 3))] d_Lw_law_1116 rfl rfl lk_Lw_140 mo_R_put (by decide) rfl rfl rfl (Nat.le_of_ble_eq_true rfl) (Nat.le_of_ble_eq_true rfl) ?_
        refine hmx _ _ _ _ F1 hM (fun F2 hR2 => ?_)
        refine V2_icmp_eq (tgt := 1341) d_Lw_law_1119 rfl (fun c176 => ?_) (fun c176 => (by first | exact absurd (rfl : kx.1 = kx.1) c176 | exact absurd c176 (rfl : kx.1 = kx.1)))
        obtain ⟨v177, ev177⟩ : ∃ y : Int32, y = nI (6 * k) + 6 := ⟨_, rfl⟩
        refine V2_iinc (i := 3) (v := v177) (l' := [some (.ref 1000000), some (.ref 0), some (.ref 65), some (.int v177)]) d_Lw_law_1341 rfl (by rw [ev177]; rfl) (xst_r (Nat.le_of_ble_eq_true rfl) rfl rfl) ?_
        refine V2_goto (tgt := 18) d_Lw_law_1344 rfl ?_
        exact V2.to (ih (k + 1) F2 hR2 (by omega) (by omega)) rfl (by rw [ev177, nI_6]) rfl rfl
      by_cases c5_30 : v4 = 30
      · refine V2_tableIn (tgt := 1124) (off := 1091) d_Lw_law_33 (by rw [c5_30]; decide) (by rw [c5_30]; decide) (by rw [c5_30]; decide) rfl ?_
        refine V2_aload_n (i := 1) d_Lw_law_1124 rfl rfl ?_
        refine V2_aload_n (i := 0) d_Lw_law_1125 rfl rfl ?_
        refine V2_iload_n (i := 3) d_Lw_law_1126 rfl rfl ?_
        refine V2_iconst (v := 1) d_Lw_law_1127 rfl ?_
        refine V2_iadd d_Lw_law_1128 ?_
        refine V2_topi (fun v178 ev178 => ?_)
        refine V2_script d_Lw_law_1129 (sx_in (n := 6 * k + 1) (by rw [ev178]; exact nI_add (6 * k) 1) (by omega) hL) ?_
        refine V2_lit (v := xs (6 * k + 1)) (sx_at (n := 6 * k + 1) (by rw [ev178]; exact nI_add (6 * k) 1) (by omega)) ?_
        refine V2_aload_n (i := 0) d_Lw_law_1130 rfl rfl ?_
        refine V2_iload_n (i := 3) d_Lw_law_1131 rfl rfl ?_
        refine V2_iconst (v := 2) d_Lw_law_1132 rfl ?_
        refine V2_iadd d_Lw_law_1133 ?_
        refine V2_topi (fun v179 ev179 => ?_)
        refine V2_script d_Lw_law_1134 (sx_in (n := 6 * k + 2) (by rw [ev179]; exact nI_add (6 * k) 2) (by omega) hL) ?_
        refine V2_lit (v := xs (6 * k + 2)) (sx_at (n := 6 * k + 2) (by rw [ev179]; exact nI_add (6 * k) 2) (by omega)) ?_
        refine V2_aload_n (i := 0) d_Lw_law_1135 rfl rfl ?_
        refine V2_iload_n (i := 3) d_Lw_law_1136 rfl rfl ?_
        refine V2_iconst (v := 3) d_Lw_law_1137 rfl ?_
        refine V2_iadd d_Lw_law_1138 ?_
        refine V2_topi (fun v180 ev180 => ?_)
        refine V2_script d_Lw_law_1139 (sx_in (n := 6 * k + 3) (by rw [ev180]; exact nI_add (6 * k) 3) (by omega) hL) ?_
        refine V2_lit (v := xs (6 * k + 3)) (sx_at (n := 6 * k + 3) (by rw [ev180]; exact nI_add (6 * k) 3) (by omega)) ?_
        refine V2_aload_n (i := 0) d_Lw_law_1140 rfl rfl ?_
        refine V2_iload_n (i := 3) d_Lw_law_1141 rfl rfl ?_
        refine V2_iconst (v := 4) d_Lw_law_1142 rfl ?_
        refine V2_iadd d_Lw_law_1143 ?_
        refine V2_topi (fun v181 ev181 => ?_)
        refine V2_script d_Lw_law_1144 (sx_in (n := 6 * k + 4) (by rw [ev181]; exact nI_add (6 * k) 4) (by omega) hL) ?_
        refine V2_lit (v := xs (6 * k + 4)) (sx_at (n := 6 * k + 4) (by rw [ev181]; exact nI_add (6 * k) 4) (by omega)) ?_
        refine V2_aload_n (i := 0) d_Lw_law_1145 rfl rfl ?_
        refine V2_iload_n (i := 3) d_Lw_law_1146 rfl rfl ?_
        refine V2_iconst (v := 5) d_Lw_law_1147 rfl ?_
        refine V2_iadd d_Lw_law_1148 ?_
        refine V2_topi (fun v182 ev182 => ?_)
        refine V2_script d_Lw_law_1149 (sx_in (n := 6 * k + 5) (by rw [ev182]; exact nI_add (6 * k) 5) (by omega) hL) ?_
        refine V2_lit (v := xs (6 * k + 5)) (sx_at (n := 6 * k + 5) (by rw [ev182]; exact nI_add (6 * k) 5) (by omega)) ?_
        refine V2_callV [.int (xs (6 * k + 1)), .int (xs (6 * k + 2)), .int (xs (6 * k + 3)), .int (xs (6 * k + 4)), .int (xs (6 * k + 5))] d_Lw_law_1150 rfl rfl lk_Lw_141 mo_P_move (by decide) rfl rfl rfl (Nat.le_of_ble_eq_true rfl) (Nat.le_of_ble_eq_true rfl) ?_
        obtain ⟨kx, hcx, hmx⟩ := pr_move hR (xs (6 * k + 1)) (xs (6 * k + 2)) (xs (6 * k + 3)) (xs (6 * k + 4)) (xs (6 * k + 5))
        refine hcx _ _ _ _ (fun F1 hM => ?_)
        refine V2_aload_n (i := 2) d_Lw_law_1153 rfl rfl ?_
        refine V2_aload_n (i := 0) d_Lw_law_1154 rfl rfl ?_
        refine V2_iload_n (i := 3) d_Lw_law_1155 rfl rfl ?_
        refine V2_iconst (v := 1) d_Lw_law_1156 rfl ?_
        refine V2_iadd d_Lw_law_1157 ?_
        refine V2_topi (fun v183 ev183 => ?_)
        refine V2_script d_Lw_law_1158 (sx_in (n := 6 * k + 1) (by rw [ev183]; exact nI_add (6 * k) 1) (by omega) hL) ?_
        refine V2_lit (v := xs (6 * k + 1)) (sx_at (n := 6 * k + 1) (by rw [ev183]; exact nI_add (6 * k) 1) (by omega)) ?_
        refine V2_aload_n (i := 0) d_Lw_law_1159 rfl rfl ?_
        refine V2_iload_n (i := 3) d_Lw_law_1160 rfl rfl ?_
        refine V2_iconst (v := 2) d_Lw_law_1161 rfl ?_
        refine V2_iadd d_Lw_law_1162 ?_
        refine V2_topi (fun v184 ev184 => ?_)
        refine V2_script d_Lw_law_1163 (sx_in (n := 6 * k + 2) (by rw [ev184]; exact nI_add (6 * k) 2) (by omega) hL) ?_
        refine V2_lit (v := xs (6 * k + 2)) (sx_at (n := 6 * k + 2) (by rw [ev184]; exact nI_add (6 * k) 2) (by omega)) ?_
        refine V2_aload_n (i := 0) d_Lw_law_1164 rfl rfl ?_
        refine V2_iload_n (i := 3) d_Lw_law_1165 rfl rfl ?_
        refine V2_iconst (v := 3) d_Lw_law_1166 rfl ?_
        refine V2_iadd d_Lw_law_1167 ?_
        refine V2_topi (fun v185 ev185 => ?_)
        refine V2_script d_Lw_law_1168 (sx_in (n := 6 * k + 3) (by rw [ev185]; exact nI_add (6 * k) 3) (by omega) hL) ?_
        refine V2_lit (v := xs (6 * k + 3)) (sx_at (n := 6 * k + 3) (by rw [ev185]; exact nI_add (6 * k) 3) (by omega)) ?_
        refine V2_aload_n (i := 0) d_Lw_law_1169 rfl rfl ?_
        refine V2_iload_n (i := 3) d_Lw_law_1170 rfl rfl ?_
        refine V2_iconst (v := 4) d_Lw_law_1171 rfl ?_
        refine V2_iadd d_Lw_law_1172 ?_
        refine V2_topi (fun v186 ev186 => ?_)
        refine V2_script d_Lw_law_1173 (sx_in (n := 6 * k + 4) (by rw [ev186]; exact nI_add (6 * k) 4) (by omega) hL) ?_
        refine V2_lit (v := xs (6 * k + 4)) (sx_at (n := 6 * k + 4) (by rw [ev186]; exact nI_add (6 * k) 4) (by omega)) ?_
        refine V2_aload_n (i := 0) d_Lw_law_1174 rfl rfl ?_
        refine V2_iload_n (i := 3) d_Lw_law_1175 rfl rfl ?_
        refine V2_iconst (v := 5) d_Lw_law_1176 rfl ?_
        refine V2_iadd d_Lw_law_1177 ?_
        refine V2_topi (fun v187 ev187 => ?_)
        refine V2_script d_Lw_law_1178 (sx_in (n := 6 * k + 5) (by rw [ev187]; exact nI_add (6 * k) 5) (by omega) hL) ?_
        refine V2_lit (v := xs (6 * k + 5)) (sx_at (n := 6 * k + 5) (by rw [ev187]; exact nI_add (6 * k) 5) (by omega)) ?_
        refine V2_callV [.int (xs (6 * k + 1)), .int (xs (6 * k + 2)), .int (xs (6 * k + 3)), .int (xs (6 * k + 4)), .int (xs (6 * k + 5))] d_Lw_law_1179 rfl rfl lk_Lw_145 mo_R_move (by decide) rfl rfl rfl (Nat.le_of_ble_eq_true rfl) (Nat.le_of_ble_eq_true rfl) ?_
        refine hmx _ _ _ _ F1 hM (fun F2 hR2 => ?_)
        refine V2_icmp_eq (tgt := 1341) d_Lw_law_1182 rfl (fun c188 => ?_) (fun c188 => (by first | exact absurd (rfl : kx.1 = kx.1) c188 | exact absurd c188 (rfl : kx.1 = kx.1)))
        obtain ⟨v189, ev189⟩ : ∃ y : Int32, y = nI (6 * k) + 6 := ⟨_, rfl⟩
        refine V2_iinc (i := 3) (v := v189) (l' := [some (.ref 1000000), some (.ref 0), some (.ref 65), some (.int v189)]) d_Lw_law_1341 rfl (by rw [ev189]; rfl) (xst_r (Nat.le_of_ble_eq_true rfl) rfl rfl) ?_
        refine V2_goto (tgt := 18) d_Lw_law_1344 rfl ?_
        exact V2.to (ih (k + 1) F2 hR2 (by omega) (by omega)) rfl (by rw [ev189, nI_6]) rfl rfl
      by_cases c5_31 : v4 = 31
      · refine V2_tableIn (tgt := 1187) (off := 1154) d_Lw_law_33 (by rw [c5_31]; decide) (by rw [c5_31]; decide) (by rw [c5_31]; decide) rfl ?_
        refine V2_aload_n (i := 1) d_Lw_law_1187 rfl rfl ?_
        refine V2_aload_n (i := 0) d_Lw_law_1188 rfl rfl ?_
        refine V2_iload_n (i := 3) d_Lw_law_1189 rfl rfl ?_
        refine V2_iconst (v := 1) d_Lw_law_1190 rfl ?_
        refine V2_iadd d_Lw_law_1191 ?_
        refine V2_topi (fun v190 ev190 => ?_)
        refine V2_script d_Lw_law_1192 (sx_in (n := 6 * k + 1) (by rw [ev190]; exact nI_add (6 * k) 1) (by omega) hL) ?_
        refine V2_lit (v := xs (6 * k + 1)) (sx_at (n := 6 * k + 1) (by rw [ev190]; exact nI_add (6 * k) 1) (by omega)) ?_
        refine V2_callV [.int (xs (6 * k + 1))] d_Lw_law_1193 rfl rfl lk_Lw_146 mo_P_levels (by decide) rfl rfl rfl (Nat.le_of_ble_eq_true rfl) (Nat.le_of_ble_eq_true rfl) ?_
        obtain ⟨kx, hcx, hmx⟩ := pr_levels hR (xs (6 * k + 1))
        refine hcx _ _ _ _ (fun F1 hM => ?_)
        refine V2_aload_n (i := 2) d_Lw_law_1196 rfl rfl ?_
        refine V2_aload_n (i := 0) d_Lw_law_1197 rfl rfl ?_
        refine V2_iload_n (i := 3) d_Lw_law_1198 rfl rfl ?_
        refine V2_iconst (v := 1) d_Lw_law_1199 rfl ?_
        refine V2_iadd d_Lw_law_1200 ?_
        refine V2_topi (fun v191 ev191 => ?_)
        refine V2_script d_Lw_law_1201 (sx_in (n := 6 * k + 1) (by rw [ev191]; exact nI_add (6 * k) 1) (by omega) hL) ?_
        refine V2_lit (v := xs (6 * k + 1)) (sx_at (n := 6 * k + 1) (by rw [ev191]; exact nI_add (6 * k) 1) (by omega)) ?_
        refine V2_callV [.int (xs (6 * k + 1))] d_Lw_law_1202 rfl rfl lk_Lw_149 mo_R_levels (by decide) rfl rfl rfl (Nat.le_of_ble_eq_true rfl) (Nat.le_of_ble_eq_true rfl) ?_
        refine hmx _ _ _ _ F1 hM (fun F2 hR2 => ?_)
        refine V2_icmp_eq (tgt := 1341) d_Lw_law_1205 rfl (fun c192 => ?_) (fun c192 => (by first | exact absurd (rfl : kx.1 = kx.1) c192 | exact absurd c192 (rfl : kx.1 = kx.1)))
        obtain ⟨v193, ev193⟩ : ∃ y : Int32, y = nI (6 * k) + 6 := ⟨_, rfl⟩
        refine V2_iinc (i := 3) (v := v193) (l' := [some (.ref 1000000), some (.ref 0), some (.ref 65), some (.int v193)]) d_Lw_law_1341 rfl (by rw [ev193]; rfl) (xst_r (Nat.le_of_ble_eq_true rfl) rfl rfl) ?_
        refine V2_goto (tgt := 18) d_Lw_law_1344 rfl ?_
        exact V2.to (ih (k + 1) F2 hR2 (by omega) (by omega)) rfl (by rw [ev193, nI_6]) rfl rfl
      by_cases c5_32 : v4 = 32
      · refine V2_tableIn (tgt := 1210) (off := 1177) d_Lw_law_33 (by rw [c5_32]; decide) (by rw [c5_32]; decide) (by rw [c5_32]; decide) rfl ?_
        refine V2_aload_n (i := 1) d_Lw_law_1210 rfl rfl ?_
        refine V2_aload_n (i := 0) d_Lw_law_1211 rfl rfl ?_
        refine V2_iload_n (i := 3) d_Lw_law_1212 rfl rfl ?_
        refine V2_iconst (v := 1) d_Lw_law_1213 rfl ?_
        refine V2_iadd d_Lw_law_1214 ?_
        refine V2_topi (fun v194 ev194 => ?_)
        refine V2_script d_Lw_law_1215 (sx_in (n := 6 * k + 1) (by rw [ev194]; exact nI_add (6 * k) 1) (by omega) hL) ?_
        refine V2_lit (v := xs (6 * k + 1)) (sx_at (n := 6 * k + 1) (by rw [ev194]; exact nI_add (6 * k) 1) (by omega)) ?_
        refine V2_callV [.int (xs (6 * k + 1))] d_Lw_law_1216 rfl rfl lk_Lw_150 mo_P_judge (by decide) rfl rfl rfl (Nat.le_of_ble_eq_true rfl) (Nat.le_of_ble_eq_true rfl) ?_
        obtain ⟨kx, hcx, hmx⟩ := pr_judge hR (xs (6 * k + 1))
        refine hcx _ _ _ _ (fun F1 hM => ?_)
        refine V2_aload_n (i := 2) d_Lw_law_1219 rfl rfl ?_
        refine V2_aload_n (i := 0) d_Lw_law_1220 rfl rfl ?_
        refine V2_iload_n (i := 3) d_Lw_law_1221 rfl rfl ?_
        refine V2_iconst (v := 1) d_Lw_law_1222 rfl ?_
        refine V2_iadd d_Lw_law_1223 ?_
        refine V2_topi (fun v195 ev195 => ?_)
        refine V2_script d_Lw_law_1224 (sx_in (n := 6 * k + 1) (by rw [ev195]; exact nI_add (6 * k) 1) (by omega) hL) ?_
        refine V2_lit (v := xs (6 * k + 1)) (sx_at (n := 6 * k + 1) (by rw [ev195]; exact nI_add (6 * k) 1) (by omega)) ?_
        refine V2_callV [.int (xs (6 * k + 1))] d_Lw_law_1225 rfl rfl lk_Lw_153 mo_R_judge (by decide) rfl rfl rfl (Nat.le_of_ble_eq_true rfl) (Nat.le_of_ble_eq_true rfl) ?_
        refine hmx _ _ _ _ F1 hM (fun F2 hR2 => ?_)
        refine V2_icmp_eq (tgt := 1341) d_Lw_law_1228 rfl (fun c196 => ?_) (fun c196 => (by first | exact absurd (rfl : kx.1 = kx.1) c196 | exact absurd c196 (rfl : kx.1 = kx.1)))
        obtain ⟨v197, ev197⟩ : ∃ y : Int32, y = nI (6 * k) + 6 := ⟨_, rfl⟩
        refine V2_iinc (i := 3) (v := v197) (l' := [some (.ref 1000000), some (.ref 0), some (.ref 65), some (.int v197)]) d_Lw_law_1341 rfl (by rw [ev197]; rfl) (xst_r (Nat.le_of_ble_eq_true rfl) rfl rfl) ?_
        refine V2_goto (tgt := 18) d_Lw_law_1344 rfl ?_
        exact V2.to (ih (k + 1) F2 hR2 (by omega) (by omega)) rfl (by rw [ev197, nI_6]) rfl rfl
      by_cases c5_33 : v4 = 33
      · refine V2_tableIn (tgt := 1233) (off := 1200) d_Lw_law_33 (by rw [c5_33]; decide) (by rw [c5_33]; decide) (by rw [c5_33]; decide) rfl ?_
        refine V2_aload_n (i := 1) d_Lw_law_1233 rfl rfl ?_
        refine V2_callV [] d_Lw_law_1234 rfl rfl lk_Lw_154 mo_P_image (by decide) rfl rfl rfl (Nat.le_of_ble_eq_true rfl) (Nat.le_of_ble_eq_true rfl) ?_
        obtain ⟨kx, hcx, hmx⟩ := pr_image hR 
        refine hcx _ _ _ _ (fun F1 hM => ?_)
        refine V2_aload_n (i := 2) d_Lw_law_1237 rfl rfl ?_
        refine V2_callV [] d_Lw_law_1238 rfl rfl lk_Lw_157 mo_R_image (by decide) rfl rfl rfl (Nat.le_of_ble_eq_true rfl) (Nat.le_of_ble_eq_true rfl) ?_
        refine hmx _ _ _ _ F1 hM (fun F2 hR2 => ?_)
        refine V2_icmp_eq (tgt := 1341) d_Lw_law_1241 rfl (fun c198 => ?_) (fun c198 => (by first | exact absurd (rfl : kx.1 = kx.1) c198 | exact absurd c198 (rfl : kx.1 = kx.1)))
        obtain ⟨v199, ev199⟩ : ∃ y : Int32, y = nI (6 * k) + 6 := ⟨_, rfl⟩
        refine V2_iinc (i := 3) (v := v199) (l' := [some (.ref 1000000), some (.ref 0), some (.ref 65), some (.int v199)]) d_Lw_law_1341 rfl (by rw [ev199]; rfl) (xst_r (Nat.le_of_ble_eq_true rfl) rfl rfl) ?_
        refine V2_goto (tgt := 18) d_Lw_law_1344 rfl ?_
        exact V2.to (ih (k + 1) F2 hR2 (by omega) (by omega)) rfl (by rw [ev199, nI_6]) rfl rfl
      by_cases c5_34 : v4 = 34
      · refine V2_tableIn (tgt := 1246) (off := 1213) d_Lw_law_33 (by rw [c5_34]; decide) (by rw [c5_34]; decide) (by rw [c5_34]; decide) rfl ?_
        refine V2_aload_n (i := 1) d_Lw_law_1246 rfl rfl ?_
        refine V2_callV [] d_Lw_law_1247 rfl rfl lk_Lw_158 mo_P_restore (by decide) rfl rfl rfl (Nat.le_of_ble_eq_true rfl) (Nat.le_of_ble_eq_true rfl) ?_
        obtain ⟨kx, hcx, hmx⟩ := pr_restore hR 
        refine hcx _ _ _ _ (fun F1 hM => ?_)
        refine V2_aload_n (i := 2) d_Lw_law_1250 rfl rfl ?_
        refine V2_callV [] d_Lw_law_1251 rfl rfl lk_Lw_161 mo_R_restore (by decide) rfl rfl rfl (Nat.le_of_ble_eq_true rfl) (Nat.le_of_ble_eq_true rfl) ?_
        refine hmx _ _ _ _ F1 hM (fun F2 hR2 => ?_)
        refine V2_icmp_eq (tgt := 1341) d_Lw_law_1254 rfl (fun c200 => ?_) (fun c200 => (by first | exact absurd (rfl : kx.1 = kx.1) c200 | exact absurd c200 (rfl : kx.1 = kx.1)))
        obtain ⟨v201, ev201⟩ : ∃ y : Int32, y = nI (6 * k) + 6 := ⟨_, rfl⟩
        refine V2_iinc (i := 3) (v := v201) (l' := [some (.ref 1000000), some (.ref 0), some (.ref 65), some (.int v201)]) d_Lw_law_1341 rfl (by rw [ev201]; rfl) (xst_r (Nat.le_of_ble_eq_true rfl) rfl rfl) ?_
        refine V2_goto (tgt := 18) d_Lw_law_1344 rfl ?_
        exact V2.to (ih (k + 1) F2 hR2 (by omega) (by omega)) rfl (by rw [ev201, nI_6]) rfl rfl
      by_cases c5_35 : v4 = 35
      · refine V2_tableIn (tgt := 1259) (off := 1226) d_Lw_law_33 (by rw [c5_35]; decide) (by rw [c5_35]; decide) (by rw [c5_35]; decide) rfl ?_
        refine V2_aload_n (i := 1) d_Lw_law_1259 rfl rfl ?_
        refine V2_aload_n (i := 0) d_Lw_law_1260 rfl rfl ?_
        refine V2_iload_n (i := 3) d_Lw_law_1261 rfl rfl ?_
        refine V2_iconst (v := 1) d_Lw_law_1262 rfl ?_
        refine V2_iadd d_Lw_law_1263 ?_
        refine V2_topi (fun v202 ev202 => ?_)
        refine V2_script d_Lw_law_1264 (sx_in (n := 6 * k + 1) (by rw [ev202]; exact nI_add (6 * k) 1) (by omega) hL) ?_
        refine V2_lit (v := xs (6 * k + 1)) (sx_at (n := 6 * k + 1) (by rw [ev202]; exact nI_add (6 * k) 1) (by omega)) ?_
        refine V2_callV [.int (xs (6 * k + 1))] d_Lw_law_1265 rfl rfl lk_Lw_162 mo_P_tell (by decide) rfl rfl rfl (Nat.le_of_ble_eq_true rfl) (Nat.le_of_ble_eq_true rfl) ?_
        obtain ⟨kx, hcx, hmx⟩ := pr_tell hR (xs (6 * k + 1))
        refine hcx _ _ _ _ (fun F1 hM => ?_)
        refine V2_aload_n (i := 2) d_Lw_law_1268 rfl rfl ?_
        refine V2_aload_n (i := 0) d_Lw_law_1269 rfl rfl ?_
        refine V2_iload_n (i := 3) d_Lw_law_1270 rfl rfl ?_
        refine V2_iconst (v := 1) d_Lw_law_1271 rfl ?_
        refine V2_iadd d_Lw_law_1272 ?_
        refine V2_topi (fun v203 ev203 => ?_)
        refine V2_script d_Lw_law_1273 (sx_in (n := 6 * k + 1) (by rw [ev203]; exact nI_add (6 * k) 1) (by omega) hL) ?_
        refine V2_lit (v := xs (6 * k + 1)) (sx_at (n := 6 * k + 1) (by rw [ev203]; exact nI_add (6 * k) 1) (by omega)) ?_
        refine V2_callV [.int (xs (6 * k + 1))] d_Lw_law_1274 rfl rfl lk_Lw_165 mo_R_tell (by decide) rfl rfl rfl (Nat.le_of_ble_eq_true rfl) (Nat.le_of_ble_eq_true rfl) ?_
        refine hmx _ _ _ _ F1 hM (fun F2 hR2 => ?_)
        refine V2_icmp_eq (tgt := 1341) d_Lw_law_1277 rfl (fun c204 => ?_) (fun c204 => (by first | exact absurd (rfl : kx.1 = kx.1) c204 | exact absurd c204 (rfl : kx.1 = kx.1)))
        obtain ⟨v205, ev205⟩ : ∃ y : Int32, y = nI (6 * k) + 6 := ⟨_, rfl⟩
        refine V2_iinc (i := 3) (v := v205) (l' := [some (.ref 1000000), some (.ref 0), some (.ref 65), some (.int v205)]) d_Lw_law_1341 rfl (by rw [ev205]; rfl) (xst_r (Nat.le_of_ble_eq_true rfl) rfl rfl) ?_
        refine V2_goto (tgt := 18) d_Lw_law_1344 rfl ?_
        exact V2.to (ih (k + 1) F2 hR2 (by omega) (by omega)) rfl (by rw [ev205, nI_6]) rfl rfl
      by_cases c5_36 : v4 = 36
      · refine V2_tableIn (tgt := 1282) (off := 1249) d_Lw_law_33 (by rw [c5_36]; decide) (by rw [c5_36]; decide) (by rw [c5_36]; decide) rfl ?_
        refine V2_aload_n (i := 1) d_Lw_law_1282 rfl rfl ?_
        refine V2_callV [] d_Lw_law_1283 rfl rfl lk_Lw_166 mo_P_check (by decide) rfl rfl rfl (Nat.le_of_ble_eq_true rfl) (Nat.le_of_ble_eq_true rfl) ?_
        obtain ⟨kx, hcx, hmx⟩ := pr_check hR 
        refine hcx _ _ _ _ (fun F1 hM => ?_)
        refine V2_aload_n (i := 2) d_Lw_law_1286 rfl rfl ?_
        refine V2_callV [] d_Lw_law_1287 rfl rfl lk_Lw_169 mo_R_check (by decide) rfl rfl rfl (Nat.le_of_ble_eq_true rfl) (Nat.le_of_ble_eq_true rfl) ?_
        refine hmx _ _ _ _ F1 hM (fun F2 hR2 => ?_)
        refine V2_icmp_eq (tgt := 1341) d_Lw_law_1290 rfl (fun c206 => ?_) (fun c206 => (by first | exact absurd (rfl : kx.1 = kx.1) c206 | exact absurd c206 (rfl : kx.1 = kx.1)))
        obtain ⟨v207, ev207⟩ : ∃ y : Int32, y = nI (6 * k) + 6 := ⟨_, rfl⟩
        refine V2_iinc (i := 3) (v := v207) (l' := [some (.ref 1000000), some (.ref 0), some (.ref 65), some (.int v207)]) d_Lw_law_1341 rfl (by rw [ev207]; rfl) (xst_r (Nat.le_of_ble_eq_true rfl) rfl rfl) ?_
        refine V2_goto (tgt := 18) d_Lw_law_1344 rfl ?_
        exact V2.to (ih (k + 1) F2 hR2 (by omega) (by omega)) rfl (by rw [ev207, nI_6]) rfl rfl
      by_cases c5_37 : v4 = 37
      · refine V2_tableIn (tgt := 1295) (off := 1262) d_Lw_law_33 (by rw [c5_37]; decide) (by rw [c5_37]; decide) (by rw [c5_37]; decide) rfl ?_
        refine V2_aload_n (i := 1) d_Lw_law_1295 rfl rfl ?_
        refine V2_aload_n (i := 0) d_Lw_law_1296 rfl rfl ?_
        refine V2_iload_n (i := 3) d_Lw_law_1297 rfl rfl ?_
        refine V2_iconst (v := 1) d_Lw_law_1298 rfl ?_
        refine V2_iadd d_Lw_law_1299 ?_
        refine V2_topi (fun v208 ev208 => ?_)
        refine V2_script d_Lw_law_1300 (sx_in (n := 6 * k + 1) (by rw [ev208]; exact nI_add (6 * k) 1) (by omega) hL) ?_
        refine V2_lit (v := xs (6 * k + 1)) (sx_at (n := 6 * k + 1) (by rw [ev208]; exact nI_add (6 * k) 1) (by omega)) ?_
        refine V2_callV [.int (xs (6 * k + 1))] d_Lw_law_1301 rfl rfl lk_Lw_170 mo_P_count (by decide) rfl rfl rfl (Nat.le_of_ble_eq_true rfl) (Nat.le_of_ble_eq_true rfl) ?_
        obtain ⟨kx, hcx, hmx⟩ := pr_count hR (xs (6 * k + 1))
        refine hcx _ _ _ _ (fun F1 hM => ?_)
        refine V2_aload_n (i := 2) d_Lw_law_1304 rfl rfl ?_
        refine V2_aload_n (i := 0) d_Lw_law_1305 rfl rfl ?_
        refine V2_iload_n (i := 3) d_Lw_law_1306 rfl rfl ?_
        refine V2_iconst (v := 1) d_Lw_law_1307 rfl ?_
        refine V2_iadd d_Lw_law_1308 ?_
        refine V2_topi (fun v209 ev209 => ?_)
        refine V2_script d_Lw_law_1309 (sx_in (n := 6 * k + 1) (by rw [ev209]; exact nI_add (6 * k) 1) (by omega) hL) ?_
        refine V2_lit (v := xs (6 * k + 1)) (sx_at (n := 6 * k + 1) (by rw [ev209]; exact nI_add (6 * k) 1) (by omega)) ?_
        refine V2_callV [.int (xs (6 * k + 1))] d_Lw_law_1310 rfl rfl lk_Lw_173 mo_R_count (by decide) rfl rfl rfl (Nat.le_of_ble_eq_true rfl) (Nat.le_of_ble_eq_true rfl) ?_
        refine hmx _ _ _ _ F1 hM (fun F2 hR2 => ?_)
        refine V2_icmp_eq (tgt := 1341) d_Lw_law_1313 rfl (fun c210 => ?_) (fun c210 => (by first | exact absurd (rfl : kx.1 = kx.1) c210 | exact absurd c210 (rfl : kx.1 = kx.1)))
        obtain ⟨v211, ev211⟩ : ∃ y : Int32, y = nI (6 * k) + 6 := ⟨_, rfl⟩
        refine V2_iinc (i := 3) (v := v211) (l' := [some (.ref 1000000), some (.ref 0), some (.ref 65), some (.int v211)]) d_Lw_law_1341 rfl (by rw [ev211]; rfl) (xst_r (Nat.le_of_ble_eq_true rfl) rfl rfl) ?_
        refine V2_goto (tgt := 18) d_Lw_law_1344 rfl ?_
        exact V2.to (ih (k + 1) F2 hR2 (by omega) (by omega)) rfl (by rw [ev211, nI_6]) rfl rfl
      by_cases c5_38 : v4 = 38
      · refine V2_tableIn (tgt := 1318) (off := 1285) d_Lw_law_33 (by rw [c5_38]; decide) (by rw [c5_38]; decide) (by rw [c5_38]; decide) rfl ?_
        refine V2_aload_n (i := 1) d_Lw_law_1318 rfl rfl ?_
        refine V2_aload_n (i := 0) d_Lw_law_1319 rfl rfl ?_
        refine V2_iload_n (i := 3) d_Lw_law_1320 rfl rfl ?_
        refine V2_iconst (v := 1) d_Lw_law_1321 rfl ?_
        refine V2_iadd d_Lw_law_1322 ?_
        refine V2_topi (fun v212 ev212 => ?_)
        refine V2_script d_Lw_law_1323 (sx_in (n := 6 * k + 1) (by rw [ev212]; exact nI_add (6 * k) 1) (by omega) hL) ?_
        refine V2_lit (v := xs (6 * k + 1)) (sx_at (n := 6 * k + 1) (by rw [ev212]; exact nI_add (6 * k) 1) (by omega)) ?_
        refine V2_callV [.int (xs (6 * k + 1))] d_Lw_law_1324 rfl rfl lk_Lw_174 mo_P_told (by decide) rfl rfl rfl (Nat.le_of_ble_eq_true rfl) (Nat.le_of_ble_eq_true rfl) ?_
        obtain ⟨kx, hcx, hmx⟩ := pr_told hR (xs (6 * k + 1))
        refine hcx _ _ _ _ (fun F1 hM => ?_)
        refine V2_aload_n (i := 2) d_Lw_law_1327 rfl rfl ?_
        refine V2_aload_n (i := 0) d_Lw_law_1328 rfl rfl ?_
        refine V2_iload_n (i := 3) d_Lw_law_1329 rfl rfl ?_
        refine V2_iconst (v := 1) d_Lw_law_1330 rfl ?_
        refine V2_iadd d_Lw_law_1331 ?_
        refine V2_topi (fun v213 ev213 => ?_)
        refine V2_script d_Lw_law_1332 (sx_in (n := 6 * k + 1) (by rw [ev213]; exact nI_add (6 * k) 1) (by omega) hL) ?_
        refine V2_lit (v := xs (6 * k + 1)) (sx_at (n := 6 * k + 1) (by rw [ev213]; exact nI_add (6 * k) 1) (by omega)) ?_
        refine V2_callV [.int (xs (6 * k + 1))] d_Lw_law_1333 rfl rfl lk_Lw_177 mo_R_told (by decide) rfl rfl rfl (Nat.le_of_ble_eq_true rfl) (Nat.le_of_ble_eq_true rfl) ?_
        refine hmx _ _ _ _ F1 hM (fun F2 hR2 => ?_)
        refine V2_icmp_eq (tgt := 1341) d_Lw_law_1336 rfl (fun c214 => ?_) (fun c214 => (by first | exact absurd (rfl : kx.1 = kx.1) c214 | exact absurd c214 (rfl : kx.1 = kx.1)))
        obtain ⟨v215, ev215⟩ : ∃ y : Int32, y = nI (6 * k) + 6 := ⟨_, rfl⟩
        refine V2_iinc (i := 3) (v := v215) (l' := [some (.ref 1000000), some (.ref 0), some (.ref 65), some (.int v215)]) d_Lw_law_1341 rfl (by rw [ev215]; rfl) (xst_r (Nat.le_of_ble_eq_true rfl) rfl rfl) ?_
        refine V2_goto (tgt := 18) d_Lw_law_1344 rfl ?_
        exact V2.to (ih (k + 1) F2 hR2 (by omega) (by omega)) rfl (by rw [ev215, nI_6]) rfl rfl
      refine V2_tableOut (tgt := 1341) d_Lw_law_33 (by have := lv_neT (a := 0) c5_0 rfl; have := lv_neT (a := 1) c5_1 rfl; have := lv_neT (a := 2) c5_2 rfl; have := lv_neT (a := 3) c5_3 rfl; have := lv_neT (a := 4) c5_4 rfl; have := lv_neT (a := 5) c5_5 rfl; have := lv_neT (a := 6) c5_6 rfl; have := lv_neT (a := 7) c5_7 rfl; have := lv_neT (a := 8) c5_8 rfl; have := lv_neT (a := 9) c5_9 rfl; have := lv_neT (a := 10) c5_10 rfl; have := lv_neT (a := 11) c5_11 rfl; have := lv_neT (a := 12) c5_12 rfl; have := lv_neT (a := 13) c5_13 rfl; have := lv_neT (a := 14) c5_14 rfl; have := lv_neT (a := 15) c5_15 rfl; have := lv_neT (a := 16) c5_16 rfl; have := lv_neT (a := 17) c5_17 rfl; have := lv_neT (a := 18) c5_18 rfl; have := lv_neT (a := 19) c5_19 rfl; have := lv_neT (a := 20) c5_20 rfl; have := lv_neT (a := 21) c5_21 rfl; have := lv_neT (a := 22) c5_22 rfl; have := lv_neT (a := 23) c5_23 rfl; have := lv_neT (a := 24) c5_24 rfl; have := lv_neT (a := 25) c5_25 rfl; have := lv_neT (a := 26) c5_26 rfl; have := lv_neT (a := 27) c5_27 rfl; have := lv_neT (a := 28) c5_28 rfl; have := lv_neT (a := 29) c5_29 rfl; have := lv_neT (a := 30) c5_30 rfl; have := lv_neT (a := 31) c5_31 rfl; have := lv_neT (a := 32) c5_32 rfl; have := lv_neT (a := 33) c5_33 rfl; have := lv_neT (a := 34) c5_34 rfl; have := lv_neT (a := 35) c5_35 rfl; have := lv_neT (a := 36) c5_36 rfl; have := lv_neT (a := 37) c5_37 rfl; have := lv_neT (a := 38) c5_38 rfl; omega) rfl ?_
      obtain ⟨v216, ev216⟩ : ∃ y : Int32, y = nI (6 * k) + 6 := ⟨_, rfl⟩
      refine V2_iinc (i := 3) (v := v216) (l' := [some (.ref 1000000), some (.ref 0), some (.ref 65), some (.int v216)]) d_Lw_law_1341 rfl (by rw [ev216]; rfl) (xst_r (Nat.le_of_ble_eq_true rfl) rfl rfl) ?_
      refine V2_goto (tgt := 18) d_Lw_law_1344 rfl ?_
      exact V2.to (ih (k + 1) F hR (by omega) (by omega)) rfl (by rw [ev216, nI_6]) rfl rfl
theorem law_end {L : Nat} {xs : Nat → Int32} {d : Nat} (hL : L ≤ 3072) : V (d + 101) 74 2349 m_Lw_law 0 (xEntry [.ref 1000000] 4) [] ((0, 0), xKi L, xfi xs) (fun r h => r = some (.int 1) ∧ h.1 = (74, 2349)) := by
  refine law_made (d := d + 97) (fun F e => ?_)
  subst e
  refine V.mono (Q := yQ L xs (fun r _ => r = some (.int 1))) (c_law_loop (L := L) (xs := xs) (d := d) (Q := fun r _ => r = some (.int 1)) hL (fun _ => rfl) (L + 1) 0 xF00 rel0 (by omega) (by omega)) (fun r h hq => ?_)
  obtain ⟨r', F', e1, rfl, hr⟩ := hq
  subst hr
  exact ⟨e1, rfl⟩
