abbrev mL_law : jI := (yL_law, cL_law, 9, some .boolean)
theorem ms_km {P D n : Nat} {F O : Nat → Nat} {tl : Nat} {tb : Nat → Nat} {fa tr wh : Int} {M M' : jM} (hc : KM M M') (h : MS P D n F O tl tb fa tr wh M) : MS P D n F O tl tb fa tr wh M' := by
  unfold MS MR at h ⊢
  rw [hc 23 (by decide), hc 24 (by decide), hc 25 (by decide), hc 26 (by decide)]
  exact h
theorem ks_cm {P D n : Nat} {F O : Nat → Nat} {tl : Nat} {tb : Nat → Nat} {fa tr wh : Int} {M M' : jM} (hc : CM M M') (h : KS P D n F O tl tb fa tr wh M) : KS P D n F O tl tb fa tr wh M' := by
  have e : ∀ k : Nat, k < 23 → M' k = M k := fun k hk => hc k (Or.inl hk)
  unfold KS KR KF KT CC OQ ORD SQ SHD MI bitB at h ⊢
  simp only [e 0 (by decide), e 1 (by decide), e 2 (by decide), e 4 (by decide), e 5 (by decide), e 6 (by decide), e 7 (by decide), e 8 (by decide), e 10 (by decide), e 12 (by decide), e 16 (by decide), e 17 (by decide), e 18 (by decide), e 19 (by decide), e 20 (by decide), e 21 (by decide), e 22 (by decide)]
  exact h
def trR (t : Int) : Prop := 0 ≤ t ∧ t ≤ 9
theorem trR_R {t : Int} (h : trR t) : -2147483648 ≤ t ∧ t < 2147483648 := ⟨by have := h.1; omega, by have := h.2; omega⟩
theorem tr_u1 (b : Bool) : trR (u1 b) := by cases b <;> exact ⟨by decide, by decide⟩
theorem tr_u2 (b c : Bool) : trR (u2 b c) := by cases b <;> cases c <;> exact ⟨by decide, by decide⟩
theorem tr_n {t : Int} (h : t = 0 ∨ t = 1 ∨ t = 2 ∨ t = 3 ∨ t = 4 ∨ t = 5) : trR t := ⟨by omega, by omega⟩
theorem tr_lkW (P n : Nat) (F : Nat → Nat) (i : Int) : trR (lkW P n F i) := by
  unfold lkW
  split
  · exact ⟨by decide, by decide⟩
  · split
    · exact ⟨by decide, by decide⟩
    · split <;> exact ⟨by decide, by decide⟩
theorem tr_tLR (P D n : Nat) (F : Nat → Nat) (i k : Int) : trR (tLR P D n F i k) := by
  unfold tLR
  split
  · split <;> exact ⟨by decide, by decide⟩
  · exact tr_lkW P n F i
theorem tr_tAd (P D n : Nat) (F : Nat → Nat) (i : Int) : trR (tAd P D n F i) := by
  unfold tAd
  split
  · split
    · split
      · exact ⟨by decide, by decide⟩
      · split <;> exact ⟨by decide, by decide⟩
    · exact ⟨by decide, by decide⟩
  · exact ⟨by decide, by decide⟩
theorem tr_tDr (n : Nat) (i : Int) : trR (tDr n i) := by
  unfold tDr
  split
  · split <;> exact ⟨by decide, by decide⟩
  · exact ⟨by decide, by decide⟩
theorem tr_tPe (n : Nat) : trR (tPe n) := by
  unfold tPe
  split
  · split <;> exact ⟨by decide, by decide⟩
  · exact ⟨by decide, by decide⟩
theorem tr_tLa (n : Nat) (F : Nat → Nat) : trR (tLa n F) := by
  unfold tLa
  split
  · split <;> exact ⟨by decide, by decide⟩
  · exact ⟨by decide, by decide⟩
/-- the class and the reference hold one complex, one tape, one trouble -/
def SY (M : jM) : Prop := ∃ (P D n : Nat) (F O : Nat → Nat) (tl : Nat) (tb : Nat → Nat) (fa tr wh : Int), MS P D n F O tl tb fa tr wh M ∧ KS P D n F O tl tb fa tr wh M ∧ trR tr
def lwL (i : Nat) : List jV := [(5, 0), (10, 0), (33, 0), (47, 0), (0, (i : Int)), (9, 0), (9, 0), (9, 0), (9, 0)]
def lwE (i : Nat) : jX := fun pc L st M => pc = 1636 ∧ L = lwL i ∧ st = [] ∧ SY M
theorem cx_one {P D n : Nat} {F O : Nat → Nat} {tl : Nat} {tb : Nat → Nat} {fa i z z' : Int} {M M' : jM} {St St' : Nat → Nat → Nat → (Nat → Nat) → (Nat → Nat) → Nat → Int → Int → Int → jM → Prop} (h : CxQ St P D n F O tl tb fa i z M) (h' : CxQ St' P D n F O tl tb fa i z' M') : z = z' ∧ ∃ (P D n : Nat) (F O : Nat → Nat) (tl : Nat) (fa tr wh : Int), St P D n F O tl fa tr wh M ∧ St' P D n F O tl fa tr wh M' ∧ trR tr := by
  unfold CxQ at h h'
  split at h
  · rename_i hr
    rw [if_pos hr] at h'
    match e : cxR i.toNat tb with
    | .inl (f, p) =>
      rw [e] at h h'
      exact ⟨h.1.trans h'.1.symm, _, _, _, _, _, _, _, _, _, h.2, h'.2, by decide, by decide⟩
    | .inr (s, P', D', m', R') =>
      rw [e] at h h'
      exact ⟨h.1.trans h'.1.symm, _, _, _, _, _, _, _, _, _, h.2, h'.2, by decide, by decide⟩
  · rename_i hr
    rw [if_neg hr] at h'
    exact ⟨h.1.trans h'.1.symm, _, _, _, _, _, _, _, _, _, h.2, h'.2, by decide, by decide⟩
theorem mn_eq {P D n : Nat} {F O : Nat → Nat} (h : WF P D n F O) : Op.cmpValue (FP.dcmp (UInt64.ofNat (A_mean n F O).toNat) (UInt64.ofNat (A_mean n F O).toNat)) .l = Int32.ofInt 0 := by
  have key : (dEQ (UInt64.ofNat (A_mean n F O).toNat) .l && dEQ (UInt64.ofNat (A_mean n F O).toNat) .g) = true := by
    unfold A_mean
    by_cases h0 : bT n = true
    · rw [if_pos h0]
      have hn := bT_n h0
      have h1 := mnS_le h (Nat.le_refl n)
      have h2 := h.2.2.1
      have h3 := dEQ_all (mnS n F O) (by omega) (n - 1) (by omega)
      rw [show n - 1 + 1 = n by omega] at h3
      unfold j_ddiv
      rw [j_u64]
      exact h3
    · rw [if_neg h0]
      exact dEQ_m1
  rw [Bool.and_eq_true] at key
  exact of_decide_eq_true key.1
section LWC
variable {N : Nat} {xs : Nat → Int} {i : Nat} {M : jM}
set_option maxRecDepth 100000 in
set_option maxHeartbeats 4000000 in
theorem lwc_feed (hN : N ≤ 3072) (hx : ∀ j, -2147483648 ≤ xs j ∧ xs j < 2147483648) (hi : i + 6 ≤ N) (hs : SY M) : J (some (N, xs)) 60 mL_law 284 (lwL i) [] M (lwE i) := by
  obtain ⟨P, D, n, F, O, tl, tb, fa, tr, wh, hm, hk, hr⟩ := hs
  refine J_aload_n dL_law_284 rfl ?_
  refine J_aload_nS dL_law_285 rfl ?_
  refine J_iload dL_law_286 rfl ?_
  refine J_iconst dL_law_288 ?_
  refine J_iadd dL_law_289 ?_
  refine J_sld dL_law_290 rfl (by omega) ⟨by omega, by omega⟩ ?_
  refine J_aload_nS dL_law_291 rfl ?_
  refine J_iload dL_law_292 rfl ?_
  refine J_iconst dL_law_294 ?_
  refine J_iadd dL_law_295 ?_
  refine J_sld dL_law_296 rfl (by omega) ⟨by omega, by omega⟩ ?_
  refine J_aload_nS dL_law_297 rfl ?_
  refine J_iload dL_law_298 rfl ?_
  refine J_iconst dL_law_300 ?_
  refine J_iadd dL_law_301 ?_
  refine J_sld dL_law_302 rfl (by omega) ⟨by omega, by omega⟩ ?_
  refine J_aload_nS dL_law_303 rfl ?_
  refine J_iload dL_law_304 rfl ?_
  refine J_iconst dL_law_306 ?_
  refine J_iadd dL_law_307 ?_
  refine J_sld dL_law_308 rfl (by omega) ⟨by omega, by omega⟩ ?_
  refine J_aload_nS dL_law_309 rfl ?_
  refine J_iload dL_law_310 rfl ?_
  refine J_iconst dL_law_312 ?_
  refine J_iadd dL_law_313 ?_
  refine J_sld dL_law_314 rfl (by omega) ⟨by omega, by omega⟩ ?_
  refine J_callVi (cl := mX6_feed) [(0, xs (((i : Int) + 1).toNat)), (0, xs (((i : Int) + 2).toNat)), (0, xs (((i : Int) + 3).toNat)), (0, xs (((i : Int) + 4).toNat)), (0, xs (((i : Int) + 5).toNat))] [] dL_law_315 mlL_19 cvX6_feed rfl rfl rfl rfl rfl (by decide) (Nat.le_of_ble_eq_true rfl) rfl (ev_X6_feed P D n F O tl tb fa tr wh M hk (xs (((i : Int) + 1).toNat)) (hx _) (xs (((i : Int) + 2).toNat)) (hx _) (xs (((i : Int) + 3).toNat)) (hx _) (xs (((i : Int) + 4).toNat)) (hx _) (xs (((i : Int) + 5).toNat)) (hx _)) (fun za Ma qMa => ?_)
  obtain ⟨rfl, k2, k1⟩ := qMa
  have hm1 := ms_km k1 hm
  refine J_aload_n dL_law_318 rfl ?_
  refine J_aload_nS dL_law_319 rfl ?_
  refine J_iload dL_law_320 rfl ?_
  refine J_iconst dL_law_322 ?_
  refine J_iadd dL_law_323 ?_
  refine J_sld dL_law_324 rfl (by omega) ⟨by omega, by omega⟩ ?_
  refine J_aload_nS dL_law_325 rfl ?_
  refine J_iload dL_law_326 rfl ?_
  refine J_iconst dL_law_328 ?_
  refine J_iadd dL_law_329 ?_
  refine J_sld dL_law_330 rfl (by omega) ⟨by omega, by omega⟩ ?_
  refine J_aload_nS dL_law_331 rfl ?_
  refine J_iload dL_law_332 rfl ?_
  refine J_iconst dL_law_334 ?_
  refine J_iadd dL_law_335 ?_
  refine J_sld dL_law_336 rfl (by omega) ⟨by omega, by omega⟩ ?_
  refine J_aload_nS dL_law_337 rfl ?_
  refine J_iload dL_law_338 rfl ?_
  refine J_iconst dL_law_340 ?_
  refine J_iadd dL_law_341 ?_
  refine J_sld dL_law_342 rfl (by omega) ⟨by omega, by omega⟩ ?_
  refine J_aload_nS dL_law_343 rfl ?_
  refine J_iload dL_law_344 rfl ?_
  refine J_iconst dL_law_346 ?_
  refine J_iadd dL_law_347 ?_
  refine J_sld dL_law_348 rfl (by omega) ⟨by omega, by omega⟩ ?_
  refine J_callVi (cl := mX7_feed) [(0, xs (((i : Int) + 1).toNat)), (0, xs (((i : Int) + 2).toNat)), (0, xs (((i : Int) + 3).toNat)), (0, xs (((i : Int) + 4).toNat)), (0, xs (((i : Int) + 5).toNat))] [(0, _)] dL_law_349 mlL_23 cvX7_feed rfl rfl rfl rfl rfl (by decide) (Nat.le_of_ble_eq_true rfl) rfl (ev_X7_feed P D n F O tl tb fa tr wh Ma hm1 (xs (((i : Int) + 1).toNat)) (hx _) (xs (((i : Int) + 2).toNat)) (hx _) (xs (((i : Int) + 3).toNat)) (hx _) (xs (((i : Int) + 4).toNat)) (hx _) (xs (((i : Int) + 5).toNat)) (hx _)) (fun zb Mb qMb => ?_)
  obtain ⟨rfl, m2, m1⟩ := qMb
  refine J_icmp_eqT (tgt := 1636) dL_law_352 rfl rfl ?_
  exact J_exit ⟨rfl, rfl, rfl, _, _, _, _, _, _, _, _, _, _, m2, ks_cm m1 k2, hr⟩
set_option maxRecDepth 100000 in
set_option maxHeartbeats 4000000 in
theorem lwc_complex (hN : N ≤ 3072) (hx : ∀ j, -2147483648 ≤ xs j ∧ xs j < 2147483648) (hi : i + 6 ≤ N) (hs : SY M) : J (some (N, xs)) 60 mL_law 357 (lwL i) [] M (lwE i) := by
  obtain ⟨P, D, n, F, O, tl, tb, fa, tr, wh, hm, hk, hr⟩ := hs
  refine J_aload_n dL_law_357 rfl ?_
  refine J_aload_nS dL_law_358 rfl ?_
  refine J_iload dL_law_359 rfl ?_
  refine J_iconst dL_law_361 ?_
  refine J_iadd dL_law_362 ?_
  refine J_sld dL_law_363 rfl (by omega) ⟨by omega, by omega⟩ ?_
  refine J_callVi (cl := mX6_complex) [(0, xs (((i : Int) + 1).toNat))] [] dL_law_364 mlL_24 cvX6_complex rfl rfl rfl rfl rfl (by decide) (Nat.le_of_ble_eq_true rfl) rfl (ev_X6_complex P D n F O tl tb fa tr wh M hk (xs (((i : Int) + 1).toNat)) (hx _)) (fun za Ma qMa => ?_)
  obtain ⟨c1, k1⟩ := qMa
  have hm1 := ms_km k1 hm
  refine J_aload_n dL_law_367 rfl ?_
  refine J_aload_nS dL_law_368 rfl ?_
  refine J_iload dL_law_369 rfl ?_
  refine J_iconst dL_law_371 ?_
  refine J_iadd dL_law_372 ?_
  refine J_sld dL_law_373 rfl (by omega) ⟨by omega, by omega⟩ ?_
  refine J_callVi (cl := mX7_complex) [(0, xs (((i : Int) + 1).toNat))] [(0, _)] dL_law_374 mlL_27 cvX7_complex rfl rfl rfl rfl rfl (by decide) (Nat.le_of_ble_eq_true rfl) rfl (ev_X7_complex P D n F O tl tb fa tr wh Ma hm1 (xs (((i : Int) + 1).toNat)) (hx _)) (fun zb Mb qMb => ?_)
  obtain ⟨c2, m1⟩ := qMb
  obtain ⟨ez, P1, D1, n1, F1, O1, tl1, fa1, tr1, wh1, s1, s2, s3⟩ := cx_one c1 c2
  refine J_icmp_eqT (tgt := 1636) dL_law_377 rfl ez ?_
  exact J_exit ⟨rfl, rfl, rfl, P1, D1, n1, F1, O1, tl1, tb, fa1, tr1, wh1, s2, ks_cm m1 s1, s3⟩
set_option maxRecDepth 100000 in
set_option maxHeartbeats 4000000 in
theorem lwc_fault (hN : N ≤ 3072) (hx : ∀ j, -2147483648 ≤ xs j ∧ xs j < 2147483648) (hi : i + 6 ≤ N) (hs : SY M) : J (some (N, xs)) 60 mL_law 382 (lwL i) [] M (lwE i) := by
  obtain ⟨P, D, n, F, O, tl, tb, fa, tr, wh, hm, hk, hr⟩ := hs
  refine J_aload_n dL_law_382 rfl ?_
  refine J_callVi (cl := mX6_fault) [] [] dL_law_383 mlL_28 cvX6_fault rfl rfl rfl rfl rfl (by decide) (Nat.le_of_ble_eq_true rfl) rfl (ev_X6_fault P D n F O tl tb fa tr wh M hk) (fun za Ma qMa => ?_)
  obtain ⟨e1, e2⟩ := qMa
  rw [e1, e2]
  have hm1 := hm
  have k2 := hk
  refine J_aload_n dL_law_386 rfl ?_
  refine J_callVi (cl := mX7_fault) [] [(0, _)] dL_law_387 mlL_32 cvX7_fault rfl rfl rfl rfl rfl (by decide) (Nat.le_of_ble_eq_true rfl) rfl (ev_X7_fault P D n F O tl tb fa tr wh M hm1) (fun zb Mb qMb => ?_)
  obtain ⟨rfl, m2, m1⟩ := qMb
  refine J_icmp_eqT (tgt := 1636) dL_law_390 rfl rfl ?_
  exact J_exit ⟨rfl, rfl, rfl, _, _, _, _, _, _, _, _, _, _, m2, ks_cm m1 k2, hr⟩
set_option maxRecDepth 100000 in
set_option maxHeartbeats 4000000 in
theorem lwc_where (hN : N ≤ 3072) (hx : ∀ j, -2147483648 ≤ xs j ∧ xs j < 2147483648) (hi : i + 6 ≤ N) (hs : SY M) : J (some (N, xs)) 60 mL_law 395 (lwL i) [] M (lwE i) := by
  obtain ⟨P, D, n, F, O, tl, tb, fa, tr, wh, hm, hk, hr⟩ := hs
  refine J_aload_n dL_law_395 rfl ?_
  refine J_callVi (cl := mX6_where) [] [] dL_law_396 mlL_33 cvX6_where rfl rfl rfl rfl rfl (by decide) (Nat.le_of_ble_eq_true rfl) rfl (ev_X6_where P D n F O tl tb fa tr wh M hk (trR_R hr)) (fun za Ma qMa => ?_)
  obtain ⟨e1, e2⟩ := qMa
  rw [e1, e2]
  have hm1 := hm
  have k2 := hk
  refine J_aload_n dL_law_399 rfl ?_
  refine J_callVi (cl := mX7_where) [] [(0, _)] dL_law_400 mlL_36 cvX7_where rfl rfl rfl rfl rfl (by decide) (Nat.le_of_ble_eq_true rfl) rfl (ev_X7_where P D n F O tl tb fa tr wh M hm1 (trR_R hr)) (fun zb Mb qMb => ?_)
  obtain ⟨rfl, m2, m1⟩ := qMb
  refine J_icmp_eqT (tgt := 1636) dL_law_403 rfl rfl ?_
  exact J_exit ⟨rfl, rfl, rfl, _, _, _, _, _, _, _, _, _, _, m2, ks_cm m1 k2, hr⟩
set_option maxRecDepth 100000 in
set_option maxHeartbeats 4000000 in
theorem lwc_about (hN : N ≤ 3072) (hx : ∀ j, -2147483648 ≤ xs j ∧ xs j < 2147483648) (hi : i + 6 ≤ N) (hs : SY M) : J (some (N, xs)) 60 mL_law 408 (lwL i) [] M (lwE i) := by
  obtain ⟨P, D, n, F, O, tl, tb, fa, tr, wh, hm, hk, hr⟩ := hs
  refine J_aload_n dL_law_408 rfl ?_
  refine J_aload_nS dL_law_409 rfl ?_
  refine J_iload dL_law_410 rfl ?_
  refine J_iconst dL_law_412 ?_
  refine J_iadd dL_law_413 ?_
  refine J_sld dL_law_414 rfl (by omega) ⟨by omega, by omega⟩ ?_
  refine J_callVi (cl := mX6_about) [(0, xs (((i : Int) + 1).toNat))] [] dL_law_415 mlL_37 cvX6_about rfl rfl rfl rfl rfl (by decide) (Nat.le_of_ble_eq_true rfl) rfl (ev_X6_about P D n F O tl tb fa tr wh M hk (xs (((i : Int) + 1).toNat)) (hx _)) (fun za Ma qMa => ?_)
  obtain ⟨rfl, k2, k1⟩ := qMa
  have hm1 := ms_km k1 hm
  refine J_aload_n dL_law_418 rfl ?_
  refine J_aload_nS dL_law_419 rfl ?_
  refine J_iload dL_law_420 rfl ?_
  refine J_iconst dL_law_422 ?_
  refine J_iadd dL_law_423 ?_
  refine J_sld dL_law_424 rfl (by omega) ⟨by omega, by omega⟩ ?_
  refine J_callVi (cl := mX7_about) [(0, xs (((i : Int) + 1).toNat))] [(0, _)] dL_law_425 mlL_40 cvX7_about rfl rfl rfl rfl rfl (by decide) (Nat.le_of_ble_eq_true rfl) rfl (ev_X7_about P D n F O tl tb fa tr wh Ma hm1 (xs (((i : Int) + 1).toNat)) (hx _)) (fun zb Mb qMb => ?_)
  obtain ⟨rfl, m2, m1⟩ := qMb
  refine J_icmp_eqT (tgt := 1636) dL_law_428 rfl rfl ?_
  exact J_exit ⟨rfl, rfl, rfl, _, _, _, _, _, _, _, _, _, _, m2, ks_cm m1 k2, tr_u1 _⟩
set_option maxRecDepth 100000 in
set_option maxHeartbeats 4000000 in
theorem lwc_facet (hN : N ≤ 3072) (hx : ∀ j, -2147483648 ≤ xs j ∧ xs j < 2147483648) (hi : i + 6 ≤ N) (hs : SY M) : J (some (N, xs)) 60 mL_law 433 (lwL i) [] M (lwE i) := by
  obtain ⟨P, D, n, F, O, tl, tb, fa, tr, wh, hm, hk, hr⟩ := hs
  refine J_aload_n dL_law_433 rfl ?_
  refine J_aload_nS dL_law_434 rfl ?_
  refine J_iload dL_law_435 rfl ?_
  refine J_iconst dL_law_437 ?_
  refine J_iadd dL_law_438 ?_
  refine J_sld dL_law_439 rfl (by omega) ⟨by omega, by omega⟩ ?_
  refine J_callVi (cl := mX6_facet) [(0, xs (((i : Int) + 1).toNat))] [] dL_law_440 mlL_41 cvX6_facet rfl rfl rfl rfl rfl (by decide) (Nat.le_of_ble_eq_true rfl) rfl (ev_X6_facet P D n F O tl tb fa tr wh M hk (xs (((i : Int) + 1).toNat)) (hx _)) (fun za Ma qMa => ?_)
  obtain ⟨rfl, k2, k1⟩ := qMa
  have hm1 := ms_km k1 hm
  refine J_aload_n dL_law_443 rfl ?_
  refine J_aload_nS dL_law_444 rfl ?_
  refine J_iload dL_law_445 rfl ?_
  refine J_iconst dL_law_447 ?_
  refine J_iadd dL_law_448 ?_
  refine J_sld dL_law_449 rfl (by omega) ⟨by omega, by omega⟩ ?_
  refine J_callVi (cl := mX7_facet) [(0, xs (((i : Int) + 1).toNat))] [(0, _)] dL_law_450 mlL_44 cvX7_facet rfl rfl rfl rfl rfl (by decide) (Nat.le_of_ble_eq_true rfl) rfl (ev_X7_facet P D n F O tl tb fa tr wh Ma hm1 (xs (((i : Int) + 1).toNat)) (hx _)) (fun zb Mb qMb => ?_)
  obtain ⟨rfl, m2, m1⟩ := qMb
  refine J_icmp_eqT (tgt := 1636) dL_law_453 rfl rfl ?_
  exact J_exit ⟨rfl, rfl, rfl, _, _, _, _, _, _, _, _, _, _, m2, ks_cm m1 k2, tr_u1 _⟩
set_option maxRecDepth 100000 in
set_option maxHeartbeats 4000000 in
theorem lwc_within (hN : N ≤ 3072) (hx : ∀ j, -2147483648 ≤ xs j ∧ xs j < 2147483648) (hi : i + 6 ≤ N) (hs : SY M) : J (some (N, xs)) 60 mL_law 458 (lwL i) [] M (lwE i) := by
  obtain ⟨P, D, n, F, O, tl, tb, fa, tr, wh, hm, hk, hr⟩ := hs
  refine J_aload_n dL_law_458 rfl ?_
  refine J_aload_nS dL_law_459 rfl ?_
  refine J_iload dL_law_460 rfl ?_
  refine J_iconst dL_law_462 ?_
  refine J_iadd dL_law_463 ?_
  refine J_sld dL_law_464 rfl (by omega) ⟨by omega, by omega⟩ ?_
  refine J_callVi (cl := mX6_within) [(0, xs (((i : Int) + 1).toNat))] [] dL_law_465 mlL_45 cvX6_within rfl rfl rfl rfl rfl (by decide) (Nat.le_of_ble_eq_true rfl) rfl (ev_X6_within P D n F O tl tb fa tr wh M hk (xs (((i : Int) + 1).toNat)) (hx _)) (fun za Ma qMa => ?_)
  obtain ⟨rfl, k2, k1⟩ := qMa
  have hm1 := ms_km k1 hm
  refine J_aload_n dL_law_468 rfl ?_
  refine J_aload_nS dL_law_469 rfl ?_
  refine J_iload dL_law_470 rfl ?_
  refine J_iconst dL_law_472 ?_
  refine J_iadd dL_law_473 ?_
  refine J_sld dL_law_474 rfl (by omega) ⟨by omega, by omega⟩ ?_
  refine J_callVi (cl := mX7_within) [(0, xs (((i : Int) + 1).toNat))] [(0, _)] dL_law_475 mlL_48 cvX7_within rfl rfl rfl rfl rfl (by decide) (Nat.le_of_ble_eq_true rfl) rfl (ev_X7_within P D n F O tl tb fa tr wh Ma hm1 (xs (((i : Int) + 1).toNat)) (hx _)) (fun zb Mb qMb => ?_)
  obtain ⟨rfl, m2, m1⟩ := qMb
  refine J_icmp_eqT (tgt := 1636) dL_law_478 rfl rfl ?_
  exact J_exit ⟨rfl, rfl, rfl, _, _, _, _, _, _, _, _, _, _, m2, ks_cm m1 k2, tr_u2 _ _⟩
set_option maxRecDepth 100000 in
set_option maxHeartbeats 4000000 in
theorem lwc_missing (hN : N ≤ 3072) (hx : ∀ j, -2147483648 ≤ xs j ∧ xs j < 2147483648) (hi : i + 6 ≤ N) (hs : SY M) : J (some (N, xs)) 60 mL_law 483 (lwL i) [] M (lwE i) := by
  obtain ⟨P, D, n, F, O, tl, tb, fa, tr, wh, hm, hk, hr⟩ := hs
  refine J_aload_n dL_law_483 rfl ?_
  refine J_aload_nS dL_law_484 rfl ?_
  refine J_iload dL_law_485 rfl ?_
  refine J_iconst dL_law_487 ?_
  refine J_iadd dL_law_488 ?_
  refine J_sld dL_law_489 rfl (by omega) ⟨by omega, by omega⟩ ?_
  refine J_callVi (cl := mX6_missing) [(0, xs (((i : Int) + 1).toNat))] [] dL_law_490 mlL_49 cvX6_missing rfl rfl rfl rfl rfl (by decide) (Nat.le_of_ble_eq_true rfl) rfl (ev_X6_missing P D n F O tl tb fa tr wh M hk (xs (((i : Int) + 1).toNat)) (hx _)) (fun za Ma qMa => ?_)
  obtain ⟨rfl, k2, k1⟩ := qMa
  have hm1 := ms_km k1 hm
  refine J_aload_n dL_law_493 rfl ?_
  refine J_aload_nS dL_law_494 rfl ?_
  refine J_iload dL_law_495 rfl ?_
  refine J_iconst dL_law_497 ?_
  refine J_iadd dL_law_498 ?_
  refine J_sld dL_law_499 rfl (by omega) ⟨by omega, by omega⟩ ?_
  refine J_callVi (cl := mX7_missing) [(0, xs (((i : Int) + 1).toNat))] [(0, _)] dL_law_500 mlL_52 cvX7_missing rfl rfl rfl rfl rfl (by decide) (Nat.le_of_ble_eq_true rfl) rfl (ev_X7_missing P D n F O tl tb fa tr wh Ma hm1 (xs (((i : Int) + 1).toNat)) (hx _)) (fun zb Mb qMb => ?_)
  obtain ⟨rfl, m2, m1⟩ := qMb
  refine J_icmp_eqT (tgt := 1636) dL_law_503 rfl rfl ?_
  exact J_exit ⟨rfl, rfl, rfl, _, _, _, _, _, _, _, _, _, _, m2, ks_cm m1 k2, tr_u1 _⟩
set_option maxRecDepth 100000 in
set_option maxHeartbeats 4000000 in
theorem lwc_faces (hN : N ≤ 3072) (hx : ∀ j, -2147483648 ≤ xs j ∧ xs j < 2147483648) (hi : i + 6 ≤ N) (hs : SY M) : J (some (N, xs)) 60 mL_law 508 (lwL i) [] M (lwE i) := by
  obtain ⟨P, D, n, F, O, tl, tb, fa, tr, wh, hm, hk, hr⟩ := hs
  refine J_aload_n dL_law_508 rfl ?_
  refine J_aload_nS dL_law_509 rfl ?_
  refine J_iload dL_law_510 rfl ?_
  refine J_iconst dL_law_512 ?_
  refine J_iadd dL_law_513 ?_
  refine J_sld dL_law_514 rfl (by omega) ⟨by omega, by omega⟩ ?_
  refine J_callVi (cl := mX6_faces) [(0, xs (((i : Int) + 1).toNat))] [] dL_law_515 mlL_53 cvX6_faces rfl rfl rfl rfl rfl (by decide) (Nat.le_of_ble_eq_true rfl) rfl (ev_X6_faces P D n F O tl tb fa tr wh M hk (xs (((i : Int) + 1).toNat)) (hx _)) (fun za Ma qMa => ?_)
  obtain ⟨rfl, k2, k1⟩ := qMa
  have hm1 := ms_km k1 hm
  refine J_aload_n dL_law_518 rfl ?_
  refine J_aload_nS dL_law_519 rfl ?_
  refine J_iload dL_law_520 rfl ?_
  refine J_iconst dL_law_522 ?_
  refine J_iadd dL_law_523 ?_
  refine J_sld dL_law_524 rfl (by omega) ⟨by omega, by omega⟩ ?_
  refine J_callVi (cl := mX7_faces) [(0, xs (((i : Int) + 1).toNat))] [(0, _)] dL_law_525 mlL_56 cvX7_faces rfl rfl rfl rfl rfl (by decide) (Nat.le_of_ble_eq_true rfl) rfl (ev_X7_faces P D n F O tl tb fa tr wh Ma hm1 (xs (((i : Int) + 1).toNat)) (hx _)) (fun zb Mb qMb => ?_)
  obtain ⟨rfl, m2, m1⟩ := qMb
  refine J_icmp_eqT (tgt := 1636) dL_law_528 rfl rfl ?_
  exact J_exit ⟨rfl, rfl, rfl, _, _, _, _, _, _, _, _, _, _, m2, ks_cm m1 k2, tr_u2 _ _⟩
set_option maxRecDepth 100000 in
set_option maxHeartbeats 4000000 in
theorem lwc_h (hN : N ≤ 3072) (hx : ∀ j, -2147483648 ≤ xs j ∧ xs j < 2147483648) (hi : i + 6 ≤ N) (hs : SY M) : J (some (N, xs)) 60 mL_law 533 (lwL i) [] M (lwE i) := by
  obtain ⟨P, D, n, F, O, tl, tb, fa, tr, wh, hm, hk, hr⟩ := hs
  refine J_aload_n dL_law_533 rfl ?_
  refine J_aload_nS dL_law_534 rfl ?_
  refine J_iload dL_law_535 rfl ?_
  refine J_iconst dL_law_537 ?_
  refine J_iadd dL_law_538 ?_
  refine J_sld dL_law_539 rfl (by omega) ⟨by omega, by omega⟩ ?_
  refine J_callVi (cl := mX6_h) [(0, xs (((i : Int) + 1).toNat))] [] dL_law_540 mlL_57 cvX6_h rfl rfl rfl rfl rfl (by decide) (Nat.le_of_ble_eq_true rfl) rfl (ev_X6_h P D n F O tl tb fa tr wh M hk (xs (((i : Int) + 1).toNat)) (hx _)) (fun za Ma qMa => ?_)
  obtain ⟨rfl, k2, k1⟩ := qMa
  have hm1 := ms_km k1 hm
  refine J_aload_n dL_law_543 rfl ?_
  refine J_aload_nS dL_law_544 rfl ?_
  refine J_iload dL_law_545 rfl ?_
  refine J_iconst dL_law_547 ?_
  refine J_iadd dL_law_548 ?_
  refine J_sld dL_law_549 rfl (by omega) ⟨by omega, by omega⟩ ?_
  refine J_callVi (cl := mX7_h) [(0, xs (((i : Int) + 1).toNat))] [(0, _)] dL_law_550 mlL_60 cvX7_h rfl rfl rfl rfl rfl (by decide) (Nat.le_of_ble_eq_true rfl) rfl (ev_X7_h P D n F O tl tb fa tr wh Ma hm1 (xs (((i : Int) + 1).toNat)) (hx _)) (fun zb Mb qMb => ?_)
  obtain ⟨rfl, m2, m1⟩ := qMb
  refine J_icmp_eqT (tgt := 1636) dL_law_553 rfl rfl ?_
  exact J_exit ⟨rfl, rfl, rfl, _, _, _, _, _, _, _, _, _, _, m2, ks_cm m1 k2, tr_u2 _ _⟩
set_option maxRecDepth 100000 in
set_option maxHeartbeats 4000000 in
theorem lwc_euler (hN : N ≤ 3072) (hx : ∀ j, -2147483648 ≤ xs j ∧ xs j < 2147483648) (hi : i + 6 ≤ N) (hs : SY M) : J (some (N, xs)) 60 mL_law 558 (lwL i) [] M (lwE i) := by
  obtain ⟨P, D, n, F, O, tl, tb, fa, tr, wh, hm, hk, hr⟩ := hs
  refine J_aload_n dL_law_558 rfl ?_
  refine J_callVi (cl := mX6_euler) [] [] dL_law_559 mlL_61 cvX6_euler rfl rfl rfl rfl rfl (by decide) (Nat.le_of_ble_eq_true rfl) rfl (ev_X6_euler P D n F O tl tb fa tr wh M hk) (fun za Ma qMa => ?_)
  obtain ⟨rfl, k2, k1⟩ := qMa
  have hm1 := ms_km k1 hm
  refine J_aload_n dL_law_562 rfl ?_
  refine J_callVi (cl := mX7_euler) [] [(0, _)] dL_law_563 mlL_64 cvX7_euler rfl rfl rfl rfl rfl (by decide) (Nat.le_of_ble_eq_true rfl) rfl (ev_X7_euler P D n F O tl tb fa tr wh Ma hm1) (fun zb Mb qMb => ?_)
  obtain ⟨rfl, m2, m1⟩ := qMb
  refine J_icmp_eqT (tgt := 1636) dL_law_566 rfl rfl ?_
  exact J_exit ⟨rfl, rfl, rfl, _, _, _, _, _, _, _, _, _, _, m2, ks_cm m1 k2, tr_u1 _⟩
set_option maxRecDepth 100000 in
set_option maxHeartbeats 4000000 in
theorem lwc_rank (hN : N ≤ 3072) (hx : ∀ j, -2147483648 ≤ xs j ∧ xs j < 2147483648) (hi : i + 6 ≤ N) (hs : SY M) : J (some (N, xs)) 60 mL_law 571 (lwL i) [] M (lwE i) := by
  obtain ⟨P, D, n, F, O, tl, tb, fa, tr, wh, hm, hk, hr⟩ := hs
  refine J_aload_n dL_law_571 rfl ?_
  refine J_aload_nS dL_law_572 rfl ?_
  refine J_iload dL_law_573 rfl ?_
  refine J_iconst dL_law_575 ?_
  refine J_iadd dL_law_576 ?_
  refine J_sld dL_law_577 rfl (by omega) ⟨by omega, by omega⟩ ?_
  refine J_callVi (cl := mX6_rank) [(0, xs (((i : Int) + 1).toNat))] [] dL_law_578 mlL_65 cvX6_rank rfl rfl rfl rfl rfl (by decide) (Nat.le_of_ble_eq_true rfl) rfl (ev_X6_rank P D n F O tl tb fa tr wh M hk (xs (((i : Int) + 1).toNat)) (hx _)) (fun za Ma qMa => ?_)
  obtain ⟨rfl, k2, k1⟩ := qMa
  have hm1 := ms_km k1 hm
  refine J_aload_n dL_law_581 rfl ?_
  refine J_aload_nS dL_law_582 rfl ?_
  refine J_iload dL_law_583 rfl ?_
  refine J_iconst dL_law_585 ?_
  refine J_iadd dL_law_586 ?_
  refine J_sld dL_law_587 rfl (by omega) ⟨by omega, by omega⟩ ?_
  refine J_callVi (cl := mX7_rank) [(0, xs (((i : Int) + 1).toNat))] [(0, _)] dL_law_588 mlL_68 cvX7_rank rfl rfl rfl rfl rfl (by decide) (Nat.le_of_ble_eq_true rfl) rfl (ev_X7_rank P D n F O tl tb fa tr wh Ma hm1 (xs (((i : Int) + 1).toNat)) (hx _)) (fun zb Mb qMb => ?_)
  obtain ⟨rfl, m2, m1⟩ := qMb
  refine J_icmp_eqT (tgt := 1636) dL_law_591 rfl rfl ?_
  exact J_exit ⟨rfl, rfl, rfl, _, _, _, _, _, _, _, _, _, _, m2, ks_cm m1 k2, tr_u2 _ _⟩
set_option maxRecDepth 100000 in
set_option maxHeartbeats 4000000 in
theorem lwc_round (hN : N ≤ 3072) (hx : ∀ j, -2147483648 ≤ xs j ∧ xs j < 2147483648) (hi : i + 6 ≤ N) (hs : SY M) : J (some (N, xs)) 60 mL_law 596 (lwL i) [] M (lwE i) := by
  obtain ⟨P, D, n, F, O, tl, tb, fa, tr, wh, hm, hk, hr⟩ := hs
  refine J_aload_n dL_law_596 rfl ?_
  refine J_aload_nS dL_law_597 rfl ?_
  refine J_iload dL_law_598 rfl ?_
  refine J_iconst dL_law_600 ?_
  refine J_iadd dL_law_601 ?_
  refine J_sld dL_law_602 rfl (by omega) ⟨by omega, by omega⟩ ?_
  refine J_callVi (cl := mX6_round) [(0, xs (((i : Int) + 1).toNat))] [] dL_law_603 mlL_69 cvX6_round rfl rfl rfl rfl rfl (by decide) (Nat.le_of_ble_eq_true rfl) rfl (ev_X6_round P D n F O tl tb fa tr wh M hk (xs (((i : Int) + 1).toNat)) (hx _)) (fun za Ma qMa => ?_)
  obtain ⟨rfl, k2, k1⟩ := qMa
  have hm1 := ms_km k1 hm
  refine J_aload_n dL_law_606 rfl ?_
  refine J_aload_nS dL_law_607 rfl ?_
  refine J_iload dL_law_608 rfl ?_
  refine J_iconst dL_law_610 ?_
  refine J_iadd dL_law_611 ?_
  refine J_sld dL_law_612 rfl (by omega) ⟨by omega, by omega⟩ ?_
  refine J_callVi (cl := mX7_round) [(0, xs (((i : Int) + 1).toNat))] [(0, _)] dL_law_613 mlL_72 cvX7_round rfl rfl rfl rfl rfl (by decide) (Nat.le_of_ble_eq_true rfl) rfl (ev_X7_round P D n F O tl tb fa tr wh Ma hm1 (xs (((i : Int) + 1).toNat)) (hx _)) (fun zb Mb qMb => ?_)
  obtain ⟨rfl, m2, m1⟩ := qMb
  refine J_icmp_eqT (tgt := 1636) dL_law_616 rfl rfl ?_
  exact J_exit ⟨rfl, rfl, rfl, _, _, _, _, _, _, _, _, _, _, m2, ks_cm m1 k2, tr_u2 _ _⟩
set_option maxRecDepth 100000 in
set_option maxHeartbeats 4000000 in
theorem lwc_dual (hN : N ≤ 3072) (hx : ∀ j, -2147483648 ≤ xs j ∧ xs j < 2147483648) (hi : i + 6 ≤ N) (hs : SY M) : J (some (N, xs)) 60 mL_law 621 (lwL i) [] M (lwE i) := by
  obtain ⟨P, D, n, F, O, tl, tb, fa, tr, wh, hm, hk, hr⟩ := hs
  refine J_aload_n dL_law_621 rfl ?_
  refine J_aload_nS dL_law_622 rfl ?_
  refine J_iload dL_law_623 rfl ?_
  refine J_iconst dL_law_625 ?_
  refine J_iadd dL_law_626 ?_
  refine J_sld dL_law_627 rfl (by omega) ⟨by omega, by omega⟩ ?_
  refine J_callVi (cl := mX6_dual) [(0, xs (((i : Int) + 1).toNat))] [] dL_law_628 mlL_73 cvX6_dual rfl rfl rfl rfl rfl (by decide) (Nat.le_of_ble_eq_true rfl) rfl (ev_X6_dual P D n F O tl tb fa tr wh M hk (xs (((i : Int) + 1).toNat)) (hx _)) (fun za Ma qMa => ?_)
  obtain ⟨rfl, k2, k1⟩ := qMa
  have hm1 := ms_km k1 hm
  refine J_aload_n dL_law_631 rfl ?_
  refine J_aload_nS dL_law_632 rfl ?_
  refine J_iload dL_law_633 rfl ?_
  refine J_iconst dL_law_635 ?_
  refine J_iadd dL_law_636 ?_
  refine J_sld dL_law_637 rfl (by omega) ⟨by omega, by omega⟩ ?_
  refine J_callVi (cl := mX7_dual) [(0, xs (((i : Int) + 1).toNat))] [(0, _)] dL_law_638 mlL_76 cvX7_dual rfl rfl rfl rfl rfl (by decide) (Nat.le_of_ble_eq_true rfl) rfl (ev_X7_dual P D n F O tl tb fa tr wh Ma hm1 (xs (((i : Int) + 1).toNat)) (hx _)) (fun zb Mb qMb => ?_)
  obtain ⟨rfl, m2, m1⟩ := qMb
  refine J_icmp_eqT (tgt := 1636) dL_law_641 rfl rfl ?_
  exact J_exit ⟨rfl, rfl, rfl, _, _, _, _, _, _, _, _, _, _, m2, ks_cm m1 k2, tr_u1 _⟩
set_option maxRecDepth 100000 in
set_option maxHeartbeats 4000000 in
theorem lwc_dualRound (hN : N ≤ 3072) (hx : ∀ j, -2147483648 ≤ xs j ∧ xs j < 2147483648) (hi : i + 6 ≤ N) (hs : SY M) : J (some (N, xs)) 60 mL_law 646 (lwL i) [] M (lwE i) := by
  obtain ⟨P, D, n, F, O, tl, tb, fa, tr, wh, hm, hk, hr⟩ := hs
  refine J_aload_n dL_law_646 rfl ?_
  refine J_aload_nS dL_law_647 rfl ?_
  refine J_iload dL_law_648 rfl ?_
  refine J_iconst dL_law_650 ?_
  refine J_iadd dL_law_651 ?_
  refine J_sld dL_law_652 rfl (by omega) ⟨by omega, by omega⟩ ?_
  refine J_callVi (cl := mX6_dualRound) [(0, xs (((i : Int) + 1).toNat))] [] dL_law_653 mlL_77 cvX6_dualRound rfl rfl rfl rfl rfl (by decide) (Nat.le_of_ble_eq_true rfl) rfl (ev_X6_dualRound P D n F O tl tb fa tr wh M hk (xs (((i : Int) + 1).toNat)) (hx _)) (fun za Ma qMa => ?_)
  obtain ⟨rfl, k2, k1⟩ := qMa
  have hm1 := ms_km k1 hm
  refine J_aload_n dL_law_656 rfl ?_
  refine J_aload_nS dL_law_657 rfl ?_
  refine J_iload dL_law_658 rfl ?_
  refine J_iconst dL_law_660 ?_
  refine J_iadd dL_law_661 ?_
  refine J_sld dL_law_662 rfl (by omega) ⟨by omega, by omega⟩ ?_
  refine J_callVi (cl := mX7_dualRound) [(0, xs (((i : Int) + 1).toNat))] [(0, _)] dL_law_663 mlL_80 cvX7_dualRound rfl rfl rfl rfl rfl (by decide) (Nat.le_of_ble_eq_true rfl) rfl (ev_X7_dualRound P D n F O tl tb fa tr wh Ma hm1 (xs (((i : Int) + 1).toNat)) (hx _)) (fun zb Mb qMb => ?_)
  obtain ⟨rfl, m2, m1⟩ := qMb
  refine J_icmp_eqT (tgt := 1636) dL_law_666 rfl rfl ?_
  exact J_exit ⟨rfl, rfl, rfl, _, _, _, _, _, _, _, _, _, _, m2, ks_cm m1 k2, tr_u2 _ _⟩
set_option maxRecDepth 100000 in
set_option maxHeartbeats 4000000 in
theorem lwc_near (hN : N ≤ 3072) (hx : ∀ j, -2147483648 ≤ xs j ∧ xs j < 2147483648) (hi : i + 6 ≤ N) (hs : SY M) : J (some (N, xs)) 60 mL_law 671 (lwL i) [] M (lwE i) := by
  obtain ⟨P, D, n, F, O, tl, tb, fa, tr, wh, hm, hk, hr⟩ := hs
  refine J_aload_n dL_law_671 rfl ?_
  refine J_aload_nS dL_law_672 rfl ?_
  refine J_iload dL_law_673 rfl ?_
  refine J_iconst dL_law_675 ?_
  refine J_iadd dL_law_676 ?_
  refine J_sld dL_law_677 rfl (by omega) ⟨by omega, by omega⟩ ?_
  refine J_callVi (cl := mX6_near) [(0, xs (((i : Int) + 1).toNat))] [] dL_law_678 mlL_81 cvX6_near rfl rfl rfl rfl rfl (by decide) (Nat.le_of_ble_eq_true rfl) rfl (ev_X6_near P D n F O tl tb fa tr wh M hk (xs (((i : Int) + 1).toNat)) (hx _)) (fun za Ma qMa => ?_)
  obtain ⟨rfl, k2, k1⟩ := qMa
  have hm1 := ms_km k1 hm
  refine J_aload_n dL_law_681 rfl ?_
  refine J_aload_nS dL_law_682 rfl ?_
  refine J_iload dL_law_683 rfl ?_
  refine J_iconst dL_law_685 ?_
  refine J_iadd dL_law_686 ?_
  refine J_sld dL_law_687 rfl (by omega) ⟨by omega, by omega⟩ ?_
  refine J_callVi (cl := mX7_near) [(0, xs (((i : Int) + 1).toNat))] [(0, _)] dL_law_688 mlL_84 cvX7_near rfl rfl rfl rfl rfl (by decide) (Nat.le_of_ble_eq_true rfl) rfl (ev_X7_near P D n F O tl tb fa tr wh Ma hm1 (xs (((i : Int) + 1).toNat)) (hx _)) (fun zb Mb qMb => ?_)
  obtain ⟨rfl, m2, m1⟩ := qMb
  refine J_icmp_eqT (tgt := 1636) dL_law_691 rfl rfl ?_
  exact J_exit ⟨rfl, rfl, rfl, _, _, _, _, _, _, _, _, _, _, m2, ks_cm m1 k2, tr_u1 _⟩
set_option maxRecDepth 100000 in
set_option maxHeartbeats 4000000 in
theorem lwc_apart (hN : N ≤ 3072) (hx : ∀ j, -2147483648 ≤ xs j ∧ xs j < 2147483648) (hi : i + 6 ≤ N) (hs : SY M) : J (some (N, xs)) 60 mL_law 696 (lwL i) [] M (lwE i) := by
  obtain ⟨P, D, n, F, O, tl, tb, fa, tr, wh, hm, hk, hr⟩ := hs
  refine J_aload_n dL_law_696 rfl ?_
  refine J_aload_nS dL_law_697 rfl ?_
  refine J_iload dL_law_698 rfl ?_
  refine J_iconst dL_law_700 ?_
  refine J_iadd dL_law_701 ?_
  refine J_sld dL_law_702 rfl (by omega) ⟨by omega, by omega⟩ ?_
  refine J_aload_nS dL_law_703 rfl ?_
  refine J_iload dL_law_704 rfl ?_
  refine J_iconst dL_law_706 ?_
  refine J_iadd dL_law_707 ?_
  refine J_sld dL_law_708 rfl (by omega) ⟨by omega, by omega⟩ ?_
  refine J_callVi (cl := mX6_apart) [(0, xs (((i : Int) + 1).toNat)), (0, xs (((i : Int) + 2).toNat))] [] dL_law_709 mlL_85 cvX6_apart rfl rfl rfl rfl rfl (by decide) (Nat.le_of_ble_eq_true rfl) rfl (ev_X6_apart P D n F O tl tb fa tr wh M hk (xs (((i : Int) + 1).toNat)) (hx _) (xs (((i : Int) + 2).toNat)) (hx _)) (fun za Ma qMa => ?_)
  obtain ⟨rfl, k2, k1⟩ := qMa
  have hm1 := ms_km k1 hm
  refine J_aload_n dL_law_712 rfl ?_
  refine J_aload_nS dL_law_713 rfl ?_
  refine J_iload dL_law_714 rfl ?_
  refine J_iconst dL_law_716 ?_
  refine J_iadd dL_law_717 ?_
  refine J_sld dL_law_718 rfl (by omega) ⟨by omega, by omega⟩ ?_
  refine J_aload_nS dL_law_719 rfl ?_
  refine J_iload dL_law_720 rfl ?_
  refine J_iconst dL_law_722 ?_
  refine J_iadd dL_law_723 ?_
  refine J_sld dL_law_724 rfl (by omega) ⟨by omega, by omega⟩ ?_
  refine J_callVi (cl := mX7_apart) [(0, xs (((i : Int) + 1).toNat)), (0, xs (((i : Int) + 2).toNat))] [(0, _)] dL_law_725 mlL_89 cvX7_apart rfl rfl rfl rfl rfl (by decide) (Nat.le_of_ble_eq_true rfl) rfl (ev_X7_apart P D n F O tl tb fa tr wh Ma hm1 (xs (((i : Int) + 1).toNat)) (hx _) (xs (((i : Int) + 2).toNat)) (hx _)) (fun zb Mb qMb => ?_)
  obtain ⟨rfl, m2, m1⟩ := qMb
  refine J_icmp_eqT (tgt := 1636) dL_law_728 rfl rfl ?_
  exact J_exit ⟨rfl, rfl, rfl, _, _, _, _, _, _, _, _, _, _, m2, ks_cm m1 k2, tr_u1 _⟩
set_option maxRecDepth 100000 in
set_option maxHeartbeats 4000000 in
theorem lwc_ordered (hN : N ≤ 3072) (hx : ∀ j, -2147483648 ≤ xs j ∧ xs j < 2147483648) (hi : i + 6 ≤ N) (hs : SY M) : J (some (N, xs)) 60 mL_law 733 (lwL i) [] M (lwE i) := by
  obtain ⟨P, D, n, F, O, tl, tb, fa, tr, wh, hm, hk, hr⟩ := hs
  refine J_aload_n dL_law_733 rfl ?_
  refine J_aload_nS dL_law_734 rfl ?_
  refine J_iload dL_law_735 rfl ?_
  refine J_iconst dL_law_737 ?_
  refine J_iadd dL_law_738 ?_
  refine J_sld dL_law_739 rfl (by omega) ⟨by omega, by omega⟩ ?_
  refine J_callVi (cl := mX6_ordered) [(0, xs (((i : Int) + 1).toNat))] [] dL_law_740 mlL_90 cvX6_ordered rfl rfl rfl rfl rfl (by decide) (Nat.le_of_ble_eq_true rfl) rfl (ev_X6_ordered P D n F O tl tb fa tr wh M hk (xs (((i : Int) + 1).toNat)) (hx _)) (fun za Ma qMa => ?_)
  obtain ⟨rfl, k2, k1⟩ := qMa
  have hm1 := ms_km k1 hm
  refine J_aload_n dL_law_743 rfl ?_
  refine J_aload_nS dL_law_744 rfl ?_
  refine J_iload dL_law_745 rfl ?_
  refine J_iconst dL_law_747 ?_
  refine J_iadd dL_law_748 ?_
  refine J_sld dL_law_749 rfl (by omega) ⟨by omega, by omega⟩ ?_
  refine J_callVi (cl := mX7_ordered) [(0, xs (((i : Int) + 1).toNat))] [(0, _)] dL_law_750 mlL_93 cvX7_ordered rfl rfl rfl rfl rfl (by decide) (Nat.le_of_ble_eq_true rfl) rfl (ev_X7_ordered P D n F O tl tb fa tr wh Ma hm1 (xs (((i : Int) + 1).toNat)) (hx _)) (fun zb Mb qMb => ?_)
  obtain ⟨rfl, m2, m1⟩ := qMb
  refine J_icmp_eqT (tgt := 1636) dL_law_753 rfl rfl ?_
  exact J_exit ⟨rfl, rfl, rfl, _, _, _, _, _, _, _, _, _, _, m2, ks_cm m1 k2, tr_u1 _⟩
set_option maxRecDepth 100000 in
set_option maxHeartbeats 4000000 in
theorem lwc_joins (hN : N ≤ 3072) (hx : ∀ j, -2147483648 ≤ xs j ∧ xs j < 2147483648) (hi : i + 6 ≤ N) (hs : SY M) : J (some (N, xs)) 60 mL_law 758 (lwL i) [] M (lwE i) := by
  obtain ⟨P, D, n, F, O, tl, tb, fa, tr, wh, hm, hk, hr⟩ := hs
  refine J_aload_n dL_law_758 rfl ?_
  refine J_aload_nS dL_law_759 rfl ?_
  refine J_iload dL_law_760 rfl ?_
  refine J_iconst dL_law_762 ?_
  refine J_iadd dL_law_763 ?_
  refine J_sld dL_law_764 rfl (by omega) ⟨by omega, by omega⟩ ?_
  refine J_callVi (cl := mX6_joins) [(0, xs (((i : Int) + 1).toNat))] [] dL_law_765 mlL_94 cvX6_joins rfl rfl rfl rfl rfl (by decide) (Nat.le_of_ble_eq_true rfl) rfl (ev_X6_joins P D n F O tl tb fa tr wh M hk (xs (((i : Int) + 1).toNat)) (hx _)) (fun za Ma qMa => ?_)
  obtain ⟨rfl, k2, k1⟩ := qMa
  have hm1 := ms_km k1 hm
  refine J_aload_n dL_law_768 rfl ?_
  refine J_aload_nS dL_law_769 rfl ?_
  refine J_iload dL_law_770 rfl ?_
  refine J_iconst dL_law_772 ?_
  refine J_iadd dL_law_773 ?_
  refine J_sld dL_law_774 rfl (by omega) ⟨by omega, by omega⟩ ?_
  refine J_callVi (cl := mX7_joins) [(0, xs (((i : Int) + 1).toNat))] [(0, _)] dL_law_775 mlL_97 cvX7_joins rfl rfl rfl rfl rfl (by decide) (Nat.le_of_ble_eq_true rfl) rfl (ev_X7_joins P D n F O tl tb fa tr wh Ma hm1 (xs (((i : Int) + 1).toNat)) (hx _)) (fun zb Mb qMb => ?_)
  obtain ⟨rfl, m2, m1⟩ := qMb
  refine J_icmp_eqT (tgt := 1636) dL_law_778 rfl rfl ?_
  exact J_exit ⟨rfl, rfl, rfl, _, _, _, _, _, _, _, _, _, _, m2, ks_cm m1 k2, tr_u1 _⟩
set_option maxRecDepth 100000 in
set_option maxHeartbeats 4000000 in
theorem lwc_restricted (hN : N ≤ 3072) (hx : ∀ j, -2147483648 ≤ xs j ∧ xs j < 2147483648) (hi : i + 6 ≤ N) (hs : SY M) : J (some (N, xs)) 60 mL_law 783 (lwL i) [] M (lwE i) := by
  obtain ⟨P, D, n, F, O, tl, tb, fa, tr, wh, hm, hk, hr⟩ := hs
  refine J_aload_n dL_law_783 rfl ?_
  refine J_aload_nS dL_law_784 rfl ?_
  refine J_iload dL_law_785 rfl ?_
  refine J_iconst dL_law_787 ?_
  refine J_iadd dL_law_788 ?_
  refine J_sld dL_law_789 rfl (by omega) ⟨by omega, by omega⟩ ?_
  refine J_callVi (cl := mX6_restricted) [(0, xs (((i : Int) + 1).toNat))] [] dL_law_790 mlL_98 cvX6_restricted rfl rfl rfl rfl rfl (by decide) (Nat.le_of_ble_eq_true rfl) rfl (ev_X6_restricted P D n F O tl tb fa tr wh M hk (xs (((i : Int) + 1).toNat)) (hx _)) (fun za Ma qMa => ?_)
  obtain ⟨rfl, k2, k1⟩ := qMa
  have hm1 := ms_km k1 hm
  refine J_aload_n dL_law_793 rfl ?_
  refine J_aload_nS dL_law_794 rfl ?_
  refine J_iload dL_law_795 rfl ?_
  refine J_iconst dL_law_797 ?_
  refine J_iadd dL_law_798 ?_
  refine J_sld dL_law_799 rfl (by omega) ⟨by omega, by omega⟩ ?_
  refine J_callVi (cl := mX7_restricted) [(0, xs (((i : Int) + 1).toNat))] [(0, _)] dL_law_800 mlL_101 cvX7_restricted rfl rfl rfl rfl rfl (by decide) (Nat.le_of_ble_eq_true rfl) rfl (ev_X7_restricted P D n F O tl tb fa tr wh Ma hm1 (xs (((i : Int) + 1).toNat)) (hx _)) (fun zb Mb qMb => ?_)
  obtain ⟨rfl, m2, m1⟩ := qMb
  refine J_icmp_eqT (tgt := 1636) dL_law_803 rfl rfl ?_
  exact J_exit ⟨rfl, rfl, rfl, _, _, _, _, _, _, _, _, _, _, m2, ks_cm m1 k2, tr_u1 _⟩
set_option maxRecDepth 100000 in
set_option maxHeartbeats 4000000 in
theorem lwc_good (hN : N ≤ 3072) (hx : ∀ j, -2147483648 ≤ xs j ∧ xs j < 2147483648) (hi : i + 6 ≤ N) (hs : SY M) : J (some (N, xs)) 60 mL_law 808 (lwL i) [] M (lwE i) := by
  obtain ⟨P, D, n, F, O, tl, tb, fa, tr, wh, hm, hk, hr⟩ := hs
  refine J_aload_n dL_law_808 rfl ?_
  refine J_callVi (cl := mX6_good) [] [] dL_law_809 mlL_102 cvX6_good rfl rfl rfl rfl rfl (by decide) (Nat.le_of_ble_eq_true rfl) rfl (ev_X6_good P D n F O tl tb fa tr wh M hk) (fun za Ma qMa => ?_)
  obtain ⟨rfl, k2, k1⟩ := qMa
  have hm1 := ms_km k1 hm
  refine J_aload_n dL_law_812 rfl ?_
  refine J_callVi (cl := mX7_good) [] [(0, _)] dL_law_813 mlL_105 cvX7_good rfl rfl rfl rfl rfl (by decide) (Nat.le_of_ble_eq_true rfl) rfl (ev_X7_good P D n F O tl tb fa tr wh Ma hm1) (fun zb Mb qMb => ?_)
  obtain ⟨rfl, m2, m1⟩ := qMb
  refine J_icmp_eqT (tgt := 1636) dL_law_816 rfl rfl ?_
  exact J_exit ⟨rfl, rfl, rfl, _, _, _, _, _, _, _, _, _, _, m2, ks_cm m1 k2, tr_u1 _⟩
set_option maxRecDepth 100000 in
set_option maxHeartbeats 4000000 in
theorem lwc_sized (hN : N ≤ 3072) (hx : ∀ j, -2147483648 ≤ xs j ∧ xs j < 2147483648) (hi : i + 6 ≤ N) (hs : SY M) : J (some (N, xs)) 60 mL_law 821 (lwL i) [] M (lwE i) := by
  obtain ⟨P, D, n, F, O, tl, tb, fa, tr, wh, hm, hk, hr⟩ := hs
  refine J_aload_n dL_law_821 rfl ?_
  refine J_aload_nS dL_law_822 rfl ?_
  refine J_iload dL_law_823 rfl ?_
  refine J_iconst dL_law_825 ?_
  refine J_iadd dL_law_826 ?_
  refine J_sld dL_law_827 rfl (by omega) ⟨by omega, by omega⟩ ?_
  refine J_callVi (cl := mX6_sized) [(0, xs (((i : Int) + 1).toNat))] [] dL_law_828 mlL_106 cvX6_sized rfl rfl rfl rfl rfl (by decide) (Nat.le_of_ble_eq_true rfl) rfl (ev_X6_sized P D n F O tl tb fa tr wh M hk (xs (((i : Int) + 1).toNat)) (hx _)) (fun za Ma qMa => ?_)
  obtain ⟨rfl, k2, k1⟩ := qMa
  have hm1 := ms_km k1 hm
  refine J_aload_n dL_law_831 rfl ?_
  refine J_aload_nS dL_law_832 rfl ?_
  refine J_iload dL_law_833 rfl ?_
  refine J_iconst dL_law_835 ?_
  refine J_iadd dL_law_836 ?_
  refine J_sld dL_law_837 rfl (by omega) ⟨by omega, by omega⟩ ?_
  refine J_callVi (cl := mX7_sized) [(0, xs (((i : Int) + 1).toNat))] [(0, _)] dL_law_838 mlL_109 cvX7_sized rfl rfl rfl rfl rfl (by decide) (Nat.le_of_ble_eq_true rfl) rfl (ev_X7_sized P D n F O tl tb fa tr wh Ma hm1 (xs (((i : Int) + 1).toNat)) (hx _)) (fun zb Mb qMb => ?_)
  obtain ⟨rfl, m2, m1⟩ := qMb
  refine J_icmp_eqT (tgt := 1636) dL_law_841 rfl rfl ?_
  exact J_exit ⟨rfl, rfl, rfl, _, _, _, _, _, _, _, _, _, _, m2, ks_cm m1 k2, tr_u2 _ _⟩
set_option maxRecDepth 100000 in
set_option maxHeartbeats 4000000 in
theorem lwc_spanning (hN : N ≤ 3072) (hx : ∀ j, -2147483648 ≤ xs j ∧ xs j < 2147483648) (hi : i + 6 ≤ N) (hs : SY M) : J (some (N, xs)) 60 mL_law 846 (lwL i) [] M (lwE i) := by
  obtain ⟨P, D, n, F, O, tl, tb, fa, tr, wh, hm, hk, hr⟩ := hs
  refine J_aload_n dL_law_846 rfl ?_
  refine J_aload_nS dL_law_847 rfl ?_
  refine J_iload dL_law_848 rfl ?_
  refine J_iconst dL_law_850 ?_
  refine J_iadd dL_law_851 ?_
  refine J_sld dL_law_852 rfl (by omega) ⟨by omega, by omega⟩ ?_
  refine J_callVi (cl := mX6_spanning) [(0, xs (((i : Int) + 1).toNat))] [] dL_law_853 mlL_110 cvX6_spanning rfl rfl rfl rfl rfl (by decide) (Nat.le_of_ble_eq_true rfl) rfl (ev_X6_spanning P D n F O tl tb fa tr wh M hk (xs (((i : Int) + 1).toNat)) (hx _)) (fun za Ma qMa => ?_)
  obtain ⟨rfl, k2, k1⟩ := qMa
  have hm1 := ms_km k1 hm
  refine J_aload_n dL_law_856 rfl ?_
  refine J_aload_nS dL_law_857 rfl ?_
  refine J_iload dL_law_858 rfl ?_
  refine J_iconst dL_law_860 ?_
  refine J_iadd dL_law_861 ?_
  refine J_sld dL_law_862 rfl (by omega) ⟨by omega, by omega⟩ ?_
  refine J_callVi (cl := mX7_spanning) [(0, xs (((i : Int) + 1).toNat))] [(0, _)] dL_law_863 mlL_113 cvX7_spanning rfl rfl rfl rfl rfl (by decide) (Nat.le_of_ble_eq_true rfl) rfl (ev_X7_spanning P D n F O tl tb fa tr wh Ma hm1 (xs (((i : Int) + 1).toNat)) (hx _)) (fun zb Mb qMb => ?_)
  obtain ⟨rfl, m2, m1⟩ := qMb
  refine J_icmp_eqT (tgt := 1636) dL_law_866 rfl rfl ?_
  exact J_exit ⟨rfl, rfl, rfl, _, _, _, _, _, _, _, _, _, _, m2, ks_cm m1 k2, tr_u1 _⟩
set_option maxRecDepth 100000 in
set_option maxHeartbeats 4000000 in
theorem lwc_cycle (hN : N ≤ 3072) (hx : ∀ j, -2147483648 ≤ xs j ∧ xs j < 2147483648) (hi : i + 6 ≤ N) (hs : SY M) : J (some (N, xs)) 60 mL_law 871 (lwL i) [] M (lwE i) := by
  obtain ⟨P, D, n, F, O, tl, tb, fa, tr, wh, hm, hk, hr⟩ := hs
  refine J_aload_n dL_law_871 rfl ?_
  refine J_aload_nS dL_law_872 rfl ?_
  refine J_iload dL_law_873 rfl ?_
  refine J_iconst dL_law_875 ?_
  refine J_iadd dL_law_876 ?_
  refine J_sld dL_law_877 rfl (by omega) ⟨by omega, by omega⟩ ?_
  refine J_callVi (cl := mX6_cycle) [(0, xs (((i : Int) + 1).toNat))] [] dL_law_878 mlL_114 cvX6_cycle rfl rfl rfl rfl rfl (by decide) (Nat.le_of_ble_eq_true rfl) rfl (ev_X6_cycle P D n F O tl tb fa tr wh M hk (xs (((i : Int) + 1).toNat)) (hx _)) (fun za Ma qMa => ?_)
  obtain ⟨rfl, k2, k1⟩ := qMa
  have hm1 := ms_km k1 hm
  refine J_aload_n dL_law_881 rfl ?_
  refine J_aload_nS dL_law_882 rfl ?_
  refine J_iload dL_law_883 rfl ?_
  refine J_iconst dL_law_885 ?_
  refine J_iadd dL_law_886 ?_
  refine J_sld dL_law_887 rfl (by omega) ⟨by omega, by omega⟩ ?_
  refine J_callVi (cl := mX7_cycle) [(0, xs (((i : Int) + 1).toNat))] [(0, _)] dL_law_888 mlL_117 cvX7_cycle rfl rfl rfl rfl rfl (by decide) (Nat.le_of_ble_eq_true rfl) rfl (ev_X7_cycle P D n F O tl tb fa tr wh Ma hm1 (xs (((i : Int) + 1).toNat)) (hx _)) (fun zb Mb qMb => ?_)
  obtain ⟨rfl, m2, m1⟩ := qMb
  refine J_icmp_eqT (tgt := 1636) dL_law_891 rfl rfl ?_
  exact J_exit ⟨rfl, rfl, rfl, _, _, _, _, _, _, _, _, _, _, m2, ks_cm m1 k2, tr_u1 _⟩
set_option maxRecDepth 100000 in
set_option maxHeartbeats 4000000 in
theorem lwc_mean (hN : N ≤ 3072) (hx : ∀ j, -2147483648 ≤ xs j ∧ xs j < 2147483648) (hi : i + 6 ≤ N) (hs : SY M) : J (some (N, xs)) 60 mL_law 896 (lwL i) [] M (lwE i) := by
  obtain ⟨P, D, n, F, O, tl, tb, fa, tr, wh, hm, hk, hr⟩ := hs
  refine J_aload_n dL_law_896 rfl ?_
  refine J_callVd (cl := mX6_mean) [] [] dL_law_897 mlL_118 cvX6_mean rfl rfl rfl rfl rfl (by decide) (Nat.le_of_ble_eq_true rfl) rfl (ev_X6_mean P D n F O tl tb fa tr wh M hk) (fun za Ma qMa => ?_)
  obtain ⟨rfl, k2, k1⟩ := qMa
  have hm1 := ms_km k1 hm
  refine J_dstore (L' := [(5, 0), (10, 0), (33, 0), (47, 0), (0, (i : Int)), (3, A_mean n F O), (9, 0), (9, 0), (9, 0)]) dL_law_900 (by decide) rfl rfl ?_
  refine J_aload_n dL_law_902 rfl ?_
  refine J_callVd (cl := mX7_mean) [] [] dL_law_903 mlL_122 cvX7_mean rfl rfl rfl rfl rfl (by decide) (Nat.le_of_ble_eq_true rfl) rfl (ev_X7_mean P D n F O tl tb fa tr wh Ma hm1) (fun zb Mb qMb => ?_)
  obtain ⟨rfl, m2, m1⟩ := qMb
  refine J_dstore (L' := [(5, 0), (10, 0), (33, 0), (47, 0), (0, (i : Int)), (3, A_mean n F O), (9, 0), (3, A_mean n F O), (9, 0)]) dL_law_906 (by decide) rfl rfl ?_
  refine J_dload dL_law_908 rfl ?_
  refine J_dload dL_law_910 rfl ?_
  refine J_dcmp (z := 0) dL_law_912 (mn_eq hm.1.1) ?_
  refine J_if_eq (tgt := 934) dL_law_913 rfl (by decide) (fun _ => ?_) (fun q => absurd rfl q)
  refine J_goto (tgt := 1636) dL_law_934 rfl ?_
  refine J_forget (L' := lwL i) (fun k v h => ?_) ?_
  · match k, h with
    | 0, h => exact Or.inr h
    | 1, h => exact Or.inr h
    | 2, h => exact Or.inr h
    | 3, h => exact Or.inr h
    | 4, h => exact Or.inr h
    | 5, h => exact Or.inl (by cases h; rfl)
    | 6, h => exact Or.inl (by cases h; rfl)
    | 7, h => exact Or.inl (by cases h; rfl)
    | 8, h => exact Or.inl (by cases h; rfl)
  · exact J_exit ⟨rfl, rfl, rfl, _, _, _, _, _, _, _, _, _, _, m2, ks_cm m1 k2, tr_u1 _⟩
set_option maxRecDepth 100000 in
set_option maxHeartbeats 4000000 in
theorem lwc_cell (hN : N ≤ 3072) (hx : ∀ j, -2147483648 ≤ xs j ∧ xs j < 2147483648) (hi : i + 6 ≤ N) (hs : SY M) : J (some (N, xs)) 60 mL_law 937 (lwL i) [] M (lwE i) := by
  obtain ⟨P, D, n, F, O, tl, tb, fa, tr, wh, hm, hk, hr⟩ := hs
  refine J_aload_n dL_law_937 rfl ?_
  refine J_aload_nS dL_law_938 rfl ?_
  refine J_iload dL_law_939 rfl ?_
  refine J_iconst dL_law_941 ?_
  refine J_iadd dL_law_942 ?_
  refine J_sld dL_law_943 rfl (by omega) ⟨by omega, by omega⟩ ?_
  refine J_callVi (cl := mX6_cell) [(0, xs (((i : Int) + 1).toNat))] [] dL_law_944 mlL_123 cvX6_cell rfl rfl rfl rfl rfl (by decide) (Nat.le_of_ble_eq_true rfl) rfl (ev_X6_cell P D n F O tl tb fa tr wh M hk (xs (((i : Int) + 1).toNat)) (hx _)) (fun za Ma qMa => ?_)
  obtain ⟨rfl, k2, k1⟩ := qMa
  have hm1 := ms_km k1 hm
  refine J_aload_n dL_law_947 rfl ?_
  refine J_aload_nS dL_law_948 rfl ?_
  refine J_iload dL_law_949 rfl ?_
  refine J_iconst dL_law_951 ?_
  refine J_iadd dL_law_952 ?_
  refine J_sld dL_law_953 rfl (by omega) ⟨by omega, by omega⟩ ?_
  refine J_callVi (cl := mX7_cell) [(0, xs (((i : Int) + 1).toNat))] [(0, _)] dL_law_954 mlL_126 cvX7_cell rfl rfl rfl rfl rfl (by decide) (Nat.le_of_ble_eq_true rfl) rfl (ev_X7_cell P D n F O tl tb fa tr wh Ma hm1 (xs (((i : Int) + 1).toNat)) (hx _)) (fun zb Mb qMb => ?_)
  obtain ⟨rfl, m2, m1⟩ := qMb
  refine J_icmp_eqT (tgt := 1636) dL_law_957 rfl rfl ?_
  exact J_exit ⟨rfl, rfl, rfl, _, _, _, _, _, _, _, _, _, _, m2, ks_cm m1 k2, tr_u2 _ _⟩
set_option maxRecDepth 100000 in
set_option maxHeartbeats 4000000 in
theorem lwc_fresh (hN : N ≤ 3072) (hx : ∀ j, -2147483648 ≤ xs j ∧ xs j < 2147483648) (hi : i + 6 ≤ N) (hs : SY M) : J (some (N, xs)) 60 mL_law 962 (lwL i) [] M (lwE i) := by
  obtain ⟨P, D, n, F, O, tl, tb, fa, tr, wh, hm, hk, hr⟩ := hs
  refine J_aload_n dL_law_962 rfl ?_
  refine J_aload_nS dL_law_963 rfl ?_
  refine J_iload dL_law_964 rfl ?_
  refine J_iconst dL_law_966 ?_
  refine J_iadd dL_law_967 ?_
  refine J_sld dL_law_968 rfl (by omega) ⟨by omega, by omega⟩ ?_
  refine J_callVi (cl := mX6_fresh) [(0, xs (((i : Int) + 1).toNat))] [] dL_law_969 mlL_127 cvX6_fresh rfl rfl rfl rfl rfl (by decide) (Nat.le_of_ble_eq_true rfl) rfl (ev_X6_fresh P D n F O tl tb fa tr wh M hk (xs (((i : Int) + 1).toNat)) (hx _)) (fun za Ma qMa => ?_)
  obtain ⟨rfl, k2, k1⟩ := qMa
  have hm1 := ms_km k1 hm
  refine J_aload_n dL_law_972 rfl ?_
  refine J_aload_nS dL_law_973 rfl ?_
  refine J_iload dL_law_974 rfl ?_
  refine J_iconst dL_law_976 ?_
  refine J_iadd dL_law_977 ?_
  refine J_sld dL_law_978 rfl (by omega) ⟨by omega, by omega⟩ ?_
  refine J_callVi (cl := mX7_fresh) [(0, xs (((i : Int) + 1).toNat))] [(0, _)] dL_law_979 mlL_130 cvX7_fresh rfl rfl rfl rfl rfl (by decide) (Nat.le_of_ble_eq_true rfl) rfl (ev_X7_fresh P D n F O tl tb fa tr wh Ma hm1 (xs (((i : Int) + 1).toNat)) (hx _)) (fun zb Mb qMb => ?_)
  obtain ⟨rfl, m2, m1⟩ := qMb
  refine J_icmp_eqT (tgt := 1636) dL_law_982 rfl rfl ?_
  exact J_exit ⟨rfl, rfl, rfl, _, _, _, _, _, _, _, _, _, _, m2, ks_cm m1 k2, tr_u1 _⟩
set_option maxRecDepth 100000 in
set_option maxHeartbeats 4000000 in
theorem lwc_between (hN : N ≤ 3072) (hx : ∀ j, -2147483648 ≤ xs j ∧ xs j < 2147483648) (hi : i + 6 ≤ N) (hs : SY M) : J (some (N, xs)) 60 mL_law 987 (lwL i) [] M (lwE i) := by
  obtain ⟨P, D, n, F, O, tl, tb, fa, tr, wh, hm, hk, hr⟩ := hs
  refine J_aload_n dL_law_987 rfl ?_
  refine J_aload_nS dL_law_988 rfl ?_
  refine J_iload dL_law_989 rfl ?_
  refine J_iconst dL_law_991 ?_
  refine J_iadd dL_law_992 ?_
  refine J_sld dL_law_993 rfl (by omega) ⟨by omega, by omega⟩ ?_
  refine J_callVi (cl := mX6_between) [(0, xs (((i : Int) + 1).toNat))] [] dL_law_994 mlL_131 cvX6_between rfl rfl rfl rfl rfl (by decide) (Nat.le_of_ble_eq_true rfl) rfl (ev_X6_between P D n F O tl tb fa tr wh M hk (xs (((i : Int) + 1).toNat)) (hx _)) (fun za Ma qMa => ?_)
  obtain ⟨rfl, k2, k1⟩ := qMa
  have hm1 := ms_km k1 hm
  refine J_aload_n dL_law_997 rfl ?_
  refine J_aload_nS dL_law_998 rfl ?_
  refine J_iload dL_law_999 rfl ?_
  refine J_iconst dL_law_1001 ?_
  refine J_iadd dL_law_1002 ?_
  refine J_sld dL_law_1003 rfl (by omega) ⟨by omega, by omega⟩ ?_
  refine J_callVi (cl := mX7_between) [(0, xs (((i : Int) + 1).toNat))] [(0, _)] dL_law_1004 mlL_134 cvX7_between rfl rfl rfl rfl rfl (by decide) (Nat.le_of_ble_eq_true rfl) rfl (ev_X7_between P D n F O tl tb fa tr wh Ma hm1 (xs (((i : Int) + 1).toNat)) (hx _)) (fun zb Mb qMb => ?_)
  obtain ⟨rfl, m2, m1⟩ := qMb
  refine J_icmp_eqT (tgt := 1636) dL_law_1007 rfl rfl ?_
  exact J_exit ⟨rfl, rfl, rfl, _, _, _, _, _, _, _, _, _, _, m2, ks_cm m1 k2, tr_u2 _ _⟩
end LWC
