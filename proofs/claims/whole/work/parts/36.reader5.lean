def psB (n : Nat) (tb : Nat → Nat) (go : Nat → Nat → Nat → Nat → (Nat → Nat) → LnR) (s P D m : Nat) (R : Nat → Nat) : LnR :=
  if tkK n tb s = 59 then go (tkN n tb s) P D m R else if ¬ tkK n tb s = 0 then .inl (1, tkP n tb s) else if 0 < m then .inr (s, P, D, m, R) else .inl (6, tkP n tb s)
/-- the whole text, line by line -/
def psR (n : Nat) (tb : Nat → Nat) : Nat → Nat → Nat → Nat → Nat → (Nat → Nat) → LnR
  | 0, s, _, _, _, _ => .inl (1, tkP n tb s)
  | f + 1, s, P, D, m, R => match lnR n tb s P D m R with
    | .inl e => .inl e
    | .inr (s', P', D', m', R') => psB n tb (psR n tb f) s' P' D' m' R'
theorem lnR_ge {n : Nat} {tb : Nat → Nat} {s P D m s' P' D' m' : Nat} {R R' : Nat → Nat} (hs : s ≤ n) (h : lnR n tb s P D m R = .inr (s', P', D', m', R')) : s ≤ s' ∧ s' ≤ n := by
  have g : ∀ t, t ≤ tkN n tb t := fun t => Nat.le_trans (tkP_ge n tb t) (tkN_ge n tb t)
  have l : ∀ t, t ≤ n → tkN n tb t ≤ n := fun t h => tkN_le h
  have e5 : s ≤ tkN n tb (tkN n tb (tkN n tb (tkN n tb (tkN n tb s)))) ∧ tkN n tb (tkN n tb (tkN n tb (tkN n tb (tkN n tb s)))) ≤ n := ⟨Nat.le_trans (g s) (Nat.le_trans (g _) (Nat.le_trans (g _) (Nat.le_trans (g _) (g _)))), l _ (l _ (l _ (l _ (l _ hs))))⟩
  have e2 : s ≤ tkN n tb (tkN n tb s) ∧ tkN n tb (tkN n tb s) ≤ n := ⟨Nat.le_trans (g s) (g _), l _ (l _ hs)⟩
  unfold lnR at h
  split at h
  · unfold hdR at h
    split at h
    · cases h
    · split at h
      · split at h
        · cases h; exact e5
        · cases h
      · cases h
  · split at h
    · unfold fcR at h
      split at h
      · cases h
      split at h
      · cases h
      split at h
      · cases h
      split at h
      · cases h
      split at h
      · cases h
      · cases h; exact e2
    · cases h
def PsQ (M : jM) (r : LnR) (z : Int) (M' : jM) : Prop := Fz [12, 13, 14, 15, 16, 17, 18, 19, 20, 21] [27] M M' ∧ match r with
  | .inl (f, p) => z = 0 ∧ M' 23 17 = (f : Int) ∧ M' 23 18 = (p : Int)
  | .inr (_, P, D, m, R) => z = 1 ∧ M' 23 19 = (P : Int) ∧ M' 23 20 = (D : Int) ∧ M' 23 21 = (m : Int) ∧ (P ≤ 7 ∧ D ≤ 5 ∧ m ≤ 12) ∧ ∀ j : Nat, j < m → M' 27 (j : Int) = (R j : Int) ∧ R j < 128
theorem psq01 {M M' : jM} {r : LnR} {z : Int} (h : PsQ M r z M') : z = 0 ∨ z = 1 := by
  obtain ⟨-, h⟩ := h
  match r, h with
  | .inl (f, p), h => exact Or.inl h.1
  | .inr (s, P, D, m, R), h => exact Or.inr h.1
theorem lnq_inl {n : Nat} {tb : Nat → Nat} {M M' : jM} {r : LnR} {z : Int} (h : LnQ n tb M r z M') (hz : z = 0) : ∃ f p : Nat, r = .inl (f, p) ∧ M' 23 17 = (f : Int) ∧ M' 23 18 = (p : Int) := by
  obtain ⟨-, h⟩ := h
  match r, h with
  | .inl (f, p), h => exact ⟨f, p, rfl, h.2⟩
  | .inr (s, P, D, m, R), h => have := h.1; omega
theorem lnq_inr {n : Nat} {tb : Nat → Nat} {M M' : jM} {r : LnR} {z : Int} (h : LnQ n tb M r z M') (hz : ¬ z = 0) : ∃ (s P D m : Nat) (R : Nat → Nat), r = .inr (s, P, D, m, R) ∧ LnS n tb s P D m R M' ∧ 0 < P := by
  obtain ⟨-, h⟩ := h
  match r, h with
  | .inl (f, p), h => have := h.1; omega
  | .inr (s, P, D, m, R), h => exact ⟨s, P, D, m, R, rfl, h.2⟩
set_option maxRecDepth 100000 in
set_option maxHeartbeats 4000000 in
theorem ev_X7_readLine (n : Nat) (tb : Nat → Nat) (s P D m : Nat) (R : Nat → Nat) (M : jM) (hL : LnS n tb s P D m R M) : Ev 7 mX7_readLine [(33, 0)] M (fun z M' => LnQ n tb M (lnR n tb s P D m R) z M') := by
  refine Ev_of (by decide +kernel) (Nat.le_of_ble_eq_true rfl) (L := [(33, 0)]) rfl ?_
  have hC := hL.1
  have hM := hC.1
  have hn2 := hC.1.1
  have hsn := hC.2.1
  have hN := tkN_le (tb := tb) hC.2.1
  have hPN := tkN_ge n tb s
  have hK := tkK_le n tb s
  have hPm := hL.2.2.2.2.1
  refine J_aload_n dX7_readLine_0 rfl ?_
  refine J_ldcT (z := 0) (i := 0) (tx := "complex") dX7_readLine_1 (by decide) rfl ?_
  refine J_callViQ (cl := mX7_isWord) [(4, 0)] [] dX7_readLine_3 mlX7_107 cvX7_isWord rfl rfl rfl rfl rfl (by decide) (Nat.le_of_ble_eq_true rfl) rfl (ev_X7_isWord n tb s M hC 0 (by omega)) ?_
  refine J_ifb_eq (tgt := 14) dX7_readLine_6 rfl (fun h6 => ?_) (fun h6 => ?_)
  ·
    refine J_aload_n dX7_readLine_14 rfl ?_
    refine J_ldcT (z := 1) (i := 1) (tx := "facet") dX7_readLine_15 (by decide) rfl ?_
    refine J_callViQ (cl := mX7_isWord) [(4, 1)] [] dX7_readLine_17 mlX7_107 cvX7_isWord rfl rfl rfl rfl rfl (by decide) (Nat.le_of_ble_eq_true rfl) rfl (ev_X7_isWord n tb s M hC 1 (by omega)) ?_
    refine J_ifb_eq (tgt := 30) dX7_readLine_20 rfl (fun h20 => ?_) (fun h20 => ?_)
    ·
      refine J_aload_n dX7_readLine_30 rfl ?_
      refine J_iconst dX7_readLine_31 ?_
      refine J_callViQ (cl := mX7_errs) [(0, 1)] [] dX7_readLine_32 mlX7_114 cvX7_errs rfl rfl rfl rfl rfl (by decide) (Nat.le_of_ble_eq_true rfl) rfl (ev_X7_errs 1 (((tkP n tb s) : Nat) : Int) M hC.2.2.1) ?_
      refine J_zreturn dX7_readLine_35 rfl (Or.inl rfl) ?_
      unfold lnR; rw [if_neg (by rw [h6]; decide), if_neg (by rw [h20]; decide)]
      exact ⟨Fz_upz (by decide) (Fz_upz (by decide) Fz_rf), rfl, by rw [j_up_nz (by decide), j_up_eq]; rfl, by rw [j_up_eq]⟩
    ·
      refine J_aload_n dX7_readLine_23 rfl ?_
      refine J_callVi (cl := mX7_readFacet) [] [] dX7_readLine_24 mlX7_153 cvX7_readFacet rfl rfl rfl rfl rfl (by decide) (Nat.le_of_ble_eq_true rfl) rfl (ev_X7_readFacet n tb s P D m R M hL) (fun z24 M1 hq24 => ?_)
      have hq24 := hq24
      refine J_goto (tgt := 35) dX7_readLine_27 rfl ?_
      refine J_zreturn dX7_readLine_35 rfl (lnq01 hq24) ?_
      unfold lnR; rw [if_neg (by rw [h6]; decide), if_pos h20]; exact hq24
  ·
    refine J_aload_n dX7_readLine_9 rfl ?_
    refine J_callVi (cl := mX7_readComplex) [] [] dX7_readLine_10 mlX7_147 cvX7_readComplex rfl rfl rfl rfl rfl (by decide) (Nat.le_of_ble_eq_true rfl) rfl (ev_X7_readComplex n tb s P D m R M hL) (fun z10 M1 hq10 => ?_)
    have hq10 := hq10
    refine J_zreturn dX7_readLine_13 rfl (lnq01 hq10) ?_
    unfold lnR; rw [if_pos h6]; exact hq10
set_option maxRecDepth 100000 in
set_option maxHeartbeats 4000000 in
theorem ev_X7_readAll_L33 (n : Nat) (tb : Nat → Nat) (M : jM) (hn2 : n ≤ 200) (hT : ∀ i : Nat, i < n → M 24 (i : Int) = (tb i : Int) ∧ tb i < 256)  : ∀ (fu : Nat) (M2 : jM) (s P D m f : Nat) (R : Nat → Nat) (f1 : Fz [12, 13, 14, 15, 16, 17, 18, 19, 20, 21] [27] M M2) (hL : LnS n tb s P D m R M2) (f3 : 0 < P) (f4 : psR n tb 202 0 0 0 0 (fun _ => 0) = psB n tb (psR n tb f) s P D m R) (f5 : n - s < f) (hfu : n - s < fu), J none 8 mX7_readAll 33 [(33, 0), (0, ((n : Nat) : Int))] [] M2 (j_ret mX7_readAll (fun z M' => PsQ M (psR n tb 202 0 0 0 0 (fun _ => 0)) z M')) := by
  intro fu
  induction fu with
  | zero => intro M2 s P D m f R f1 hL f3 f4 f5 hfu; exact absurd hfu (Nat.not_lt_zero _)
  | succ fu ih =>
    intro M2 s P D m f R f1 hL f3 f4 f5 hfu
    refine J_aload_n dX7_readAll_33 rfl ?_
    refine J_getI dX7_readAll_34 flX7_81 rfl rfl (J_top (v := (((tkK n tb s) : Nat) : Int)) hL.1.2.2.2.2.1 ?_)
    refine J_bipush dX7_readAll_37 (by decide) ?_
    refine J_icmp_ne (tgt := 55) dX7_readAll_39 rfl (j_R (by have := tkK_le n tb s; omega)) (by decide) (fun h39 => ?_) (fun h39 => ?_)
    ·
      refine J_aload_n dX7_readAll_55 rfl ?_
      refine J_getI dX7_readAll_56 flX7_81 rfl rfl (J_top (v := (((tkK n tb s) : Nat) : Int)) hL.1.2.2.2.2.1 ?_)
      refine J_if_eq (tgt := 68) dX7_readAll_59 rfl (j_R (by have := tkK_le n tb s; omega)) (fun h59 => ?_) (fun h59 => ?_)
      ·
        refine J_aload_n dX7_readAll_68 rfl ?_
        refine J_getI dX7_readAll_69 flX7_139 rfl rfl (J_top (v := ((m : Nat) : Int)) hL.2.2.2.1 ?_)
        refine J_if_gt (tgt := 84) dX7_readAll_72 rfl (j_R (by have := hL.2.2.2.2.1; omega)) (fun h72 => ?_) (fun h72 => ?_)
        ·
          refine J_iconst dX7_readAll_84 ?_
          refine J_goto (tgt := 89) dX7_readAll_85 rfl ?_
          refine J_zreturn dX7_readAll_89 rfl (Or.inr rfl) ?_
          have hr : psR n tb 202 0 0 0 0 (fun _ => 0) = .inr (s, P, D, m, R) := by rw [f4]; unfold psB; rw [if_neg (by omega), if_neg (by omega), if_pos (by omega)]
          rw [hr]
          exact ⟨f1, rfl, hL.2.1, hL.2.2.1 f3, hL.2.2.2.1, hL.2.2.2.2.1, hL.2.2.2.2.2⟩
        ·
          refine J_aload_n dX7_readAll_75 rfl ?_
          refine J_bipush dX7_readAll_76 (by decide) ?_
          refine J_callViQ (cl := mX7_errs) [(0, 6)] [] dX7_readAll_78 mlX7_114 cvX7_errs rfl rfl rfl rfl rfl (by decide) (Nat.le_of_ble_eq_true rfl) rfl (ev_X7_errs 6 (((tkP n tb s) : Nat) : Int) M2 hL.1.2.2.1) ?_
          refine J_if_eq (tgt := 88) dX7_readAll_81 rfl (by decide) (fun h81 => ?_) (fun h81 => ?_)
          ·
            refine J_iconst dX7_readAll_88 ?_
            refine J_zreturn dX7_readAll_89 rfl (Or.inl rfl) ?_
            have hr : psR n tb 202 0 0 0 0 (fun _ => 0) = .inl (6, tkP n tb s) := by rw [f4]; unfold psB; rw [if_neg (by omega), if_neg (by omega), if_neg (by omega)]
            rw [hr]
            exact ⟨Fz_upz (by decide) (Fz_upz (by decide) f1), rfl, by rw [j_up_nz (by decide), j_up_eq]; rfl, by rw [j_up_eq]⟩
          · exact absurd h81 (by decide)
      ·
        refine J_aload_n dX7_readAll_62 rfl ?_
        refine J_iconst dX7_readAll_63 ?_
        refine J_callViQ (cl := mX7_errs) [(0, 1)] [] dX7_readAll_64 mlX7_114 cvX7_errs rfl rfl rfl rfl rfl (by decide) (Nat.le_of_ble_eq_true rfl) rfl (ev_X7_errs 1 (((tkP n tb s) : Nat) : Int) M2 hL.1.2.2.1) ?_
        refine J_zreturn dX7_readAll_67 rfl (Or.inl rfl) ?_
        have hr : psR n tb 202 0 0 0 0 (fun _ => 0) = .inl (1, tkP n tb s) := by rw [f4]; unfold psB; rw [if_neg (by omega), if_pos (by omega)]
        rw [hr]
        exact ⟨Fz_upz (by decide) (Fz_upz (by decide) f1), rfl, by rw [j_up_nz (by decide), j_up_eq]; rfl, by rw [j_up_eq]⟩
    ·
      refine J_aload_n dX7_readAll_42 rfl ?_
      refine J_callVv (cl := mX7_goesOn) [] [] dX7_readAll_43 mlX7_111 cvX7_goesOn rfl rfl rfl rfl rfl (by decide) (Nat.le_of_ble_eq_true rfl) rfl (ev_X7_goesOn n tb M2 hL.1.1 (tkN n tb s) (tkN_le hL.1.2.1) hL.1.2.2.2.1) (fun M4 hq43 => ?_)
      obtain ⟨a1, a2⟩ := hq43
      refine J_aload_n dX7_readAll_46 rfl ?_
      refine J_callVi (cl := mX7_readLine) [] [] dX7_readAll_47 mlX7_156 cvX7_readLine rfl rfl rfl rfl rfl (by decide) (Nat.le_of_ble_eq_true rfl) rfl (ev_X7_readLine n tb (tkN n tb s) P D m R M4 (lns_fz hL a1 a2 (by decide))) (fun z47 M5 hq47 => ?_)
      have hq47 := hq47
      refine J_if_ne (tgt := 33) dX7_readAll_50 rfl (by rcases lnq01 hq47 with q | q <;> omega) (fun h50 => ?_) (fun h50 => ?_)
      ·
        obtain ⟨s', P', D', m', R', r1, r2, r3⟩ := lnq_inr hq47 h50
        exact ih _ s' P' D' m' (f - 1) R' (by exact Fz_tr f1 (Fz_tr (Fz_mo a2 (by decide) (by decide)) (Fz_mo hq47.1 (by decide) (by decide)))) (by exact r2) (by exact r3) (by rw [f4]; unfold psB; rw [if_pos (by omega)]; obtain ⟨f0, rfl⟩ : ∃ f0, f = f0 + 1 := ⟨f - 1, by omega⟩; rw [show psR n tb (f0 + 1) (tkN n tb s) P D m R = psB n tb (psR n tb f0) s' P' D' m' R' by rw [psR, r1]]; rfl) (by have h7 := lnR_ge (tkN_le hL.1.2.1) r1; have h8 := tkN_gt (n := n) (tb := tb) (s := s) (by omega); have h9 := tkP_ge n tb s; omega) (by have h7 := lnR_ge (tkN_le hL.1.2.1) r1; have h8 := tkN_gt (n := n) (tb := tb) (s := s) (by omega); have h9 := tkP_ge n tb s; have := tkN_le (tb := tb) hL.1.2.1; omega)
      ·
        refine J_iconst dX7_readAll_53 ?_
        refine J_zreturn dX7_readAll_54 rfl (Or.inl rfl) ?_
        obtain ⟨f9, p, r1, r2, r3⟩ := lnq_inl hq47 h50
        obtain ⟨f0, rfl⟩ : ∃ f0, f = f0 + 1 := ⟨f - 1, by omega⟩
        have hr : psR n tb 202 0 0 0 0 (fun _ => 0) = .inl (f9, p) := by rw [f4]; unfold psB; rw [if_pos (by omega), psR, r1]
        rw [hr]
        exact ⟨Fz_tr f1 (Fz_tr (Fz_mo a2 (by decide) (by decide)) (Fz_mo hq47.1 (by decide) (by decide))), rfl, r2, r3⟩
set_option maxRecDepth 100000 in
set_option maxHeartbeats 4000000 in
theorem ev_X7_readAll (n : Nat) (tb : Nat → Nat) (M : jM) (hn2 : n ≤ 200) (hT : ∀ i : Nat, i < n → M 24 (i : Int) = (tb i : Int) ∧ tb i < 256) : Ev 8 mX7_readAll [(33, 0), (0, ((n : Nat) : Int))] M (fun z M' => PsQ M (psR n tb 202 0 0 0 0 (fun _ => 0)) z M') := by
  refine Ev_of (by decide +kernel) (Nat.le_of_ble_eq_true rfl) (L := [(33, 0), (0, ((n : Nat) : Int))]) rfl ?_
  refine J_aload_n dX7_readAll_0 rfl ?_
  refine J_iload_n dX7_readAll_1 rfl ?_
  refine J_putI dX7_readAll_2 flX7_68 rfl rfl (Or.inl rfl) ?_
  refine J_aload_n dX7_readAll_5 rfl ?_
  refine J_iconst dX7_readAll_6 ?_
  refine J_putI dX7_readAll_7 flX7_71 rfl rfl (Or.inl rfl) ?_
  refine J_aload_n dX7_readAll_10 rfl ?_
  refine J_iconst dX7_readAll_11 ?_
  refine J_putI dX7_readAll_12 flX7_118 rfl rfl (Or.inl rfl) ?_
  refine J_aload_n dX7_readAll_15 rfl ?_
  refine J_iconst dX7_readAll_16 ?_
  refine J_putI dX7_readAll_17 flX7_139 rfl rfl (Or.inl rfl) ?_
  have hM0 : RM n tb (j_up (j_up (j_up (j_up M 23 12 ((n : Nat) : Int)) 23 14 0) 23 19 0) 23 21 0) := ⟨hn2, ru_nz (by decide) (ru_nz (by decide) (ru_nz (by decide) j_up_eq)), fun i hi => ⟨ru_ne (by decide) (ru_ne (by decide) (ru_ne (by decide) (ru_ne (by decide) (hT i hi).1))), (hT i hi).2⟩⟩
  refine J_aload_n dX7_readAll_20 rfl ?_
  refine J_callVv (cl := mX7_goesOn) [] [] dX7_readAll_21 mlX7_111 cvX7_goesOn rfl rfl rfl rfl rfl (by decide) (Nat.le_of_ble_eq_true rfl) rfl (ev_X7_goesOn n tb (j_up (j_up (j_up (j_up M 23 12 ((n : Nat) : Int)) 23 14 0) 23 19 0) 23 21 0) hM0 0 (Nat.zero_le _) (ru_nz (by decide) (ru_nz (by decide) j_up_eq))) (fun M1 hq21 => ?_)
  obtain ⟨a1, a2⟩ := hq21
  refine J_aload_n dX7_readAll_24 rfl ?_
  refine J_callVi (cl := mX7_readLine) [] [] dX7_readAll_25 mlX7_156 cvX7_readLine rfl rfl rfl rfl rfl (by decide) (Nat.le_of_ble_eq_true rfl) rfl (ev_X7_readLine n tb 0 0 0 0 (fun _ => 0) M1 ⟨a1, by rw [a2.2 19 (by decide)]; exact ru_nz (by decide) j_up_eq, fun q => absurd q (by decide), by rw [a2.2 21 (by decide)]; exact j_up_eq, by decide, fun j hj => absurd hj (by omega)⟩) (fun z25 M3 hq25 => ?_)
  have hq25 := hq25
  refine J_if_ne (tgt := 33) dX7_readAll_28 rfl (by rcases lnq01 hq25 with q | q <;> omega) (fun h28 => ?_) (fun h28 => ?_)
  ·
    obtain ⟨s', P', D', m', R', r1, r2, r3⟩ := lnq_inr hq25 h28
    exact ev_X7_readAll_L33 n tb M hn2 hT  _ _ s' P' D' m' 201 R' (by exact Fz_tr (Fz_tr (Fz_upz (by decide) (Fz_upz (by decide) (Fz_upz (by decide) (Fz_upz (by decide) Fz_rf)))) (Fz_mo a2 (by decide) (by decide))) (Fz_mo hq25.1 (by decide) (by decide))) (by exact r2) (by exact r3) (by rw [psR, r1]) (by have := lnR_ge (Nat.zero_le _) r1; omega) (Nat.lt_succ_self _)
  ·
    refine J_iconst dX7_readAll_31 ?_
    refine J_zreturn dX7_readAll_32 rfl (Or.inl rfl) ?_
    obtain ⟨f, p, r1, r2, r3⟩ := lnq_inl hq25 h28
    have hr : psR n tb 202 0 0 0 0 (fun _ => 0) = .inl (f, p) := by rw [psR, r1]
    rw [hr]
    exact ⟨Fz_tr (Fz_tr (Fz_upz (by decide) (Fz_upz (by decide) (Fz_upz (by decide) (Fz_upz (by decide) Fz_rf)))) (Fz_mo a2 (by decide) (by decide))) (Fz_mo hq25.1 (by decide) (by decide)), rfl, r2, r3⟩
